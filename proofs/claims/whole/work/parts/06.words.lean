theorem xtb1 {w : Cond} (h : w ∈ tables_1_1) : w ∈ lw_tbl := List.mem_append_right _ (show w ∈ tables_1_1 ++ (tables_1_2 ++ (tables_1_3 ++ (tables_1_4 ++ (tables_1_5 ++ tables_1_6)))) from List.mem_append_left _ h)
theorem xtb2 {w : Cond} (h : w ∈ tables_1_2) : w ∈ lw_tbl := List.mem_append_right _ (show w ∈ tables_1_1 ++ (tables_1_2 ++ (tables_1_3 ++ (tables_1_4 ++ (tables_1_5 ++ tables_1_6)))) from List.mem_append_right _ (List.mem_append_left _ h))
theorem xtb3 {w : Cond} (h : w ∈ tables_1_3) : w ∈ lw_tbl := List.mem_append_right _ (show w ∈ tables_1_1 ++ (tables_1_2 ++ (tables_1_3 ++ (tables_1_4 ++ (tables_1_5 ++ tables_1_6)))) from List.mem_append_right _ (List.mem_append_right _ (List.mem_append_left _ h)))
theorem xtb4 {w : Cond} (h : w ∈ tables_1_4) : w ∈ lw_tbl := List.mem_append_right _ (show w ∈ tables_1_1 ++ (tables_1_2 ++ (tables_1_3 ++ (tables_1_4 ++ (tables_1_5 ++ tables_1_6)))) from List.mem_append_right _ (List.mem_append_right _ (List.mem_append_right _ (List.mem_append_left _ h))))
theorem xtb5 {w : Cond} (h : w ∈ tables_1_5) : w ∈ lw_tbl := List.mem_append_right _ (show w ∈ tables_1_1 ++ (tables_1_2 ++ (tables_1_3 ++ (tables_1_4 ++ (tables_1_5 ++ tables_1_6)))) from List.mem_append_right _ (List.mem_append_right _ (List.mem_append_right _ (List.mem_append_right _ (List.mem_append_left _ h)))))
theorem xtb6 {w : Cond} (h : w ∈ tables_1_6) : w ∈ lw_tbl := List.mem_append_right _ (show w ∈ tables_1_1 ++ (tables_1_2 ++ (tables_1_3 ++ (tables_1_4 ++ (tables_1_5 ++ tables_1_6)))) from List.mem_append_right _ (List.mem_append_right _ (List.mem_append_right _ (List.mem_append_right _ (List.mem_append_right _ (h))))))
theorem xin_0 : ∀ w ∈ u_ws RX0 TX0 1, w ∈ xW := by decide +kernel
theorem xin_1 : ∀ w ∈ u_ws RX1 TX1 1, w ∈ xW := by decide +kernel
theorem xin_2 : ∀ w ∈ u_ws RX2 TX2 1, w ∈ xW := by decide +kernel
theorem xin_3 : ∀ w ∈ u_ws RX3 TX3 5, w ∈ xW := by decide +kernel
theorem xin_4 : ∀ w ∈ u_ws RX4 TX4 1, w ∈ xW := by decide +kernel
theorem xin_5 : ∀ w ∈ u_ws RX5 TX5 1, w ∈ xW := by decide +kernel
theorem xin_6 : ∀ w ∈ u_ws RX6 TX6 1, w ∈ xW := by decide +kernel
theorem xin_7 : ∀ w ∈ u_ws RX7 TX7 5, w ∈ xW := by decide +kernel
theorem xin_8 : ∀ w ∈ u_ws RX8 TX8 3, w ∈ xW := by decide +kernel
theorem xin_9 : ∀ w ∈ u_ws RX9 TX9 9, w ∈ xW := by decide +kernel
theorem xin_10 : ∀ w ∈ u_ws RX10 TX10 3, w ∈ xW := by decide +kernel
theorem xin_11 : ∀ w ∈ u_ws RX11 TX11 14, w ∈ xW := by decide +kernel
theorem xin_12 : ∀ w ∈ u_ws RX12 TX12 41, w ∈ xW := by decide +kernel
theorem xw118 : Cond.methodLink RX0 3 yX6_init ∈ xW := xW_of (xtb1 (List.mem_of_getElem? (i := 63) rfl)) rfl
theorem xw100 : Cond.instanceMethod yX6_init ∈ xW := xW_of (xtb1 (List.mem_of_getElem? (i := 45) rfl)) rfl
theorem xw58 : Cond.initialized RX6 ∈ xW := xW_of (xtb1 (List.mem_of_getElem? (i := 3) rfl)) rfl
theorem xw101 : Cond.code yX6_init cX6_init 2 none ∈ xW := xW_of (xtb1 (List.mem_of_getElem? (i := 46) rfl)) rfl
theorem ki_X0_3 : xKi RX0 3 yX6_init cX6_init 2 1 := ⟨xw118, xw100, xw58, xw101, rfl, ⟨by decide +kernel, by decide +kernel, by decide +kernel⟩⟩
theorem xw615 : Cond.methodLink RX0 9 yX6_dullerBy ∈ xW := xW_of (xtb3 (List.mem_of_getElem? (i := 80) rfl)) rfl
theorem xw1262 : Cond.sameMethod RX6 RX6 "dullerBy" "(IIII)I" ∈ xW := xW_of (xtb6 (List.mem_of_getElem? (i := 7) rfl)) rfl
theorem xw120 : Cond.superclass RX0 RX6 ∈ xW := xW_of (xtb1 (List.mem_of_getElem? (i := 65) rfl)) rfl
theorem xw616 : Cond.instanceMethod yX6_dullerBy ∈ xW := xW_of (xtb3 (List.mem_of_getElem? (i := 81) rfl)) rfl
theorem xw617 : Cond.code yX6_dullerBy cX6_dullerBy 5 (some .int) ∈ xW := xW_of (xtb3 (List.mem_of_getElem? (i := 82) rfl)) rfl
theorem kp_X0_9 : xKp RX0 9 yX6_dullerBy cX6_dullerBy 5 (some .int) 4 := ⟨xw615, xw1262, xw120, xw616, xw58, xw617, by decide +kernel, by decide +kernel⟩
theorem xw541 : Cond.constant RX0 13 (36873) ∈ xW := xW_of (xtb3 (List.mem_of_getElem? (i := 6) rfl)) rfl
theorem cn_X0_13 : Cond.constant RX0 13 (36873) ∈ xW := xw541
theorem xw543 : Cond.static yX11_has ∈ xW := xW_of (xtb3 (List.mem_of_getElem? (i := 8) rfl)) rfl
theorem xw56 : Cond.initialized RX11 ∈ xW := xW_of (xtb1 (List.mem_of_getElem? (i := 1) rfl)) rfl
theorem xw544 : Cond.code yX11_has cX11_has 2 (some .boolean) ∈ xW := xW_of (xtb3 (List.mem_of_getElem? (i := 9) rfl)) rfl
theorem kn_X0_14 : xKn RX0 14 yX11_has RX11 cX11_has 2 (some .boolean) 2 := ⟨by simp [xNw], xw543, xw56, xw544, ⟨by decide +kernel, by decide +kernel, by decide +kernel⟩⟩
theorem xw110 : Cond.methodLink RX1 3 yX4_init ∈ xW := xW_of (xtb1 (List.mem_of_getElem? (i := 55) rfl)) rfl
theorem xw89 : Cond.instanceMethod yX4_init ∈ xW := xW_of (xtb1 (List.mem_of_getElem? (i := 34) rfl)) rfl
theorem xw57 : Cond.initialized RX4 ∈ xW := xW_of (xtb1 (List.mem_of_getElem? (i := 2) rfl)) rfl
theorem xw90 : Cond.code yX4_init cX4_init 2 none ∈ xW := xW_of (xtb1 (List.mem_of_getElem? (i := 35) rfl)) rfl
theorem ki_X1_3 : xKi RX1 3 yX4_init cX4_init 2 1 := ⟨xw110, xw89, xw57, xw90, rfl, ⟨by decide +kernel, by decide +kernel, by decide +kernel⟩⟩
theorem xw580 : Cond.methodLink RX1 9 yX4_costBy ∈ xW := xW_of (xtb3 (List.mem_of_getElem? (i := 45) rfl)) rfl
theorem xw575 : Cond.sameMethod RX4 RX4 "costBy" "(II)I" ∈ xW := xW_of (xtb3 (List.mem_of_getElem? (i := 40) rfl)) rfl
theorem xw112 : Cond.superclass RX1 RX4 ∈ xW := xW_of (xtb1 (List.mem_of_getElem? (i := 57) rfl)) rfl
theorem xw573 : Cond.instanceMethod yX4_costBy ∈ xW := xW_of (xtb3 (List.mem_of_getElem? (i := 38) rfl)) rfl
theorem xw591 : Cond.code yX4_costBy cX4_costBy 3 (some .int) ∈ xW := xW_of (xtb3 (List.mem_of_getElem? (i := 56) rfl)) rfl
theorem kp_X1_9 : xKp RX1 9 yX4_costBy cX4_costBy 3 (some .int) 2 := ⟨xw580, xw575, xw112, xw573, xw57, xw591, by decide +kernel, by decide +kernel⟩
theorem kn_X1_13 : xKn RX1 13 yX11_has RX11 cX11_has 2 (some .boolean) 2 := ⟨by simp [xNw], xw543, xw56, xw544, ⟨by decide +kernel, by decide +kernel, by decide +kernel⟩⟩
theorem xw126 : Cond.methodLink RX2 1 yX1_init ∈ xW := xW_of (xtb1 (List.mem_of_getElem? (i := 71) rfl)) rfl
theorem xw108 : Cond.instanceMethod yX1_init ∈ xW := xW_of (xtb1 (List.mem_of_getElem? (i := 53) rfl)) rfl
theorem xw59 : Cond.initialized RX1 ∈ xW := xW_of (xtb1 (List.mem_of_getElem? (i := 4) rfl)) rfl
theorem xw109 : Cond.code yX1_init cX1_init 2 none ∈ xW := xW_of (xtb1 (List.mem_of_getElem? (i := 54) rfl)) rfl
theorem ki_X2_1 : xKi RX2 1 yX1_init cX1_init 2 1 := ⟨xw126, xw108, xw59, xw109, rfl, ⟨by decide +kernel, by decide +kernel, by decide +kernel⟩⟩
theorem xw585 : Cond.methodLink RX2 7 yX1_costBy ∈ xW := xW_of (xtb3 (List.mem_of_getElem? (i := 50) rfl)) rfl
theorem xw1261 : Cond.sameMethod RX1 RX1 "costBy" "(II)I" ∈ xW := xW_of (xtb6 (List.mem_of_getElem? (i := 6) rfl)) rfl
theorem xw128 : Cond.superclass RX2 RX1 ∈ xW := xW_of (xtb1 (List.mem_of_getElem? (i := 73) rfl)) rfl
theorem xw578 : Cond.instanceMethod yX1_costBy ∈ xW := xW_of (xtb3 (List.mem_of_getElem? (i := 43) rfl)) rfl
theorem xw579 : Cond.code yX1_costBy cX1_costBy 4 (some .int) ∈ xW := xW_of (xtb3 (List.mem_of_getElem? (i := 44) rfl)) rfl
theorem kp_X2_7 : xKp RX2 7 yX1_costBy cX1_costBy 4 (some .int) 2 := ⟨xw585, xw1261, xw128, xw578, xw59, xw579, by decide +kernel, by decide +kernel⟩
theorem xw173 : Cond.methodLink RX3 3 Lib.objectInit ∈ xW := xW_of (xtb1 (List.mem_of_getElem? (i := 118) rfl)) rfl
theorem xw84 : Cond.code Lib.objectInit ⟨#[0xb1]⟩ 1 none ∈ xW := xW_of (xtb1 (List.mem_of_getElem? (i := 29) rfl)) rfl
theorem xw83 : Cond.instanceMethod Lib.objectInit ∈ xW := xW_of (xtb1 (List.mem_of_getElem? (i := 28) rfl)) rfl
theorem xw174 : Cond.fieldLink RX3 9 "DreamWindows$Image" "sleepers" "I" ∈ xW := xW_of (xtb1 (List.mem_of_getElem? (i := 119) rfl)) rfl
theorem fl_X3_9_3 : xFl RX3 9 3 0 (.int) false := ⟨RX3, TX3, 5, tyX3, rfl, by decide, xin_3, xw174, tyX3_ok, nmX3, tyX3_ok 0 (by decide), rfl⟩
theorem xw176 : Cond.fieldLink RX3 15 "DreamWindows$Image" "night" "I" ∈ xW := xW_of (xtb1 (List.mem_of_getElem? (i := 121) rfl)) rfl
theorem fl_X3_15_3 : xFl RX3 15 3 1 (.int) false := ⟨RX3, TX3, 5, tyX3, rfl, by decide, xin_3, xw176, tyX3_ok, nmX3, tyX3_ok 1 (by decide), rfl⟩
theorem xw178 : Cond.fieldLink RX3 18 "DreamWindows$Image" "minutes" "I" ∈ xW := xW_of (xtb1 (List.mem_of_getElem? (i := 123) rfl)) rfl
theorem fl_X3_18_3 : xFl RX3 18 3 2 (.int) false := ⟨RX3, TX3, 5, tyX3, rfl, by decide, xin_3, xw178, tyX3_ok, nmX3, tyX3_ok 2 (by decide), rfl⟩
theorem xw180 : Cond.fieldLink RX3 21 "DreamWindows$Image" "law" "I" ∈ xW := xW_of (xtb1 (List.mem_of_getElem? (i := 125) rfl)) rfl
theorem fl_X3_21_3 : xFl RX3 21 3 3 (.int) false := ⟨RX3, TX3, 5, tyX3, rfl, by decide, xin_3, xw180, tyX3_ok, nmX3, tyX3_ok 3 (by decide), rfl⟩
theorem xw182 : Cond.fieldLink RX3 24 "DreamWindows$Image" "panes" "[LDreamWindows$Pane;" ∈ xW := xW_of (xtb1 (List.mem_of_getElem? (i := 127) rfl)) rfl
theorem fl_X3_24_3 : xFl RX3 24 3 4 (.array (.object "DreamWindows$Pane")) true := ⟨RX3, TX3, 5, tyX3, rfl, by decide, xin_3, xw182, tyX3_ok, nmX3, tyX3_ok 4 (by decide), rfl⟩
theorem xw91 : Cond.methodLink RX4 1 Lib.objectInit ∈ xW := xW_of (xtb1 (List.mem_of_getElem? (i := 36) rfl)) rfl
theorem xw92 : Cond.fieldLink RX4 7 "DreamWindows$Kind" "number" "I" ∈ xW := xW_of (xtb1 (List.mem_of_getElem? (i := 37) rfl)) rfl
theorem fl_X4_7_0 : xFl RX4 7 0 0 (.int) true := ⟨RX0, TX0, 1, tyX0, rfl, by decide, xin_0, xw92, tyX0_ok, nmX0, tyX0_ok 0 (by decide), rfl⟩
theorem fl_X4_7_1 : xFl RX4 7 1 0 (.int) true := ⟨RX1, TX1, 1, tyX1, rfl, by decide, xin_1, xw92, tyX1_ok, nmX1, tyX1_ok 0 (by decide), rfl⟩
theorem fl_X4_7_2 : xFl RX4 7 2 0 (.int) true := ⟨RX2, TX2, 1, tyX2, rfl, by decide, xin_2, xw92, tyX2_ok, nmX2, tyX2_ok 0 (by decide), rfl⟩
theorem fl_X4_7_4 : xFl RX4 7 4 0 (.int) true := ⟨RX4, TX4, 1, tyX4, rfl, by decide, xin_4, xw92, tyX4_ok, nmX4, tyX4_ok 0 (by decide), rfl⟩
theorem fl_X4_7_5 : xFl RX4 7 5 0 (.int) true := ⟨RX5, TX5, 1, tyX5, rfl, by decide, xin_5, xw92, tyX5_ok, nmX5, tyX5_ok 0 (by decide), rfl⟩
theorem fl_X4_7_6 : xFl RX4 7 6 0 (.int) true := ⟨RX6, TX6, 1, tyX6, rfl, by decide, xin_6, xw92, tyX6_ok, nmX6, tyX6_ok 0 (by decide), rfl⟩
theorem xw134 : Cond.methodLink RX5 1 yX4_init ∈ xW := xW_of (xtb1 (List.mem_of_getElem? (i := 79) rfl)) rfl
theorem ki_X5_1 : xKi RX5 1 yX4_init cX4_init 2 1 := ⟨xw134, xw89, xw57, xw90, rfl, ⟨by decide +kernel, by decide +kernel, by decide +kernel⟩⟩
theorem xw589 : Cond.methodLink RX5 7 yX4_costBy ∈ xW := xW_of (xtb3 (List.mem_of_getElem? (i := 54) rfl)) rfl
theorem xw136 : Cond.superclass RX5 RX4 ∈ xW := xW_of (xtb1 (List.mem_of_getElem? (i := 81) rfl)) rfl
theorem kp_X5_7 : xKp RX5 7 yX4_costBy cX4_costBy 3 (some .int) 2 := ⟨xw589, xw575, xw136, xw573, xw57, xw591, by decide +kernel, by decide +kernel⟩
theorem xw102 : Cond.methodLink RX6 3 yX4_init ∈ xW := xW_of (xtb1 (List.mem_of_getElem? (i := 47) rfl)) rfl
theorem ki_X6_3 : xKi RX6 3 yX4_init cX4_init 2 1 := ⟨xw102, xw89, xw57, xw90, rfl, ⟨by decide +kernel, by decide +kernel, by decide +kernel⟩⟩
theorem xw618 : Cond.constant RX6 9 (36873) ∈ xW := xW_of (xtb3 (List.mem_of_getElem? (i := 83) rfl)) rfl
theorem cn_X6_9 : Cond.constant RX6 9 (36873) ∈ xW := xw618
theorem kn_X6_10 : xKn RX6 10 yX11_has RX11 cX11_has 2 (some .boolean) 2 := ⟨by simp [xNw], xw543, xw56, xw544, ⟨by decide +kernel, by decide +kernel, by decide +kernel⟩⟩
theorem xw146 : Cond.methodLink RX7 3 Lib.objectInit ∈ xW := xW_of (xtb1 (List.mem_of_getElem? (i := 91) rfl)) rfl
theorem xw149 : Cond.fieldLink RX7 9 "DreamWindows$Pane" "more" "I" ∈ xW := xW_of (xtb1 (List.mem_of_getElem? (i := 94) rfl)) rfl
theorem fl_X7_9_7 : xFl RX7 9 7 1 (.int) false := ⟨RX7, TX7, 5, tyX7, rfl, by decide, xin_7, xw149, tyX7_ok, nmX7, tyX7_ok 1 (by decide), rfl⟩
theorem xw151 : Cond.fieldLink RX7 15 "DreamWindows$Pane" "picture" "I" ∈ xW := xW_of (xtb1 (List.mem_of_getElem? (i := 96) rfl)) rfl
theorem fl_X7_15_7 : xFl RX7 15 7 2 (.int) false := ⟨RX7, TX7, 5, tyX7, rfl, by decide, xin_7, xw151, tyX7_ok, nmX7, tyX7_ok 2 (by decide), rfl⟩
theorem xw153 : Cond.fieldLink RX7 18 "DreamWindows$Pane" "dull" "[I" ∈ xW := xW_of (xtb1 (List.mem_of_getElem? (i := 98) rfl)) rfl
theorem fl_X7_18_7 : xFl RX7 18 7 3 (.array .int) true := ⟨RX7, TX7, 5, tyX7, rfl, by decide, xin_7, xw153, tyX7_ok, nmX7, tyX7_ok 3 (by decide), rfl⟩
theorem xw155 : Cond.fieldLink RX7 22 "DreamWindows$Pane" "named" "[I" ∈ xW := xW_of (xtb1 (List.mem_of_getElem? (i := 100) rfl)) rfl
theorem fl_X7_22_7 : xFl RX7 22 7 4 (.array .int) true := ⟨RX7, TX7, 5, tyX7, rfl, by decide, xin_7, xw155, tyX7_ok, nmX7, tyX7_ok 4 (by decide), rfl⟩
theorem xw147 : Cond.fieldLink RX7 25 "DreamWindows$Pane" "kind" "LDreamWindows$Kind;" ∈ xW := xW_of (xtb1 (List.mem_of_getElem? (i := 92) rfl)) rfl
theorem fl_X7_25_7 : xFl RX7 25 7 0 (.object "DreamWindows$Kind") false := ⟨RX7, TX7, 5, tyX7, rfl, by decide, xin_7, xw147, tyX7_ok, nmX7, tyX7_ok 0 (by decide), rfl⟩
theorem xw650 : Cond.methodLink RX7 29 arraycopyName ∈ xW := xW_of (xtb3 (List.mem_of_getElem? (i := 115) rfl)) rfl
theorem xw488 : Cond.methodLink RX7 35 yX10_worth ∈ xW := xW_of (xtb2 (List.mem_of_getElem? (i := 193) rfl)) rfl
theorem xw489 : Cond.instanceMethod yX10_worth ∈ xW := xW_of (xtb2 (List.mem_of_getElem? (i := 194) rfl)) rfl
theorem xw490 : Cond.selects RX10 yX10_worth yX10_worth ∈ xW := xW_of (xtb2 (List.mem_of_getElem? (i := 195) rfl)) rfl
theorem xw67 : Cond.initialized RX10 ∈ xW := xW_of (xtb1 (List.mem_of_getElem? (i := 12) rfl)) rfl
theorem xw491 : Cond.code yX10_worth cX10_worth 7 (some .int) ∈ xW := xW_of (xtb2 (List.mem_of_getElem? (i := 196) rfl)) rfl
theorem kv_X7_35 : xKv RX7 35 yX10_worth cX10_worth 7 (some .int) 2 := ⟨xw488, xw489, xw490, xw67, xw491, ⟨by decide +kernel, by decide +kernel, by decide +kernel⟩⟩
theorem xw496 : Cond.methodLink RX7 41 Lib.Math.min.name ∈ xW := xW_of (xtb2 (List.mem_of_getElem? (i := 201) rfl)) rfl
theorem xw461 : Cond.code Lib.Math.min.name Lib.Math.min.code 2 (some .int) ∈ xW := xW_of (xtb2 (List.mem_of_getElem? (i := 166) rfl)) rfl
theorem xw460 : Cond.static Lib.Math.min.name ∈ xW := xW_of (xtb2 (List.mem_of_getElem? (i := 165) rfl)) rfl
theorem xw74 : Cond.initialized RJ9 ∈ xW := xW_of (xtb1 (List.mem_of_getElem? (i := 19) rfl)) rfl
theorem xw497 : Cond.methodLink RX7 47 Lib.Math.max.name ∈ xW := xW_of (xtb2 (List.mem_of_getElem? (i := 202) rfl)) rfl
theorem xw499 : Cond.code Lib.Math.max.name Lib.Math.max.code 2 (some .int) ∈ xW := xW_of (xtb2 (List.mem_of_getElem? (i := 204) rfl)) rfl
theorem xw498 : Cond.static Lib.Math.max.name ∈ xW := xW_of (xtb2 (List.mem_of_getElem? (i := 203) rfl)) rfl
theorem xw533 : Cond.methodLink RX7 50 yX7_said ∈ xW := xW_of (xtb2 (List.mem_of_getElem? (i := 238) rfl)) rfl
theorem xw485 : Cond.instanceMethod yX7_said ∈ xW := xW_of (xtb2 (List.mem_of_getElem? (i := 190) rfl)) rfl
theorem xw486 : Cond.selects RX7 yX7_said yX7_said ∈ xW := xW_of (xtb2 (List.mem_of_getElem? (i := 191) rfl)) rfl
theorem xw63 : Cond.initialized RX7 ∈ xW := xW_of (xtb1 (List.mem_of_getElem? (i := 8) rfl)) rfl
theorem xw487 : Cond.code yX7_said cX7_said 6 (some .int) ∈ xW := xW_of (xtb2 (List.mem_of_getElem? (i := 192) rfl)) rfl
theorem kv_X7_50 : xKv RX7 50 yX7_said cX7_said 6 (some .int) 4 := ⟨xw533, xw485, xw486, xw63, xw487, ⟨by decide +kernel, by decide +kernel, by decide +kernel⟩⟩
theorem xw572 : Cond.methodLink RX7 54 yX4_costBy ∈ xW := xW_of (xtb3 (List.mem_of_getElem? (i := 37) rfl)) rfl
theorem xw576 : Cond.selects RX0 yX4_costBy yX4_costBy ∈ xW := xW_of (xtb3 (List.mem_of_getElem? (i := 41) rfl)) rfl
theorem ku_X7_54_0 : xKu RX7 54 RX0 yX4_costBy yX4_costBy cX4_costBy 3 (some .int) cX4_costBy 3 (some .int) 2 := ⟨xw572, xw575, xw573, xw591, xw576, xw573, xw57, xw591, ⟨by decide +kernel, by decide +kernel, by decide +kernel⟩⟩
theorem xw577 : Cond.selects RX1 yX4_costBy yX1_costBy ∈ xW := xW_of (xtb3 (List.mem_of_getElem? (i := 42) rfl)) rfl
theorem ku_X7_54_1 : xKu RX7 54 RX1 yX4_costBy yX1_costBy cX4_costBy 3 (some .int) cX1_costBy 4 (some .int) 2 := ⟨xw572, xw575, xw573, xw591, xw577, xw578, xw59, xw579, ⟨by decide +kernel, by decide +kernel, by decide +kernel⟩⟩
theorem xw582 : Cond.selects RX2 yX4_costBy yX2_costBy ∈ xW := xW_of (xtb3 (List.mem_of_getElem? (i := 47) rfl)) rfl
theorem xw583 : Cond.instanceMethod yX2_costBy ∈ xW := xW_of (xtb3 (List.mem_of_getElem? (i := 48) rfl)) rfl
theorem xw61 : Cond.initialized RX2 ∈ xW := xW_of (xtb1 (List.mem_of_getElem? (i := 6) rfl)) rfl
theorem xw584 : Cond.code yX2_costBy cX2_costBy 3 (some .int) ∈ xW := xW_of (xtb3 (List.mem_of_getElem? (i := 49) rfl)) rfl
theorem ku_X7_54_2 : xKu RX7 54 RX2 yX4_costBy yX2_costBy cX4_costBy 3 (some .int) cX2_costBy 3 (some .int) 2 := ⟨xw572, xw575, xw573, xw591, xw582, xw583, xw61, xw584, ⟨by decide +kernel, by decide +kernel, by decide +kernel⟩⟩
theorem xw574 : Cond.selects RX4 yX4_costBy yX4_costBy ∈ xW := xW_of (xtb3 (List.mem_of_getElem? (i := 39) rfl)) rfl
theorem ku_X7_54_4 : xKu RX7 54 RX4 yX4_costBy yX4_costBy cX4_costBy 3 (some .int) cX4_costBy 3 (some .int) 2 := ⟨xw572, xw575, xw573, xw591, xw574, xw573, xw57, xw591, ⟨by decide +kernel, by decide +kernel, by decide +kernel⟩⟩
theorem xw586 : Cond.selects RX5 yX4_costBy yX5_costBy ∈ xW := xW_of (xtb3 (List.mem_of_getElem? (i := 51) rfl)) rfl
theorem xw587 : Cond.instanceMethod yX5_costBy ∈ xW := xW_of (xtb3 (List.mem_of_getElem? (i := 52) rfl)) rfl
theorem xw62 : Cond.initialized RX5 ∈ xW := xW_of (xtb1 (List.mem_of_getElem? (i := 7) rfl)) rfl
theorem xw588 : Cond.code yX5_costBy cX5_costBy 3 (some .int) ∈ xW := xW_of (xtb3 (List.mem_of_getElem? (i := 53) rfl)) rfl
theorem ku_X7_54_5 : xKu RX7 54 RX5 yX4_costBy yX5_costBy cX4_costBy 3 (some .int) cX5_costBy 3 (some .int) 2 := ⟨xw572, xw575, xw573, xw591, xw586, xw587, xw62, xw588, ⟨by decide +kernel, by decide +kernel, by decide +kernel⟩⟩
theorem xw590 : Cond.selects RX6 yX4_costBy yX4_costBy ∈ xW := xW_of (xtb3 (List.mem_of_getElem? (i := 55) rfl)) rfl
theorem ku_X7_54_6 : xKu RX7 54 RX6 yX4_costBy yX4_costBy cX4_costBy 3 (some .int) cX4_costBy 3 (some .int) 2 := ⟨xw572, xw575, xw573, xw591, xw590, xw573, xw57, xw591, ⟨by decide +kernel, by decide +kernel, by decide +kernel⟩⟩
theorem kn_X7_59 : xKn RX7 59 yX11_has RX11 cX11_has 2 (some .boolean) 2 := ⟨by simp [xNw], xw543, xw56, xw544, ⟨by decide +kernel, by decide +kernel, by decide +kernel⟩⟩
theorem xw568 : Cond.methodLink RX7 63 yX7_cost ∈ xW := xW_of (xtb3 (List.mem_of_getElem? (i := 33) rfl)) rfl
theorem xw569 : Cond.instanceMethod yX7_cost ∈ xW := xW_of (xtb3 (List.mem_of_getElem? (i := 34) rfl)) rfl
theorem xw570 : Cond.selects RX7 yX7_cost yX7_cost ∈ xW := xW_of (xtb3 (List.mem_of_getElem? (i := 35) rfl)) rfl
theorem xw571 : Cond.code yX7_cost cX7_cost 4 (some .int) ∈ xW := xW_of (xtb3 (List.mem_of_getElem? (i := 36) rfl)) rfl
theorem kv_X7_63 : xKv RX7 63 yX7_cost cX7_cost 4 (some .int) 3 := ⟨xw568, xw569, xw570, xw63, xw571, ⟨by decide +kernel, by decide +kernel, by decide +kernel⟩⟩
theorem xw534 : Cond.methodLink RX7 67 yX4_limitBy ∈ xW := xW_of (xtb2 (List.mem_of_getElem? (i := 239) rfl)) rfl
theorem xw537 : Cond.sameMethod RX4 RX4 "limitBy" "(III)I" ∈ xW := xW_of (xtb3 (List.mem_of_getElem? (i := 2) rfl)) rfl
theorem xw535 : Cond.instanceMethod yX4_limitBy ∈ xW := xW_of (xtb3 (List.mem_of_getElem? (i := 0) rfl)) rfl
theorem xw551 : Cond.code yX4_limitBy cX4_limitBy 4 (some .int) ∈ xW := xW_of (xtb3 (List.mem_of_getElem? (i := 16) rfl)) rfl
theorem xw538 : Cond.selects RX0 yX4_limitBy yX0_limitBy ∈ xW := xW_of (xtb3 (List.mem_of_getElem? (i := 3) rfl)) rfl
theorem xw539 : Cond.instanceMethod yX0_limitBy ∈ xW := xW_of (xtb3 (List.mem_of_getElem? (i := 4) rfl)) rfl
theorem xw60 : Cond.initialized RX0 ∈ xW := xW_of (xtb1 (List.mem_of_getElem? (i := 5) rfl)) rfl
theorem xw540 : Cond.code yX0_limitBy cX0_limitBy 4 (some .int) ∈ xW := xW_of (xtb3 (List.mem_of_getElem? (i := 5) rfl)) rfl
theorem ku_X7_67_0 : xKu RX7 67 RX0 yX4_limitBy yX0_limitBy cX4_limitBy 4 (some .int) cX0_limitBy 4 (some .int) 3 := ⟨xw534, xw537, xw535, xw551, xw538, xw539, xw60, xw540, ⟨by decide +kernel, by decide +kernel, by decide +kernel⟩⟩
theorem xw545 : Cond.selects RX1 yX4_limitBy yX1_limitBy ∈ xW := xW_of (xtb3 (List.mem_of_getElem? (i := 10) rfl)) rfl
theorem xw546 : Cond.instanceMethod yX1_limitBy ∈ xW := xW_of (xtb3 (List.mem_of_getElem? (i := 11) rfl)) rfl
theorem xw547 : Cond.code yX1_limitBy cX1_limitBy 4 (some .int) ∈ xW := xW_of (xtb3 (List.mem_of_getElem? (i := 12) rfl)) rfl
theorem ku_X7_67_1 : xKu RX7 67 RX1 yX4_limitBy yX1_limitBy cX4_limitBy 4 (some .int) cX1_limitBy 4 (some .int) 3 := ⟨xw534, xw537, xw535, xw551, xw545, xw546, xw59, xw547, ⟨by decide +kernel, by decide +kernel, by decide +kernel⟩⟩
theorem xw548 : Cond.selects RX2 yX4_limitBy yX1_limitBy ∈ xW := xW_of (xtb3 (List.mem_of_getElem? (i := 13) rfl)) rfl
theorem ku_X7_67_2 : xKu RX7 67 RX2 yX4_limitBy yX1_limitBy cX4_limitBy 4 (some .int) cX1_limitBy 4 (some .int) 3 := ⟨xw534, xw537, xw535, xw551, xw548, xw546, xw59, xw547, ⟨by decide +kernel, by decide +kernel, by decide +kernel⟩⟩
theorem xw536 : Cond.selects RX4 yX4_limitBy yX4_limitBy ∈ xW := xW_of (xtb3 (List.mem_of_getElem? (i := 1) rfl)) rfl
theorem ku_X7_67_4 : xKu RX7 67 RX4 yX4_limitBy yX4_limitBy cX4_limitBy 4 (some .int) cX4_limitBy 4 (some .int) 3 := ⟨xw534, xw537, xw535, xw551, xw536, xw535, xw57, xw551, ⟨by decide +kernel, by decide +kernel, by decide +kernel⟩⟩
theorem xw549 : Cond.selects RX5 yX4_limitBy yX4_limitBy ∈ xW := xW_of (xtb3 (List.mem_of_getElem? (i := 14) rfl)) rfl
theorem ku_X7_67_5 : xKu RX7 67 RX5 yX4_limitBy yX4_limitBy cX4_limitBy 4 (some .int) cX4_limitBy 4 (some .int) 3 := ⟨xw534, xw537, xw535, xw551, xw549, xw535, xw57, xw551, ⟨by decide +kernel, by decide +kernel, by decide +kernel⟩⟩
theorem xw550 : Cond.selects RX6 yX4_limitBy yX4_limitBy ∈ xW := xW_of (xtb3 (List.mem_of_getElem? (i := 15) rfl)) rfl
theorem ku_X7_67_6 : xKu RX7 67 RX6 yX4_limitBy yX4_limitBy cX4_limitBy 4 (some .int) cX4_limitBy 4 (some .int) 3 := ⟨xw534, xw537, xw535, xw551, xw550, xw535, xw57, xw551, ⟨by decide +kernel, by decide +kernel, by decide +kernel⟩⟩
theorem xw529 : Cond.methodLink RX7 71 yX7_isClear ∈ xW := xW_of (xtb2 (List.mem_of_getElem? (i := 234) rfl)) rfl
theorem xw530 : Cond.instanceMethod yX7_isClear ∈ xW := xW_of (xtb2 (List.mem_of_getElem? (i := 235) rfl)) rfl
theorem xw531 : Cond.selects RX7 yX7_isClear yX7_isClear ∈ xW := xW_of (xtb2 (List.mem_of_getElem? (i := 236) rfl)) rfl
theorem xw532 : Cond.code yX7_isClear cX7_isClear 4 (some .boolean) ∈ xW := xW_of (xtb2 (List.mem_of_getElem? (i := 237) rfl)) rfl
theorem kv_X7_71 : xKv RX7 71 yX7_isClear cX7_isClear 4 (some .boolean) 3 := ⟨xw529, xw530, xw531, xw63, xw532, ⟨by decide +kernel, by decide +kernel, by decide +kernel⟩⟩
theorem xw556 : Cond.methodLink RX7 75 yX7_clearCells ∈ xW := xW_of (xtb3 (List.mem_of_getElem? (i := 21) rfl)) rfl
theorem xw526 : Cond.instanceMethod yX7_clearCells ∈ xW := xW_of (xtb2 (List.mem_of_getElem? (i := 231) rfl)) rfl
theorem xw527 : Cond.selects RX7 yX7_clearCells yX7_clearCells ∈ xW := xW_of (xtb2 (List.mem_of_getElem? (i := 232) rfl)) rfl
theorem xw528 : Cond.code yX7_clearCells cX7_clearCells 5 (some .int) ∈ xW := xW_of (xtb2 (List.mem_of_getElem? (i := 233) rfl)) rfl
theorem kv_X7_75 : xKv RX7 75 yX7_clearCells cX7_clearCells 5 (some .int) 2 := ⟨xw556, xw526, xw527, xw63, xw528, ⟨by decide +kernel, by decide +kernel, by decide +kernel⟩⟩
theorem xw608 : Cond.methodLink RX7 79 yX4_dullerBy ∈ xW := xW_of (xtb3 (List.mem_of_getElem? (i := 73) rfl)) rfl
theorem xw611 : Cond.sameMethod RX4 RX4 "dullerBy" "(IIII)I" ∈ xW := xW_of (xtb3 (List.mem_of_getElem? (i := 76) rfl)) rfl
theorem xw609 : Cond.instanceMethod yX4_dullerBy ∈ xW := xW_of (xtb3 (List.mem_of_getElem? (i := 74) rfl)) rfl
theorem xw628 : Cond.code yX4_dullerBy cX4_dullerBy 5 (some .int) ∈ xW := xW_of (xtb3 (List.mem_of_getElem? (i := 93) rfl)) rfl
theorem xw612 : Cond.selects RX0 yX4_dullerBy yX0_dullerBy ∈ xW := xW_of (xtb3 (List.mem_of_getElem? (i := 77) rfl)) rfl
theorem xw613 : Cond.instanceMethod yX0_dullerBy ∈ xW := xW_of (xtb3 (List.mem_of_getElem? (i := 78) rfl)) rfl
theorem xw614 : Cond.code yX0_dullerBy cX0_dullerBy 5 (some .int) ∈ xW := xW_of (xtb3 (List.mem_of_getElem? (i := 79) rfl)) rfl
theorem ku_X7_79_0 : xKu RX7 79 RX0 yX4_dullerBy yX0_dullerBy cX4_dullerBy 5 (some .int) cX0_dullerBy 5 (some .int) 4 := ⟨xw608, xw611, xw609, xw628, xw612, xw613, xw60, xw614, ⟨by decide +kernel, by decide +kernel, by decide +kernel⟩⟩
theorem xw620 : Cond.selects RX1 yX4_dullerBy yX4_dullerBy ∈ xW := xW_of (xtb3 (List.mem_of_getElem? (i := 85) rfl)) rfl
theorem ku_X7_79_1 : xKu RX7 79 RX1 yX4_dullerBy yX4_dullerBy cX4_dullerBy 5 (some .int) cX4_dullerBy 5 (some .int) 4 := ⟨xw608, xw611, xw609, xw628, xw620, xw609, xw57, xw628, ⟨by decide +kernel, by decide +kernel, by decide +kernel⟩⟩
theorem xw621 : Cond.selects RX2 yX4_dullerBy yX2_dullerBy ∈ xW := xW_of (xtb3 (List.mem_of_getElem? (i := 86) rfl)) rfl
theorem xw622 : Cond.instanceMethod yX2_dullerBy ∈ xW := xW_of (xtb3 (List.mem_of_getElem? (i := 87) rfl)) rfl
theorem xw623 : Cond.code yX2_dullerBy cX2_dullerBy 5 (some .int) ∈ xW := xW_of (xtb3 (List.mem_of_getElem? (i := 88) rfl)) rfl
theorem ku_X7_79_2 : xKu RX7 79 RX2 yX4_dullerBy yX2_dullerBy cX4_dullerBy 5 (some .int) cX2_dullerBy 5 (some .int) 4 := ⟨xw608, xw611, xw609, xw628, xw621, xw622, xw61, xw623, ⟨by decide +kernel, by decide +kernel, by decide +kernel⟩⟩
theorem xw610 : Cond.selects RX4 yX4_dullerBy yX4_dullerBy ∈ xW := xW_of (xtb3 (List.mem_of_getElem? (i := 75) rfl)) rfl
theorem ku_X7_79_4 : xKu RX7 79 RX4 yX4_dullerBy yX4_dullerBy cX4_dullerBy 5 (some .int) cX4_dullerBy 5 (some .int) 4 := ⟨xw608, xw611, xw609, xw628, xw610, xw609, xw57, xw628, ⟨by decide +kernel, by decide +kernel, by decide +kernel⟩⟩
theorem xw624 : Cond.selects RX5 yX4_dullerBy yX5_dullerBy ∈ xW := xW_of (xtb3 (List.mem_of_getElem? (i := 89) rfl)) rfl
theorem xw625 : Cond.instanceMethod yX5_dullerBy ∈ xW := xW_of (xtb3 (List.mem_of_getElem? (i := 90) rfl)) rfl
theorem xw626 : Cond.code yX5_dullerBy cX5_dullerBy 5 (some .int) ∈ xW := xW_of (xtb3 (List.mem_of_getElem? (i := 91) rfl)) rfl
theorem ku_X7_79_5 : xKu RX7 79 RX5 yX4_dullerBy yX5_dullerBy cX4_dullerBy 5 (some .int) cX5_dullerBy 5 (some .int) 4 := ⟨xw608, xw611, xw609, xw628, xw624, xw625, xw62, xw626, ⟨by decide +kernel, by decide +kernel, by decide +kernel⟩⟩
theorem xw627 : Cond.selects RX6 yX4_dullerBy yX6_dullerBy ∈ xW := xW_of (xtb3 (List.mem_of_getElem? (i := 92) rfl)) rfl
theorem ku_X7_79_6 : xKu RX7 79 RX6 yX4_dullerBy yX6_dullerBy cX4_dullerBy 5 (some .int) cX6_dullerBy 5 (some .int) 4 := ⟨xw608, xw611, xw609, xw628, xw627, xw616, xw58, xw617, ⟨by decide +kernel, by decide +kernel, by decide +kernel⟩⟩
theorem xw629 : Cond.methodLink RX7 83 yX7_dullMore ∈ xW := xW_of (xtb3 (List.mem_of_getElem? (i := 94) rfl)) rfl
theorem xw630 : Cond.instanceMethod yX7_dullMore ∈ xW := xW_of (xtb3 (List.mem_of_getElem? (i := 95) rfl)) rfl
theorem xw631 : Cond.selects RX7 yX7_dullMore yX7_dullMore ∈ xW := xW_of (xtb3 (List.mem_of_getElem? (i := 96) rfl)) rfl
theorem xw632 : Cond.code yX7_dullMore cX7_dullMore 3 none ∈ xW := xW_of (xtb3 (List.mem_of_getElem? (i := 97) rfl)) rfl
theorem kv_X7_83 : xKv RX7 83 yX7_dullMore cX7_dullMore 3 none 2 := ⟨xw629, xw630, xw631, xw63, xw632, ⟨by decide +kernel, by decide +kernel, by decide +kernel⟩⟩
theorem xw604 : Cond.methodLink RX7 87 yX7_passNightAt ∈ xW := xW_of (xtb3 (List.mem_of_getElem? (i := 69) rfl)) rfl
theorem xw605 : Cond.instanceMethod yX7_passNightAt ∈ xW := xW_of (xtb3 (List.mem_of_getElem? (i := 70) rfl)) rfl
theorem xw606 : Cond.selects RX7 yX7_passNightAt yX7_passNightAt ∈ xW := xW_of (xtb3 (List.mem_of_getElem? (i := 71) rfl)) rfl
theorem xw607 : Cond.code yX7_passNightAt cX7_passNightAt 4 none ∈ xW := xW_of (xtb3 (List.mem_of_getElem? (i := 72) rfl)) rfl
theorem kv_X7_87 : xKv RX7 87 yX7_passNightAt cX7_passNightAt 4 none 3 := ⟨xw604, xw605, xw606, xw63, xw607, ⟨by decide +kernel, by decide +kernel, by decide +kernel⟩⟩
theorem xw239 : Cond.methodLink RX8 3 Lib.objectInit ∈ xW := xW_of (xtb1 (List.mem_of_getElem? (i := 184) rfl)) rfl
theorem xw240 : Cond.fieldLink RX8 9 "DreamWindows$Sheet" "sort" "I" ∈ xW := xW_of (xtb1 (List.mem_of_getElem? (i := 185) rfl)) rfl
theorem fl_X8_9_8 : xFl RX8 9 8 0 (.int) false := ⟨RX8, TX8, 3, tyX8, rfl, by decide, xin_8, xw240, tyX8_ok, nmX8, tyX8_ok 0 (by decide), rfl⟩
theorem xw242 : Cond.fieldLink RX8 15 "DreamWindows$Sheet" "size" "I" ∈ xW := xW_of (xtb1 (List.mem_of_getElem? (i := 187) rfl)) rfl
theorem fl_X8_15_8 : xFl RX8 15 8 1 (.int) false := ⟨RX8, TX8, 3, tyX8, rfl, by decide, xin_8, xw242, tyX8_ok, nmX8, tyX8_ok 1 (by decide), rfl⟩
theorem xw244 : Cond.fieldLink RX8 18 "DreamWindows$Sheet" "numbers" "[I" ∈ xW := xW_of (xtb1 (List.mem_of_getElem? (i := 189) rfl)) rfl
theorem fl_X8_18_8 : xFl RX8 18 8 2 (.array .int) true := ⟨RX8, TX8, 3, tyX8, rfl, by decide, xin_8, xw244, tyX8_ok, nmX8, tyX8_ok 2 (by decide), rfl⟩
theorem xw756 : Cond.methodLink RX8 22 yJ7_fill_53178 ∈ xW := xW_of (xtb3 (List.mem_of_getElem? (i := 221) rfl)) rfl
theorem xw757 : Cond.static yJ7_fill_53178 ∈ xW := xW_of (xtb3 (List.mem_of_getElem? (i := 222) rfl)) rfl
theorem xw73 : Cond.initialized RJ7 ∈ xW := xW_of (xtb1 (List.mem_of_getElem? (i := 18) rfl)) rfl
theorem xw758 : Cond.code yJ7_fill_53178 cJ7_fill_53178 4 none ∈ xW := xW_of (xtb3 (List.mem_of_getElem? (i := 223) rfl)) rfl
theorem ks_X8_22 : xKs RX8 22 yJ7_fill_53178 cJ7_fill_53178 4 none 2 := ⟨xw756, xw757, xw73, xw758, ⟨by decide +kernel, by decide +kernel, by decide +kernel⟩⟩
theorem xw202 : Cond.methodLink RX9 3 Lib.objectInit ∈ xW := xW_of (xtb1 (List.mem_of_getElem? (i := 147) rfl)) rfl
theorem xw203 : Cond.fieldLink RX9 9 "DreamWindows$Tape" "size" "I" ∈ xW := xW_of (xtb1 (List.mem_of_getElem? (i := 148) rfl)) rfl
theorem fl_X9_9_9 : xFl RX9 9 9 0 (.int) false := ⟨RX9, TX9, 9, tyX9, rfl, by decide, xin_9, xw203, tyX9_ok, nmX9, tyX9_ok 0 (by decide), rfl⟩
theorem xw205 : Cond.fieldLink RX9 15 "DreamWindows$Tape" "start" "I" ∈ xW := xW_of (xtb1 (List.mem_of_getElem? (i := 150) rfl)) rfl
theorem fl_X9_15_9 : xFl RX9 15 9 1 (.int) false := ⟨RX9, TX9, 9, tyX9, rfl, by decide, xin_9, xw205, tyX9_ok, nmX9, tyX9_ok 1 (by decide), rfl⟩
theorem xw207 : Cond.fieldLink RX9 18 "DreamWindows$Tape" "bytes" "[I" ∈ xW := xW_of (xtb1 (List.mem_of_getElem? (i := 152) rfl)) rfl
theorem fl_X9_18_9 : xFl RX9 18 9 2 (.array .int) true := ⟨RX9, TX9, 9, tyX9, rfl, by decide, xin_9, xw207, tyX9_ok, nmX9, tyX9_ok 2 (by decide), rfl⟩
theorem xw208 : Cond.fieldLink RX9 22 "DreamWindows$Tape" "codes" "[I" ∈ xW := xW_of (xtb1 (List.mem_of_getElem? (i := 153) rfl)) rfl
theorem fl_X9_22_9 : xFl RX9 22 9 3 (.array .int) true := ⟨RX9, TX9, 9, tyX9, rfl, by decide, xin_9, xw208, tyX9_ok, nmX9, tyX9_ok 3 (by decide), rfl⟩
theorem xw209 : Cond.fieldLink RX9 25 "DreamWindows$Tape" "ends" "[I" ∈ xW := xW_of (xtb1 (List.mem_of_getElem? (i := 154) rfl)) rfl
theorem fl_X9_25_9 : xFl RX9 25 9 4 (.array .int) true := ⟨RX9, TX9, 9, tyX9, rfl, by decide, xin_9, xw209, tyX9_ok, nmX9, tyX9_ok 4 (by decide), rfl⟩
theorem xw210 : Cond.fieldLink RX9 28 "DreamWindows$Tape" "codeCount" "I" ∈ xW := xW_of (xtb1 (List.mem_of_getElem? (i := 155) rfl)) rfl
theorem fl_X9_28_9 : xFl RX9 28 9 5 (.int) false := ⟨RX9, TX9, 9, tyX9, rfl, by decide, xin_9, xw210, tyX9_ok, nmX9, tyX9_ok 5 (by decide), rfl⟩
theorem xw211 : Cond.fieldLink RX9 31 "DreamWindows$Tape" "next" "I" ∈ xW := xW_of (xtb1 (List.mem_of_getElem? (i := 156) rfl)) rfl
theorem fl_X9_31_9 : xFl RX9 31 9 6 (.int) false := ⟨RX9, TX9, 9, tyX9, rfl, by decide, xin_9, xw211, tyX9_ok, nmX9, tyX9_ok 6 (by decide), rfl⟩
theorem xw212 : Cond.fieldLink RX9 34 "DreamWindows$Tape" "token" "I" ∈ xW := xW_of (xtb1 (List.mem_of_getElem? (i := 157) rfl)) rfl
theorem fl_X9_34_9 : xFl RX9 34 9 7 (.int) false := ⟨RX9, TX9, 9, tyX9, rfl, by decide, xin_9, xw212, tyX9_ok, nmX9, tyX9_ok 7 (by decide), rfl⟩
theorem xw213 : Cond.fieldLink RX9 37 "DreamWindows$Tape" "number" "I" ∈ xW := xW_of (xtb1 (List.mem_of_getElem? (i := 158) rfl)) rfl
theorem fl_X9_37_9 : xFl RX9 37 9 8 (.int) false := ⟨RX9, TX9, 9, tyX9, rfl, by decide, xin_9, xw213, tyX9_ok, nmX9, tyX9_ok 8 (by decide), rfl⟩
theorem xw338 : Cond.methodLink RX9 40 yX9_step ∈ xW := xW_of (xtb2 (List.mem_of_getElem? (i := 43) rfl)) rfl
theorem xw340 : Cond.instanceMethod yX9_step ∈ xW := xW_of (xtb2 (List.mem_of_getElem? (i := 45) rfl)) rfl
theorem xw0 : Cond.selects RX9 yX9_step yX9_step ∈ xW := xW_of (List.mem_of_getElem? (i := 0) (by decide +kernel)) rfl
theorem xw65 : Cond.initialized RX9 ∈ xW := xW_of (xtb1 (List.mem_of_getElem? (i := 10) rfl)) rfl
theorem xw341 : Cond.code yX9_step cX9_step 1 none ∈ xW := xW_of (xtb2 (List.mem_of_getElem? (i := 46) rfl)) rfl
theorem kv_X9_40 : xKv RX9 40 yX9_step cX9_step 1 none 0 := ⟨xw338, xw340, xw0, xw65, xw341, ⟨by decide +kernel, by decide +kernel, by decide +kernel⟩⟩
theorem xw412 : Cond.methodLink RX9 43 yX9_readPart ∈ xW := xW_of (xtb2 (List.mem_of_getElem? (i := 117) rfl)) rfl
theorem xw414 : Cond.instanceMethod yX9_readPart ∈ xW := xW_of (xtb2 (List.mem_of_getElem? (i := 119) rfl)) rfl
theorem xw4 : Cond.selects RX9 yX9_readPart yX9_readPart ∈ xW := xW_of (List.mem_of_getElem? (i := 4) (by decide +kernel)) rfl
theorem xw415 : Cond.code yX9_readPart cX9_readPart 2 (some .boolean) ∈ xW := xW_of (xtb2 (List.mem_of_getElem? (i := 120) rfl)) rfl
theorem kv_X9_43 : xKv RX9 43 yX9_readPart cX9_readPart 2 (some .boolean) 1 := ⟨xw412, xw414, xw4, xw65, xw415, ⟨by decide +kernel, by decide +kernel, by decide +kernel⟩⟩
theorem xw448 : Cond.classLink RX9 47 RX10 ∈ xW := xW_of (xtb2 (List.mem_of_getElem? (i := 153) rfl)) rfl
theorem cl_X9_47 : Cond.classLink RX9 47 RX10 ∈ xW := xw448
theorem xw253 : Cond.instantiable RX10 3 ∈ xW := xW_of (xtb1 (List.mem_of_getElem? (i := 198) rfl)) rfl
theorem xw449 : Cond.methodLink RX9 49 yJ7_copyOf_59c91 ∈ xW := xW_of (xtb2 (List.mem_of_getElem? (i := 154) rfl)) rfl
theorem xw450 : Cond.static yJ7_copyOf_59c91 ∈ xW := xW_of (xtb2 (List.mem_of_getElem? (i := 155) rfl)) rfl
theorem xw451 : Cond.code yJ7_copyOf_59c91 cJ7_copyOf_59c91 3 (some (.array .int)) ∈ xW := xW_of (xtb2 (List.mem_of_getElem? (i := 156) rfl)) rfl
theorem ks_X9_49 : xKs RX9 49 yJ7_copyOf_59c91 cJ7_copyOf_59c91 3 (some (.array .int)) 2 := ⟨xw449, xw450, xw73, xw451, ⟨by decide +kernel, by decide +kernel, by decide +kernel⟩⟩
theorem xw465 : Cond.methodLink RX9 55 ⟨"[I", "clone", "()Ljava/lang/Object;"⟩ ∈ xW := xW_of (xtb2 (List.mem_of_getElem? (i := 170) rfl)) rfl
theorem xw467 : Cond.methodLink RX9 60 yX10_init ∈ xW := xW_of (xtb2 (List.mem_of_getElem? (i := 172) rfl)) rfl
theorem xw255 : Cond.instanceMethod yX10_init ∈ xW := xW_of (xtb1 (List.mem_of_getElem? (i := 200) rfl)) rfl
theorem xw256 : Cond.code yX10_init cX10_init 3 none ∈ xW := xW_of (xtb1 (List.mem_of_getElem? (i := 201) rfl)) rfl
theorem ki_X9_60 : xKi RX9 60 yX10_init cX10_init 3 2 := ⟨xw467, xw255, xw67, xw256, rfl, ⟨by decide +kernel, by decide +kernel, by decide +kernel⟩⟩
theorem xw416 : Cond.methodLink RX9 63 yX9_readEither ∈ xW := xW_of (xtb2 (List.mem_of_getElem? (i := 121) rfl)) rfl
theorem xw418 : Cond.instanceMethod yX9_readEither ∈ xW := xW_of (xtb2 (List.mem_of_getElem? (i := 123) rfl)) rfl
theorem xw5 : Cond.selects RX9 yX9_readEither yX9_readEither ∈ xW := xW_of (List.mem_of_getElem? (i := 5) (by decide +kernel)) rfl
theorem xw419 : Cond.code yX9_readEither cX9_readEither 4 (some .boolean) ∈ xW := xW_of (xtb2 (List.mem_of_getElem? (i := 124) rfl)) rfl
theorem kv_X9_63 : xKv RX9 63 yX9_readEither cX9_readEither 4 (some .boolean) 1 := ⟨xw416, xw418, xw5, xw65, xw419, ⟨by decide +kernel, by decide +kernel, by decide +kernel⟩⟩
theorem xw420 : Cond.methodLink RX9 66 yX9_readBoth ∈ xW := xW_of (xtb2 (List.mem_of_getElem? (i := 125) rfl)) rfl
theorem xw422 : Cond.instanceMethod yX9_readBoth ∈ xW := xW_of (xtb2 (List.mem_of_getElem? (i := 127) rfl)) rfl
theorem xw6 : Cond.selects RX9 yX9_readBoth yX9_readBoth ∈ xW := xW_of (List.mem_of_getElem? (i := 6) (by decide +kernel)) rfl
theorem xw423 : Cond.code yX9_readBoth cX9_readBoth 4 (some .boolean) ∈ xW := xW_of (xtb2 (List.mem_of_getElem? (i := 128) rfl)) rfl
theorem kv_X9_66 : xKv RX9 66 yX9_readBoth cX9_readBoth 4 (some .boolean) 1 := ⟨xw420, xw422, xw6, xw65, xw423, ⟨by decide +kernel, by decide +kernel, by decide +kernel⟩⟩
theorem xw428 : Cond.methodLink RX9 69 yX9_write ∈ xW := xW_of (xtb2 (List.mem_of_getElem? (i := 133) rfl)) rfl
theorem xw430 : Cond.instanceMethod yX9_write ∈ xW := xW_of (xtb2 (List.mem_of_getElem? (i := 135) rfl)) rfl
theorem xw8 : Cond.selects RX9 yX9_write yX9_write ∈ xW := xW_of (List.mem_of_getElem? (i := 8) (by decide +kernel)) rfl
theorem xw431 : Cond.code yX9_write cX9_write 2 none ∈ xW := xW_of (xtb2 (List.mem_of_getElem? (i := 136) rfl)) rfl
theorem kv_X9_69 : xKv RX9 69 yX9_write cX9_write 2 none 1 := ⟨xw428, xw430, xw8, xw65, xw431, ⟨by decide +kernel, by decide +kernel, by decide +kernel⟩⟩
theorem xw424 : Cond.methodLink RX9 73 yX9_readNot ∈ xW := xW_of (xtb2 (List.mem_of_getElem? (i := 129) rfl)) rfl
theorem xw426 : Cond.instanceMethod yX9_readNot ∈ xW := xW_of (xtb2 (List.mem_of_getElem? (i := 131) rfl)) rfl
theorem xw7 : Cond.selects RX9 yX9_readNot yX9_readNot ∈ xW := xW_of (List.mem_of_getElem? (i := 7) (by decide +kernel)) rfl
theorem xw427 : Cond.code yX9_readNot cX9_readNot 4 (some .boolean) ∈ xW := xW_of (xtb2 (List.mem_of_getElem? (i := 132) rfl)) rfl
theorem kv_X9_73 : xKv RX9 73 yX9_readNot cX9_readNot 4 (some .boolean) 1 := ⟨xw424, xw426, xw7, xw65, xw427, ⟨by decide +kernel, by decide +kernel, by decide +kernel⟩⟩
theorem xw432 : Cond.methodLink RX9 76 yX9_readSum ∈ xW := xW_of (xtb2 (List.mem_of_getElem? (i := 137) rfl)) rfl
theorem xw434 : Cond.instanceMethod yX9_readSum ∈ xW := xW_of (xtb2 (List.mem_of_getElem? (i := 139) rfl)) rfl
theorem xw9 : Cond.selects RX9 yX9_readSum yX9_readSum ∈ xW := xW_of (List.mem_of_getElem? (i := 9) (by decide +kernel)) rfl
theorem xw435 : Cond.code yX9_readSum cX9_readSum 5 (some .boolean) ∈ xW := xW_of (xtb2 (List.mem_of_getElem? (i := 140) rfl)) rfl
theorem kv_X9_76 : xKv RX9 76 yX9_readSum cX9_readSum 5 (some .boolean) 1 := ⟨xw432, xw434, xw9, xw65, xw435, ⟨by decide +kernel, by decide +kernel, by decide +kernel⟩⟩
theorem xw436 : Cond.methodLink RX9 79 yX9_readTerm ∈ xW := xW_of (xtb2 (List.mem_of_getElem? (i := 141) rfl)) rfl
theorem xw438 : Cond.instanceMethod yX9_readTerm ∈ xW := xW_of (xtb2 (List.mem_of_getElem? (i := 143) rfl)) rfl
theorem xw10 : Cond.selects RX9 yX9_readTerm yX9_readTerm ∈ xW := xW_of (List.mem_of_getElem? (i := 10) (by decide +kernel)) rfl
theorem xw439 : Cond.code yX9_readTerm cX9_readTerm 4 (some .boolean) ∈ xW := xW_of (xtb2 (List.mem_of_getElem? (i := 144) rfl)) rfl
theorem kv_X9_79 : xKv RX9 79 yX9_readTerm cX9_readTerm 4 (some .boolean) 1 := ⟨xw436, xw438, xw10, xw65, xw439, ⟨by decide +kernel, by decide +kernel, by decide +kernel⟩⟩
theorem xw440 : Cond.methodLink RX9 82 yX9_readOne ∈ xW := xW_of (xtb2 (List.mem_of_getElem? (i := 145) rfl)) rfl
theorem xw442 : Cond.instanceMethod yX9_readOne ∈ xW := xW_of (xtb2 (List.mem_of_getElem? (i := 147) rfl)) rfl
theorem xw11 : Cond.selects RX9 yX9_readOne yX9_readOne ∈ xW := xW_of (List.mem_of_getElem? (i := 11) (by decide +kernel)) rfl
theorem xw443 : Cond.code yX9_readOne cX9_readOne 3 (some .boolean) ∈ xW := xW_of (xtb2 (List.mem_of_getElem? (i := 148) rfl)) rfl
theorem kv_X9_82 : xKv RX9 82 yX9_readOne cX9_readOne 3 (some .boolean) 1 := ⟨xw440, xw442, xw11, xw65, xw443, ⟨by decide +kernel, by decide +kernel, by decide +kernel⟩⟩
theorem xw342 : Cond.methodLink RX9 85 yX9_isLetter ∈ xW := xW_of (xtb2 (List.mem_of_getElem? (i := 47) rfl)) rfl
theorem xw343 : Cond.static yX9_isLetter ∈ xW := xW_of (xtb2 (List.mem_of_getElem? (i := 48) rfl)) rfl
theorem xw344 : Cond.code yX9_isLetter cX9_isLetter 1 (some .boolean) ∈ xW := xW_of (xtb2 (List.mem_of_getElem? (i := 49) rfl)) rfl
theorem ks_X9_85 : xKs RX9 85 yX9_isLetter cX9_isLetter 1 (some .boolean) 1 := ⟨xw342, xw343, xw65, xw344, ⟨by decide +kernel, by decide +kernel, by decide +kernel⟩⟩
theorem xw345 : Cond.methodLink RX9 88 yX9_stepWord ∈ xW := xW_of (xtb2 (List.mem_of_getElem? (i := 50) rfl)) rfl
theorem xw347 : Cond.instanceMethod yX9_stepWord ∈ xW := xW_of (xtb2 (List.mem_of_getElem? (i := 52) rfl)) rfl
theorem xw1 : Cond.selects RX9 yX9_stepWord yX9_stepWord ∈ xW := xW_of (List.mem_of_getElem? (i := 1) (by decide +kernel)) rfl
theorem xw348 : Cond.code yX9_stepWord cX9_stepWord 4 none ∈ xW := xW_of (xtb2 (List.mem_of_getElem? (i := 53) rfl)) rfl
theorem kv_X9_88 : xKv RX9 88 yX9_stepWord cX9_stepWord 4 none 0 := ⟨xw345, xw347, xw1, xw65, xw348, ⟨by decide +kernel, by decide +kernel, by decide +kernel⟩⟩
theorem xw402 : Cond.methodLink RX9 91 yX9_isDigit ∈ xW := xW_of (xtb2 (List.mem_of_getElem? (i := 107) rfl)) rfl
theorem xw403 : Cond.static yX9_isDigit ∈ xW := xW_of (xtb2 (List.mem_of_getElem? (i := 108) rfl)) rfl
theorem xw404 : Cond.code yX9_isDigit cX9_isDigit 1 (some .boolean) ∈ xW := xW_of (xtb2 (List.mem_of_getElem? (i := 109) rfl)) rfl
theorem ks_X9_91 : xKs RX9 91 yX9_isDigit cX9_isDigit 1 (some .boolean) 1 := ⟨xw402, xw403, xw65, xw404, ⟨by decide +kernel, by decide +kernel, by decide +kernel⟩⟩
theorem xw405 : Cond.methodLink RX9 94 yX9_stepNumber ∈ xW := xW_of (xtb2 (List.mem_of_getElem? (i := 110) rfl)) rfl
theorem xw407 : Cond.instanceMethod yX9_stepNumber ∈ xW := xW_of (xtb2 (List.mem_of_getElem? (i := 112) rfl)) rfl
theorem xw3 : Cond.selects RX9 yX9_stepNumber yX9_stepNumber ∈ xW := xW_of (List.mem_of_getElem? (i := 3) (by decide +kernel)) rfl
theorem xw408 : Cond.code yX9_stepNumber cX9_stepNumber 1 none ∈ xW := xW_of (xtb2 (List.mem_of_getElem? (i := 113) rfl)) rfl
theorem kv_X9_94 : xKv RX9 94 yX9_stepNumber cX9_stepNumber 1 none 0 := ⟨xw405, xw407, xw3, xw65, xw408, ⟨by decide +kernel, by decide +kernel, by decide +kernel⟩⟩
theorem xw409 : Cond.methodLink RX9 97 yX9_isSign ∈ xW := xW_of (xtb2 (List.mem_of_getElem? (i := 114) rfl)) rfl
theorem xw410 : Cond.static yX9_isSign ∈ xW := xW_of (xtb2 (List.mem_of_getElem? (i := 115) rfl)) rfl
theorem xw411 : Cond.code yX9_isSign cX9_isSign 1 (some .boolean) ∈ xW := xW_of (xtb2 (List.mem_of_getElem? (i := 116) rfl)) rfl
theorem ks_X9_97 : xKs RX9 97 yX9_isSign cX9_isSign 1 (some .boolean) 1 := ⟨xw409, xw410, xw65, xw411, ⟨by decide +kernel, by decide +kernel, by decide +kernel⟩⟩
theorem xw350 : Cond.methodLink RX9 102 yJ0_length_8abf5 ∈ xW := xW_of (xtb2 (List.mem_of_getElem? (i := 55) rfl)) rfl
theorem xw351 : Cond.instanceMethod yJ0_length_8abf5 ∈ xW := xW_of (xtb2 (List.mem_of_getElem? (i := 56) rfl)) rfl
theorem xw352 : Cond.selects RJ0 yJ0_length_8abf5 yJ0_length_8abf5 ∈ xW := xW_of (xtb2 (List.mem_of_getElem? (i := 57) rfl)) rfl
theorem xw69 : Cond.initialized RJ0 ∈ xW := xW_of (xtb1 (List.mem_of_getElem? (i := 14) rfl)) rfl
theorem xw353 : Cond.code yJ0_length_8abf5 cJ0_length_8abf5 1 (some .int) ∈ xW := xW_of (xtb2 (List.mem_of_getElem? (i := 58) rfl)) rfl
theorem kv_X9_102 : xKv RX9 102 yJ0_length_8abf5 cJ0_length_8abf5 1 (some .int) 0 := ⟨xw350, xw351, xw352, xw69, xw353, ⟨by decide +kernel, by decide +kernel, by decide +kernel⟩⟩
theorem xw360 : Cond.methodLink RX9 108 yJ0_charAt_5068e ∈ xW := xW_of (xtb2 (List.mem_of_getElem? (i := 65) rfl)) rfl
theorem xw361 : Cond.instanceMethod yJ0_charAt_5068e ∈ xW := xW_of (xtb2 (List.mem_of_getElem? (i := 66) rfl)) rfl
theorem xw362 : Cond.selects RJ0 yJ0_charAt_5068e yJ0_charAt_5068e ∈ xW := xW_of (xtb2 (List.mem_of_getElem? (i := 67) rfl)) rfl
theorem xw363 : Cond.code yJ0_charAt_5068e cJ0_charAt_5068e 2 (some .char) ∈ xW := xW_of (xtb2 (List.mem_of_getElem? (i := 68) rfl)) rfl
theorem kv_X9_108 : xKv RX9 108 yJ0_charAt_5068e cJ0_charAt_5068e 2 (some .char) 1 := ⟨xw360, xw361, xw362, xw69, xw363, ⟨by decide +kernel, by decide +kernel, by decide +kernel⟩⟩
theorem xw398 : Cond.methodLink RX9 112 yX9_isWordFrom ∈ xW := xW_of (xtb2 (List.mem_of_getElem? (i := 103) rfl)) rfl
theorem xw400 : Cond.instanceMethod yX9_isWordFrom ∈ xW := xW_of (xtb2 (List.mem_of_getElem? (i := 105) rfl)) rfl
theorem xw2 : Cond.selects RX9 yX9_isWordFrom yX9_isWordFrom ∈ xW := xW_of (List.mem_of_getElem? (i := 2) (by decide +kernel)) rfl
theorem xw401 : Cond.code yX9_isWordFrom cX9_isWordFrom 3 (some .boolean) ∈ xW := xW_of (xtb2 (List.mem_of_getElem? (i := 106) rfl)) rfl
theorem kv_X9_112 : xKv RX9 112 yX9_isWordFrom cX9_isWordFrom 3 (some .boolean) 1 := ⟨xw398, xw400, xw2, xw65, xw401, ⟨by decide +kernel, by decide +kernel, by decide +kernel⟩⟩
theorem xw257 : Cond.methodLink RX10 3 Lib.objectInit ∈ xW := xW_of (xtb1 (List.mem_of_getElem? (i := 202) rfl)) rfl
theorem xw260 : Cond.fieldLink RX10 9 "DreamWindows$Text" "waiting" "[I" ∈ xW := xW_of (xtb1 (List.mem_of_getElem? (i := 205) rfl)) rfl
theorem fl_X10_9_10 : xFl RX10 9 10 2 (.array .int) true := ⟨RX10, TX10, 3, tyX10, rfl, by decide, xin_10, xw260, tyX10_ok, nmX10, tyX10_ok 2 (by decide), rfl⟩
theorem xw258 : Cond.fieldLink RX10 15 "DreamWindows$Text" "codes" "[I" ∈ xW := xW_of (xtb1 (List.mem_of_getElem? (i := 203) rfl)) rfl
theorem fl_X10_15_10 : xFl RX10 15 10 0 (.array .int) true := ⟨RX10, TX10, 3, tyX10, rfl, by decide, xin_10, xw258, tyX10_ok, nmX10, tyX10_ok 0 (by decide), rfl⟩
theorem xw259 : Cond.fieldLink RX10 18 "DreamWindows$Text" "ends" "[I" ∈ xW := xW_of (xtb1 (List.mem_of_getElem? (i := 204) rfl)) rfl
theorem fl_X10_18_10 : xFl RX10 18 10 1 (.array .int) true := ⟨RX10, TX10, 3, tyX10, rfl, by decide, xin_10, xw259, tyX10_ok, nmX10, tyX10_ok 1 (by decide), rfl⟩
theorem xw320 : Cond.static yX11_within ∈ xW := xW_of (xtb2 (List.mem_of_getElem? (i := 25) rfl)) rfl
theorem xw321 : Cond.code yX11_within cX11_within 2 (some .boolean) ∈ xW := xW_of (xtb2 (List.mem_of_getElem? (i := 26) rfl)) rfl
theorem kn_X10_21 : xKn RX10 21 yX11_within RX11 cX11_within 2 (some .boolean) 2 := ⟨by simp [xNw], xw320, xw56, xw321, ⟨by decide +kernel, by decide +kernel, by decide +kernel⟩⟩
theorem xw493 : Cond.methodLink RX10 25 yX10_joined ∈ xW := xW_of (xtb2 (List.mem_of_getElem? (i := 198) rfl)) rfl
theorem xw494 : Cond.static yX10_joined ∈ xW := xW_of (xtb2 (List.mem_of_getElem? (i := 199) rfl)) rfl
theorem xw495 : Cond.code yX10_joined cX10_joined 3 (some .int) ∈ xW := xW_of (xtb2 (List.mem_of_getElem? (i := 200) rfl)) rfl
theorem ks_X10_25 : xKs RX10 25 yX10_joined cX10_joined 3 (some .int) 3 := ⟨xw493, xw494, xw67, xw495, ⟨by decide +kernel, by decide +kernel, by decide +kernel⟩⟩
theorem xw82 : Cond.methodLink RX11 3 Lib.objectInit ∈ xW := xW_of (xtb1 (List.mem_of_getElem? (i := 27) rfl)) rfl
theorem xw85 : Cond.classLink RX11 9 RX4 ∈ xW := xW_of (xtb1 (List.mem_of_getElem? (i := 30) rfl)) rfl
theorem cl_X11_9 : Cond.classLink RX11 9 RX4 ∈ xW := xw85
theorem xw87 : Cond.instantiable RX4 1 ∈ xW := xW_of (xtb1 (List.mem_of_getElem? (i := 32) rfl)) rfl
theorem xw88 : Cond.methodLink RX11 11 yX4_init ∈ xW := xW_of (xtb1 (List.mem_of_getElem? (i := 33) rfl)) rfl
theorem ki_X11_11 : xKi RX11 11 yX4_init cX4_init 2 1 := ⟨xw88, xw89, xw57, xw90, rfl, ⟨by decide +kernel, by decide +kernel, by decide +kernel⟩⟩
theorem xw97 : Cond.classLink RX11 14 RX6 ∈ xW := xW_of (xtb1 (List.mem_of_getElem? (i := 42) rfl)) rfl
theorem cl_X11_14 : Cond.classLink RX11 14 RX6 ∈ xW := xw97
theorem xw98 : Cond.instantiable RX6 1 ∈ xW := xW_of (xtb1 (List.mem_of_getElem? (i := 43) rfl)) rfl
theorem xw99 : Cond.methodLink RX11 16 yX6_init ∈ xW := xW_of (xtb1 (List.mem_of_getElem? (i := 44) rfl)) rfl
theorem ki_X11_16 : xKi RX11 16 yX6_init cX6_init 2 1 := ⟨xw99, xw100, xw58, xw101, rfl, ⟨by decide +kernel, by decide +kernel, by decide +kernel⟩⟩
theorem xw105 : Cond.classLink RX11 17 RX1 ∈ xW := xW_of (xtb1 (List.mem_of_getElem? (i := 50) rfl)) rfl
theorem cl_X11_17 : Cond.classLink RX11 17 RX1 ∈ xW := xw105
theorem xw106 : Cond.instantiable RX1 1 ∈ xW := xW_of (xtb1 (List.mem_of_getElem? (i := 51) rfl)) rfl
theorem xw107 : Cond.methodLink RX11 19 yX1_init ∈ xW := xW_of (xtb1 (List.mem_of_getElem? (i := 52) rfl)) rfl
theorem ki_X11_19 : xKi RX11 19 yX1_init cX1_init 2 1 := ⟨xw107, xw108, xw59, xw109, rfl, ⟨by decide +kernel, by decide +kernel, by decide +kernel⟩⟩
theorem xw113 : Cond.classLink RX11 20 RX0 ∈ xW := xW_of (xtb1 (List.mem_of_getElem? (i := 58) rfl)) rfl
theorem cl_X11_20 : Cond.classLink RX11 20 RX0 ∈ xW := xw113
theorem xw114 : Cond.instantiable RX0 1 ∈ xW := xW_of (xtb1 (List.mem_of_getElem? (i := 59) rfl)) rfl
theorem xw115 : Cond.methodLink RX11 22 yX0_init ∈ xW := xW_of (xtb1 (List.mem_of_getElem? (i := 60) rfl)) rfl
theorem xw116 : Cond.instanceMethod yX0_init ∈ xW := xW_of (xtb1 (List.mem_of_getElem? (i := 61) rfl)) rfl
theorem xw117 : Cond.code yX0_init cX0_init 2 none ∈ xW := xW_of (xtb1 (List.mem_of_getElem? (i := 62) rfl)) rfl
theorem ki_X11_22 : xKi RX11 22 yX0_init cX0_init 2 1 := ⟨xw115, xw116, xw60, xw117, rfl, ⟨by decide +kernel, by decide +kernel, by decide +kernel⟩⟩
theorem xw121 : Cond.classLink RX11 23 RX2 ∈ xW := xW_of (xtb1 (List.mem_of_getElem? (i := 66) rfl)) rfl
theorem cl_X11_23 : Cond.classLink RX11 23 RX2 ∈ xW := xw121
theorem xw122 : Cond.instantiable RX2 1 ∈ xW := xW_of (xtb1 (List.mem_of_getElem? (i := 67) rfl)) rfl
theorem xw123 : Cond.methodLink RX11 25 yX2_init ∈ xW := xW_of (xtb1 (List.mem_of_getElem? (i := 68) rfl)) rfl
theorem xw124 : Cond.instanceMethod yX2_init ∈ xW := xW_of (xtb1 (List.mem_of_getElem? (i := 69) rfl)) rfl
theorem xw125 : Cond.code yX2_init cX2_init 2 none ∈ xW := xW_of (xtb1 (List.mem_of_getElem? (i := 70) rfl)) rfl
theorem ki_X11_25 : xKi RX11 25 yX2_init cX2_init 2 1 := ⟨xw123, xw124, xw61, xw125, rfl, ⟨by decide +kernel, by decide +kernel, by decide +kernel⟩⟩
theorem xw129 : Cond.classLink RX11 26 RX5 ∈ xW := xW_of (xtb1 (List.mem_of_getElem? (i := 74) rfl)) rfl
theorem cl_X11_26 : Cond.classLink RX11 26 RX5 ∈ xW := xw129
theorem xw130 : Cond.instantiable RX5 1 ∈ xW := xW_of (xtb1 (List.mem_of_getElem? (i := 75) rfl)) rfl
theorem xw131 : Cond.methodLink RX11 28 yX5_init ∈ xW := xW_of (xtb1 (List.mem_of_getElem? (i := 76) rfl)) rfl
theorem xw132 : Cond.instanceMethod yX5_init ∈ xW := xW_of (xtb1 (List.mem_of_getElem? (i := 77) rfl)) rfl
theorem xw133 : Cond.code yX5_init cX5_init 2 none ∈ xW := xW_of (xtb1 (List.mem_of_getElem? (i := 78) rfl)) rfl
theorem ki_X11_28 : xKi RX11 28 yX5_init cX5_init 2 1 := ⟨xw131, xw132, xw62, xw133, rfl, ⟨by decide +kernel, by decide +kernel, by decide +kernel⟩⟩
theorem xw268 : Cond.fieldLink RX11 29 "DreamWindows" "everyKind" "[LDreamWindows$Kind;" ∈ xW := xW_of (xtb1 (List.mem_of_getElem? (i := 213) rfl)) rfl
theorem fl_X11_29_11 : xFl RX11 29 11 0 (.array (.object "DreamWindows$Kind")) true := ⟨RX11, TX11, 14, tyX11, rfl, by decide, xin_11, xw268, tyX11_ok, nmX11, tyX11_ok 0 (by decide), rfl⟩
theorem xw137 : Cond.methodLink RX11 33 yX11_newPanes ∈ xW := xW_of (xtb1 (List.mem_of_getElem? (i := 82) rfl)) rfl
theorem xw138 : Cond.static yX11_newPanes ∈ xW := xW_of (xtb1 (List.mem_of_getElem? (i := 83) rfl)) rfl
theorem xw139 : Cond.code yX11_newPanes cX11_newPanes 3 (some (.array (.object "DreamWindows$Pane"))) ∈ xW := xW_of (xtb1 (List.mem_of_getElem? (i := 84) rfl)) rfl
theorem ks_X11_33 : xKs RX11 33 yX11_newPanes cX11_newPanes 3 (some (.array (.object "DreamWindows$Pane"))) 1 := ⟨xw137, xw138, xw56, xw139, ⟨by decide +kernel, by decide +kernel, by decide +kernel⟩⟩
theorem xw269 : Cond.fieldLink RX11 37 "DreamWindows" "panes" "[LDreamWindows$Pane;" ∈ xW := xW_of (xtb1 (List.mem_of_getElem? (i := 214) rfl)) rfl
theorem fl_X11_37_11 : xFl RX11 37 11 1 (.array (.object "DreamWindows$Pane")) true := ⟨RX11, TX11, 14, tyX11, rfl, by decide, xin_11, xw269, tyX11_ok, nmX11, tyX11_ok 1 (by decide), rfl⟩
theorem xw270 : Cond.fieldLink RX11 41 "DreamWindows" "thoughts" "[LDreamWindows$Pane;" ∈ xW := xW_of (xtb1 (List.mem_of_getElem? (i := 215) rfl)) rfl
theorem fl_X11_41_11 : xFl RX11 41 11 2 (.array (.object "DreamWindows$Pane")) true := ⟨RX11, TX11, 14, tyX11, rfl, by decide, xin_11, xw270, tyX11_ok, nmX11, tyX11_ok 2 (by decide), rfl⟩
theorem xw168 : Cond.classLink RX11 44 RX3 ∈ xW := xW_of (xtb1 (List.mem_of_getElem? (i := 113) rfl)) rfl
theorem cl_X11_44 : Cond.classLink RX11 44 RX3 ∈ xW := xw168
theorem xw169 : Cond.instantiable RX3 5 ∈ xW := xW_of (xtb1 (List.mem_of_getElem? (i := 114) rfl)) rfl
theorem xw64 : Cond.initialized RX3 ∈ xW := xW_of (xtb1 (List.mem_of_getElem? (i := 9) rfl)) rfl
theorem xw170 : Cond.methodLink RX11 46 yX3_init ∈ xW := xW_of (xtb1 (List.mem_of_getElem? (i := 115) rfl)) rfl
theorem xw171 : Cond.instanceMethod yX3_init ∈ xW := xW_of (xtb1 (List.mem_of_getElem? (i := 116) rfl)) rfl
theorem xw172 : Cond.code yX3_init cX3_init 2 none ∈ xW := xW_of (xtb1 (List.mem_of_getElem? (i := 117) rfl)) rfl
theorem ki_X11_46 : xKi RX11 46 yX3_init cX3_init 2 1 := ⟨xw170, xw171, xw64, xw172, rfl, ⟨by decide +kernel, by decide +kernel, by decide +kernel⟩⟩
theorem xw271 : Cond.fieldLink RX11 49 "DreamWindows" "kept" "LDreamWindows$Image;" ∈ xW := xW_of (xtb1 (List.mem_of_getElem? (i := 216) rfl)) rfl
theorem fl_X11_49_11 : xFl RX11 49 11 3 (.object "DreamWindows$Image") true := ⟨RX11, TX11, 14, tyX11, rfl, by decide, xin_11, xw271, tyX11_ok, nmX11, tyX11_ok 3 (by decide), rfl⟩
theorem xw195 : Cond.classLink RX11 53 RX10 ∈ xW := xW_of (xtb1 (List.mem_of_getElem? (i := 140) rfl)) rfl
theorem cl_X11_53 : Cond.classLink RX11 53 RX10 ∈ xW := xw195
theorem xw272 : Cond.fieldLink RX11 55 "DreamWindows" "texts" "[LDreamWindows$Text;" ∈ xW := xW_of (xtb1 (List.mem_of_getElem? (i := 217) rfl)) rfl
theorem fl_X11_55_11 : xFl RX11 55 11 4 (.array (.object "DreamWindows$Text")) true := ⟨RX11, TX11, 14, tyX11, rfl, by decide, xin_11, xw272, tyX11_ok, nmX11, tyX11_ok 4 (by decide), rfl⟩
theorem xw197 : Cond.classLink RX11 59 RX9 ∈ xW := xW_of (xtb1 (List.mem_of_getElem? (i := 142) rfl)) rfl
theorem cl_X11_59 : Cond.classLink RX11 59 RX9 ∈ xW := xw197
theorem xw198 : Cond.instantiable RX9 9 ∈ xW := xW_of (xtb1 (List.mem_of_getElem? (i := 143) rfl)) rfl
theorem xw200 : Cond.instanceMethod yX9_init ∈ xW := xW_of (xtb1 (List.mem_of_getElem? (i := 145) rfl)) rfl
theorem xw201 : Cond.code yX9_init cX9_init 1 none ∈ xW := xW_of (xtb1 (List.mem_of_getElem? (i := 146) rfl)) rfl
theorem kj_X11_61 : xKj RX11 61 yX9_init RX11 cX9_init 1 0 := ⟨by simp [xNw], xw200, xw65, xw201, rfl, ⟨by decide +kernel, by decide +kernel, by decide +kernel⟩⟩
theorem xw273 : Cond.fieldLink RX11 62 "DreamWindows" "tape" "LDreamWindows$Tape;" ∈ xW := xW_of (xtb1 (List.mem_of_getElem? (i := 218) rfl)) rfl
theorem fl_X11_62_11 : xFl RX11 62 11 5 (.object "DreamWindows$Tape") true := ⟨RX11, TX11, 14, tyX11, rfl, by decide, xin_11, xw273, tyX11_ok, nmX11, tyX11_ok 5 (by decide), rfl⟩
theorem xw233 : Cond.classLink RX11 66 RX8 ∈ xW := xW_of (xtb1 (List.mem_of_getElem? (i := 178) rfl)) rfl
theorem cl_X11_66 : Cond.classLink RX11 66 RX8 ∈ xW := xw233
theorem xw235 : Cond.instantiable RX8 3 ∈ xW := xW_of (xtb1 (List.mem_of_getElem? (i := 180) rfl)) rfl
theorem xw66 : Cond.initialized RX8 ∈ xW := xW_of (xtb1 (List.mem_of_getElem? (i := 11) rfl)) rfl
theorem xw237 : Cond.instanceMethod yX8_init ∈ xW := xW_of (xtb1 (List.mem_of_getElem? (i := 182) rfl)) rfl
theorem xw238 : Cond.code yX8_init cX8_init 1 none ∈ xW := xW_of (xtb1 (List.mem_of_getElem? (i := 183) rfl)) rfl
theorem kj_X11_68 : xKj RX11 68 yX8_init RX11 cX8_init 1 0 := ⟨by simp [xNw], xw237, xw66, xw238, rfl, ⟨by decide +kernel, by decide +kernel, by decide +kernel⟩⟩
theorem xw274 : Cond.fieldLink RX11 69 "DreamWindows" "sheets" "[LDreamWindows$Sheet;" ∈ xW := xW_of (xtb1 (List.mem_of_getElem? (i := 219) rfl)) rfl
theorem fl_X11_69_11 : xFl RX11 69 11 6 (.array (.object "DreamWindows$Sheet")) true := ⟨RX11, TX11, 14, tyX11, rfl, by decide, xin_11, xw274, tyX11_ok, nmX11, tyX11_ok 6 (by decide), rfl⟩
theorem xw275 : Cond.fieldLink RX11 73 "DreamWindows" "price" "[I" ∈ xW := xW_of (xtb1 (List.mem_of_getElem? (i := 220) rfl)) rfl
theorem fl_X11_73_11 : xFl RX11 73 11 7 (.array .int) true := ⟨RX11, TX11, 14, tyX11, rfl, by decide, xin_11, xw275, tyX11_ok, nmX11, tyX11_ok 7 (by decide), rfl⟩
theorem xw276 : Cond.fieldLink RX11 77 "DreamWindows" "least" "[I" ∈ xW := xW_of (xtb1 (List.mem_of_getElem? (i := 221) rfl)) rfl
theorem fl_X11_77_11 : xFl RX11 77 11 8 (.array .int) true := ⟨RX11, TX11, 14, tyX11, rfl, by decide, xin_11, xw276, tyX11_ok, nmX11, tyX11_ok 8 (by decide), rfl⟩
theorem xw277 : Cond.fieldLink RX11 80 "DreamWindows" "sleepers" "I" ∈ xW := xW_of (xtb1 (List.mem_of_getElem? (i := 222) rfl)) rfl
theorem fl_X11_80_11 : xFl RX11 80 11 9 (.int) false := ⟨RX11, TX11, 14, tyX11, rfl, by decide, xin_11, xw277, tyX11_ok, nmX11, tyX11_ok 9 (by decide), rfl⟩
theorem xw278 : Cond.fieldLink RX11 84 "DreamWindows" "night" "I" ∈ xW := xW_of (xtb1 (List.mem_of_getElem? (i := 223) rfl)) rfl
theorem fl_X11_84_11 : xFl RX11 84 11 10 (.int) false := ⟨RX11, TX11, 14, tyX11, rfl, by decide, xin_11, xw278, tyX11_ok, nmX11, tyX11_ok 10 (by decide), rfl⟩
theorem xw279 : Cond.fieldLink RX11 87 "DreamWindows" "minutes" "I" ∈ xW := xW_of (xtb1 (List.mem_of_getElem? (i := 224) rfl)) rfl
theorem fl_X11_87_11 : xFl RX11 87 11 11 (.int) false := ⟨RX11, TX11, 14, tyX11, rfl, by decide, xin_11, xw279, tyX11_ok, nmX11, tyX11_ok 11 (by decide), rfl⟩
theorem xw280 : Cond.fieldLink RX11 90 "DreamWindows" "textCount" "I" ∈ xW := xW_of (xtb1 (List.mem_of_getElem? (i := 225) rfl)) rfl
theorem fl_X11_90_11 : xFl RX11 90 11 12 (.int) false := ⟨RX11, TX11, 14, tyX11, rfl, by decide, xin_11, xw280, tyX11_ok, nmX11, tyX11_ok 12 (by decide), rfl⟩
theorem xw281 : Cond.fieldLink RX11 93 "DreamWindows" "law" "I" ∈ xW := xW_of (xtb1 (List.mem_of_getElem? (i := 226) rfl)) rfl
theorem fl_X11_93_11 : xFl RX11 93 11 13 (.int) false := ⟨RX11, TX11, 14, tyX11, rfl, by decide, xin_11, xw281, tyX11_ok, nmX11, tyX11_ok 13 (by decide), rfl⟩
theorem xw254 : Cond.methodLink RX11 96 yX10_init ∈ xW := xW_of (xtb1 (List.mem_of_getElem? (i := 199) rfl)) rfl
theorem ki_X11_96 : xKi RX11 96 yX10_init cX10_init 3 2 := ⟨xw254, xw255, xw67, xw256, rfl, ⟨by decide +kernel, by decide +kernel, by decide +kernel⟩⟩
theorem xw140 : Cond.classLink RX11 99 RX7 ∈ xW := xW_of (xtb1 (List.mem_of_getElem? (i := 85) rfl)) rfl
theorem cl_X11_99 : Cond.classLink RX11 99 RX7 ∈ xW := xw140
theorem xw142 : Cond.instantiable RX7 5 ∈ xW := xW_of (xtb1 (List.mem_of_getElem? (i := 87) rfl)) rfl
theorem xw143 : Cond.methodLink RX11 101 yX7_init ∈ xW := xW_of (xtb1 (List.mem_of_getElem? (i := 88) rfl)) rfl
theorem xw144 : Cond.instanceMethod yX7_init ∈ xW := xW_of (xtb1 (List.mem_of_getElem? (i := 89) rfl)) rfl
theorem xw145 : Cond.code yX7_init cX7_init 2 none ∈ xW := xW_of (xtb1 (List.mem_of_getElem? (i := 90) rfl)) rfl
theorem ki_X11_101 : xKi RX11 101 yX7_init cX7_init 2 1 := ⟨xw143, xw144, xw63, xw145, rfl, ⟨by decide +kernel, by decide +kernel, by decide +kernel⟩⟩
theorem xw204 : Cond.fieldLink RX11 104 "DreamWindows$Tape" "size" "I" ∈ xW := xW_of (xtb1 (List.mem_of_getElem? (i := 149) rfl)) rfl
theorem fl_X11_104_9 : xFl RX11 104 9 0 (.int) false := ⟨RX9, TX9, 9, tyX9, rfl, by decide, xin_9, xw204, tyX9_ok, nmX9, tyX9_ok 0 (by decide), rfl⟩
theorem xw319 : Cond.methodLink RX11 107 yX11_within ∈ xW := xW_of (xtb2 (List.mem_of_getElem? (i := 24) rfl)) rfl
theorem ks_X11_107 : xKs RX11 107 yX11_within cX11_within 2 (some .boolean) 2 := ⟨xw319, xw320, xw56, xw321, ⟨by decide +kernel, by decide +kernel, by decide +kernel⟩⟩
theorem xw326 : Cond.methodLink RX11 111 yX9_add ∈ xW := xW_of (xtb2 (List.mem_of_getElem? (i := 31) rfl)) rfl
theorem xw327 : Cond.instanceMethod yX9_add ∈ xW := xW_of (xtb2 (List.mem_of_getElem? (i := 32) rfl)) rfl
theorem xw328 : Cond.selects RX9 yX9_add yX9_add ∈ xW := xW_of (xtb2 (List.mem_of_getElem? (i := 33) rfl)) rfl
theorem xw329 : Cond.code yX9_add cX9_add 2 none ∈ xW := xW_of (xtb2 (List.mem_of_getElem? (i := 34) rfl)) rfl
theorem kv_X11_111 : xKv RX11 111 yX9_add cX9_add 2 none 1 := ⟨xw326, xw327, xw328, xw65, xw329, ⟨by decide +kernel, by decide +kernel, by decide +kernel⟩⟩
theorem xw334 : Cond.methodLink RX11 114 yX9_readWhole ∈ xW := xW_of (xtb2 (List.mem_of_getElem? (i := 39) rfl)) rfl
theorem xw335 : Cond.instanceMethod yX9_readWhole ∈ xW := xW_of (xtb2 (List.mem_of_getElem? (i := 40) rfl)) rfl
theorem xw336 : Cond.selects RX9 yX9_readWhole yX9_readWhole ∈ xW := xW_of (xtb2 (List.mem_of_getElem? (i := 41) rfl)) rfl
theorem xw337 : Cond.code yX9_readWhole cX9_readWhole 2 (some .boolean) ∈ xW := xW_of (xtb2 (List.mem_of_getElem? (i := 42) rfl)) rfl
theorem kv_X11_114 : xKv RX11 114 yX9_readWhole cX9_readWhole 2 (some .boolean) 0 := ⟨xw334, xw335, xw336, xw65, xw337, ⟨by decide +kernel, by decide +kernel, by decide +kernel⟩⟩
theorem xw206 : Cond.fieldLink RX11 118 "DreamWindows$Tape" "start" "I" ∈ xW := xW_of (xtb1 (List.mem_of_getElem? (i := 151) rfl)) rfl
theorem fl_X11_118_9 : xFl RX11 118 9 1 (.int) false := ⟨RX9, TX9, 9, tyX9, rfl, by decide, xin_9, xw206, tyX9_ok, nmX9, tyX9_ok 1 (by decide), rfl⟩
theorem xw444 : Cond.methodLink RX11 121 yX9_written ∈ xW := xW_of (xtb2 (List.mem_of_getElem? (i := 149) rfl)) rfl
theorem xw445 : Cond.instanceMethod yX9_written ∈ xW := xW_of (xtb2 (List.mem_of_getElem? (i := 150) rfl)) rfl
theorem xw446 : Cond.selects RX9 yX9_written yX9_written ∈ xW := xW_of (xtb2 (List.mem_of_getElem? (i := 151) rfl)) rfl
theorem xw447 : Cond.code yX9_written cX9_written 1 (some (.object "DreamWindows$Text")) ∈ xW := xW_of (xtb2 (List.mem_of_getElem? (i := 152) rfl)) rfl
theorem kv_X11_121 : xKv RX11 121 yX9_written cX9_written 1 (some (.object "DreamWindows$Text")) 0 := ⟨xw444, xw445, xw446, xw65, xw447, ⟨by decide +kernel, by decide +kernel, by decide +kernel⟩⟩
theorem xw477 : Cond.methodLink RX11 125 yX11_isSleeper ∈ xW := xW_of (xtb2 (List.mem_of_getElem? (i := 182) rfl)) rfl
theorem xw479 : Cond.instanceMethod yX11_isSleeper ∈ xW := xW_of (xtb2 (List.mem_of_getElem? (i := 184) rfl)) rfl
theorem xw12 : Cond.selects RX11 yX11_isSleeper yX11_isSleeper ∈ xW := xW_of (List.mem_of_getElem? (i := 12) (by decide +kernel)) rfl
theorem xw480 : Cond.code yX11_isSleeper cX11_isSleeper 2 (some .boolean) ∈ xW := xW_of (xtb2 (List.mem_of_getElem? (i := 185) rfl)) rfl
theorem kv_X11_125 : xKv RX11 125 yX11_isSleeper cX11_isSleeper 2 (some .boolean) 1 := ⟨xw477, xw479, xw12, xw56, xw480, ⟨by decide +kernel, by decide +kernel, by decide +kernel⟩⟩
theorem xw481 : Cond.methodLink RX11 129 yX11_isCell ∈ xW := xW_of (xtb2 (List.mem_of_getElem? (i := 186) rfl)) rfl
theorem xw482 : Cond.static yX11_isCell ∈ xW := xW_of (xtb2 (List.mem_of_getElem? (i := 187) rfl)) rfl
theorem xw483 : Cond.code yX11_isCell cX11_isCell 1 (some .boolean) ∈ xW := xW_of (xtb2 (List.mem_of_getElem? (i := 188) rfl)) rfl
theorem ks_X11_129 : xKs RX11 129 yX11_isCell cX11_isCell 1 (some .boolean) 1 := ⟨xw481, xw482, xw56, xw483, ⟨by decide +kernel, by decide +kernel, by decide +kernel⟩⟩
theorem xw484 : Cond.methodLink RX11 132 yX7_said ∈ xW := xW_of (xtb2 (List.mem_of_getElem? (i := 189) rfl)) rfl
theorem kv_X11_132 : xKv RX11 132 yX7_said cX7_said 6 (some .int) 4 := ⟨xw484, xw485, xw486, xw63, xw487, ⟨by decide +kernel, by decide +kernel, by decide +kernel⟩⟩
theorem xw504 : Cond.constant RX11 136 (65535) ∈ xW := xW_of (xtb2 (List.mem_of_getElem? (i := 209) rfl)) rfl
theorem cn_X11_136 : Cond.constant RX11 136 (65535) ∈ xW := xw504
theorem xw148 : Cond.fieldLink RX11 137 "DreamWindows$Pane" "kind" "LDreamWindows$Kind;" ∈ xW := xW_of (xtb1 (List.mem_of_getElem? (i := 93) rfl)) rfl
theorem fl_X11_137_7 : xFl RX11 137 7 0 (.object "DreamWindows$Kind") false := ⟨RX7, TX7, 5, tyX7, rfl, by decide, xin_7, xw148, tyX7_ok, nmX7, tyX7_ok 0 (by decide), rfl⟩
theorem xw150 : Cond.fieldLink RX11 141 "DreamWindows$Pane" "more" "I" ∈ xW := xW_of (xtb1 (List.mem_of_getElem? (i := 95) rfl)) rfl
theorem fl_X11_141_7 : xFl RX11 141 7 1 (.int) false := ⟨RX7, TX7, 5, tyX7, rfl, by decide, xin_7, xw150, tyX7_ok, nmX7, tyX7_ok 1 (by decide), rfl⟩
theorem xw152 : Cond.fieldLink RX11 144 "DreamWindows$Pane" "picture" "I" ∈ xW := xW_of (xtb1 (List.mem_of_getElem? (i := 97) rfl)) rfl
theorem fl_X11_144_7 : xFl RX11 144 7 2 (.int) false := ⟨RX7, TX7, 5, tyX7, rfl, by decide, xin_7, xw152, tyX7_ok, nmX7, tyX7_ok 2 (by decide), rfl⟩
theorem xw505 : Cond.methodLink RX11 147 yX7_dullAll ∈ xW := xW_of (xtb2 (List.mem_of_getElem? (i := 210) rfl)) rfl
theorem xw506 : Cond.instanceMethod yX7_dullAll ∈ xW := xW_of (xtb2 (List.mem_of_getElem? (i := 211) rfl)) rfl
theorem xw507 : Cond.selects RX7 yX7_dullAll yX7_dullAll ∈ xW := xW_of (xtb2 (List.mem_of_getElem? (i := 212) rfl)) rfl
theorem xw508 : Cond.code yX7_dullAll cX7_dullAll 3 none ∈ xW := xW_of (xtb2 (List.mem_of_getElem? (i := 213) rfl)) rfl
theorem kv_X11_147 : xKv RX11 147 yX7_dullAll cX7_dullAll 3 none 1 := ⟨xw505, xw506, xw507, xw63, xw508, ⟨by decide +kernel, by decide +kernel, by decide +kernel⟩⟩
theorem xw154 : Cond.fieldLink RX11 150 "DreamWindows$Pane" "dull" "[I" ∈ xW := xW_of (xtb1 (List.mem_of_getElem? (i := 99) rfl)) rfl
theorem fl_X11_150_7 : xFl RX11 150 7 3 (.array .int) true := ⟨RX7, TX7, 5, tyX7, rfl, by decide, xin_7, xw154, tyX7_ok, nmX7, tyX7_ok 3 (by decide), rfl⟩
theorem xw93 : Cond.fieldLink RX11 153 "DreamWindows$Kind" "number" "I" ∈ xW := xW_of (xtb1 (List.mem_of_getElem? (i := 38) rfl)) rfl
theorem fl_X11_153_0 : xFl RX11 153 0 0 (.int) true := ⟨RX0, TX0, 1, tyX0, rfl, by decide, xin_0, xw93, tyX0_ok, nmX0, tyX0_ok 0 (by decide), rfl⟩
theorem fl_X11_153_1 : xFl RX11 153 1 0 (.int) true := ⟨RX1, TX1, 1, tyX1, rfl, by decide, xin_1, xw93, tyX1_ok, nmX1, tyX1_ok 0 (by decide), rfl⟩
theorem fl_X11_153_2 : xFl RX11 153 2 0 (.int) true := ⟨RX2, TX2, 1, tyX2, rfl, by decide, xin_2, xw93, tyX2_ok, nmX2, tyX2_ok 0 (by decide), rfl⟩
theorem fl_X11_153_4 : xFl RX11 153 4 0 (.int) true := ⟨RX4, TX4, 1, tyX4, rfl, by decide, xin_4, xw93, tyX4_ok, nmX4, tyX4_ok 0 (by decide), rfl⟩
theorem fl_X11_153_5 : xFl RX11 153 5 0 (.int) true := ⟨RX5, TX5, 1, tyX5, rfl, by decide, xin_5, xw93, tyX5_ok, nmX5, tyX5_ok 0 (by decide), rfl⟩
theorem fl_X11_153_6 : xFl RX11 153 6 0 (.int) true := ⟨RX6, TX6, 1, tyX6, rfl, by decide, xin_6, xw93, tyX6_ok, nmX6, tyX6_ok 0 (by decide), rfl⟩
theorem xw517 : Cond.methodLink RX11 156 yX7_dullTogether ∈ xW := xW_of (xtb2 (List.mem_of_getElem? (i := 222) rfl)) rfl
theorem xw518 : Cond.instanceMethod yX7_dullTogether ∈ xW := xW_of (xtb2 (List.mem_of_getElem? (i := 223) rfl)) rfl
theorem xw519 : Cond.selects RX7 yX7_dullTogether yX7_dullTogether ∈ xW := xW_of (xtb2 (List.mem_of_getElem? (i := 224) rfl)) rfl
theorem xw520 : Cond.code yX7_dullTogether cX7_dullTogether 3 (some .int) ∈ xW := xW_of (xtb2 (List.mem_of_getElem? (i := 225) rfl)) rfl
theorem kv_X11_156 : xKv RX11 156 yX7_dullTogether cX7_dullTogether 3 (some .int) 0 := ⟨xw517, xw518, xw519, xw63, xw520, ⟨by decide +kernel, by decide +kernel, by decide +kernel⟩⟩
theorem xw525 : Cond.methodLink RX11 160 yX7_clearCells ∈ xW := xW_of (xtb2 (List.mem_of_getElem? (i := 230) rfl)) rfl
theorem kv_X11_160 : xKv RX11 160 yX7_clearCells cX7_clearCells 5 (some .int) 2 := ⟨xw525, xw526, xw527, xw63, xw528, ⟨by decide +kernel, by decide +kernel, by decide +kernel⟩⟩
theorem xw552 : Cond.methodLink RX11 164 yX7_seenCells ∈ xW := xW_of (xtb3 (List.mem_of_getElem? (i := 17) rfl)) rfl
theorem xw553 : Cond.instanceMethod yX7_seenCells ∈ xW := xW_of (xtb3 (List.mem_of_getElem? (i := 18) rfl)) rfl
theorem xw554 : Cond.selects RX7 yX7_seenCells yX7_seenCells ∈ xW := xW_of (xtb3 (List.mem_of_getElem? (i := 19) rfl)) rfl
theorem xw555 : Cond.code yX7_seenCells cX7_seenCells 3 (some .int) ∈ xW := xW_of (xtb3 (List.mem_of_getElem? (i := 20) rfl)) rfl
theorem kv_X11_164 : xKv RX11 164 yX7_seenCells cX7_seenCells 3 (some .int) 2 := ⟨xw552, xw553, xw554, xw63, xw555, ⟨by decide +kernel, by decide +kernel, by decide +kernel⟩⟩
theorem xw557 : Cond.methodLink RX11 167 yJ6_bitCount_0f7a4 ∈ xW := xW_of (xtb3 (List.mem_of_getElem? (i := 22) rfl)) rfl
theorem xw558 : Cond.static yJ6_bitCount_0f7a4 ∈ xW := xW_of (xtb3 (List.mem_of_getElem? (i := 23) rfl)) rfl
theorem xw76 : Cond.initialized RJ6 ∈ xW := xW_of (xtb1 (List.mem_of_getElem? (i := 21) rfl)) rfl
theorem xw559 : Cond.code yJ6_bitCount_0f7a4 cJ6_bitCount_0f7a4 1 (some .int) ∈ xW := xW_of (xtb3 (List.mem_of_getElem? (i := 24) rfl)) rfl
theorem ks_X11_167 : xKs RX11 167 yJ6_bitCount_0f7a4 cJ6_bitCount_0f7a4 1 (some .int) 1 := ⟨xw557, xw558, xw76, xw559, ⟨by decide +kernel, by decide +kernel, by decide +kernel⟩⟩
theorem xw563 : Cond.methodLink RX11 173 yX7_costOf ∈ xW := xW_of (xtb3 (List.mem_of_getElem? (i := 28) rfl)) rfl
theorem xw564 : Cond.instanceMethod yX7_costOf ∈ xW := xW_of (xtb3 (List.mem_of_getElem? (i := 29) rfl)) rfl
theorem xw565 : Cond.selects RX7 yX7_costOf yX7_costOf ∈ xW := xW_of (xtb3 (List.mem_of_getElem? (i := 30) rfl)) rfl
theorem xw566 : Cond.code yX7_costOf cX7_costOf 6 (some .int) ∈ xW := xW_of (xtb3 (List.mem_of_getElem? (i := 31) rfl)) rfl
theorem kv_X11_173 : xKv RX11 173 yX7_costOf cX7_costOf 6 (some .int) 3 := ⟨xw563, xw564, xw565, xw63, xw566, ⟨by decide +kernel, by decide +kernel, by decide +kernel⟩⟩
theorem xw600 : Cond.methodLink RX11 177 yX7_passNight ∈ xW := xW_of (xtb3 (List.mem_of_getElem? (i := 65) rfl)) rfl
theorem xw601 : Cond.instanceMethod yX7_passNight ∈ xW := xW_of (xtb3 (List.mem_of_getElem? (i := 66) rfl)) rfl
theorem xw602 : Cond.selects RX7 yX7_passNight yX7_passNight ∈ xW := xW_of (xtb3 (List.mem_of_getElem? (i := 67) rfl)) rfl
theorem xw603 : Cond.code yX7_passNight cX7_passNight 4 none ∈ xW := xW_of (xtb3 (List.mem_of_getElem? (i := 68) rfl)) rfl
theorem kv_X11_177 : xKv RX11 177 yX7_passNight cX7_passNight 4 none 2 := ⟨xw600, xw601, xw602, xw63, xw603, ⟨by decide +kernel, by decide +kernel, by decide +kernel⟩⟩
theorem xw637 : Cond.methodLink RX11 181 yX7_cost ∈ xW := xW_of (xtb3 (List.mem_of_getElem? (i := 102) rfl)) rfl
theorem kv_X11_181 : xKv RX11 181 yX7_cost cX7_cost 4 (some .int) 3 := ⟨xw637, xw569, xw570, xw63, xw571, ⟨by decide +kernel, by decide +kernel, by decide +kernel⟩⟩
theorem xw642 : Cond.methodLink RX11 184 yX11_inThought ∈ xW := xW_of (xtb3 (List.mem_of_getElem? (i := 107) rfl)) rfl
theorem xw644 : Cond.instanceMethod yX11_inThought ∈ xW := xW_of (xtb3 (List.mem_of_getElem? (i := 109) rfl)) rfl
theorem xw13 : Cond.selects RX11 yX11_inThought yX11_inThought ∈ xW := xW_of (List.mem_of_getElem? (i := 13) (by decide +kernel)) rfl
theorem xw645 : Cond.code yX11_inThought cX11_inThought 2 (some (.object "DreamWindows$Pane")) ∈ xW := xW_of (xtb3 (List.mem_of_getElem? (i := 110) rfl)) rfl
theorem kv_X11_184 : xKv RX11 184 yX11_inThought cX11_inThought 2 (some (.object "DreamWindows$Pane")) 1 := ⟨xw642, xw644, xw13, xw56, xw645, ⟨by decide +kernel, by decide +kernel, by decide +kernel⟩⟩
theorem xw659 : Cond.methodLink RX11 188 yX11_worthCleaning ∈ xW := xW_of (xtb3 (List.mem_of_getElem? (i := 124) rfl)) rfl
theorem xw661 : Cond.instanceMethod yX11_worthCleaning ∈ xW := xW_of (xtb3 (List.mem_of_getElem? (i := 126) rfl)) rfl
theorem xw14 : Cond.selects RX11 yX11_worthCleaning yX11_worthCleaning ∈ xW := xW_of (List.mem_of_getElem? (i := 14) (by decide +kernel)) rfl
theorem xw662 : Cond.code yX11_worthCleaning cX11_worthCleaning 7 (some .int) ∈ xW := xW_of (xtb3 (List.mem_of_getElem? (i := 127) rfl)) rfl
theorem kv_X11_188 : xKv RX11 188 yX11_worthCleaning cX11_worthCleaning 7 (some .int) 1 := ⟨xw659, xw661, xw14, xw56, xw662, ⟨by decide +kernel, by decide +kernel, by decide +kernel⟩⟩
theorem xw673 : Cond.methodLink RX11 191 Lib.Math.max.name ∈ xW := xW_of (xtb3 (List.mem_of_getElem? (i := 138) rfl)) rfl
theorem xw667 : Cond.constant RX11 197 (1000000) ∈ xW := xW_of (xtb3 (List.mem_of_getElem? (i := 132) rfl)) rfl
theorem cn_X11_197 : Cond.constant RX11 197 (1000000) ∈ xW := xw667
theorem xw682 : Cond.methodLink RX11 198 yX11_leastBeside ∈ xW := xW_of (xtb3 (List.mem_of_getElem? (i := 147) rfl)) rfl
theorem xw684 : Cond.instanceMethod yX11_leastBeside ∈ xW := xW_of (xtb3 (List.mem_of_getElem? (i := 149) rfl)) rfl
theorem xw16 : Cond.selects RX11 yX11_leastBeside yX11_leastBeside ∈ xW := xW_of (List.mem_of_getElem? (i := 16) (by decide +kernel)) rfl
theorem xw685 : Cond.code yX11_leastBeside cX11_leastBeside 3 (some .int) ∈ xW := xW_of (xtb3 (List.mem_of_getElem? (i := 150) rfl)) rfl
theorem kv_X11_198 : xKv RX11 198 yX11_leastBeside cX11_leastBeside 3 (some .int) 1 := ⟨xw682, xw684, xw16, xw56, xw685, ⟨by decide +kernel, by decide +kernel, by decide +kernel⟩⟩
theorem xw686 : Cond.methodLink RX11 201 Lib.Math.min.name ∈ xW := xW_of (xtb3 (List.mem_of_getElem? (i := 151) rfl)) rfl
theorem xw691 : Cond.methodLink RX11 204 yX11_isOftenEnough ∈ xW := xW_of (xtb3 (List.mem_of_getElem? (i := 156) rfl)) rfl
theorem xw693 : Cond.instanceMethod yX11_isOftenEnough ∈ xW := xW_of (xtb3 (List.mem_of_getElem? (i := 158) rfl)) rfl
theorem xw17 : Cond.selects RX11 yX11_isOftenEnough yX11_isOftenEnough ∈ xW := xW_of (List.mem_of_getElem? (i := 17) (by decide +kernel)) rfl
theorem xw694 : Cond.code yX11_isOftenEnough cX11_isOftenEnough 6 (some .boolean) ∈ xW := xW_of (xtb3 (List.mem_of_getElem? (i := 159) rfl)) rfl
theorem kv_X11_204 : xKv RX11 204 yX11_isOftenEnough cX11_isOftenEnough 6 (some .boolean) 2 := ⟨xw691, xw693, xw17, xw56, xw694, ⟨by decide +kernel, by decide +kernel, by decide +kernel⟩⟩
theorem xw699 : Cond.methodLink RX11 207 yX11_isTorn ∈ xW := xW_of (xtb3 (List.mem_of_getElem? (i := 164) rfl)) rfl
theorem xw700 : Cond.static yX11_isTorn ∈ xW := xW_of (xtb3 (List.mem_of_getElem? (i := 165) rfl)) rfl
theorem xw701 : Cond.code yX11_isTorn cX11_isTorn 11 (some .boolean) ∈ xW := xW_of (xtb3 (List.mem_of_getElem? (i := 166) rfl)) rfl
theorem ks_X11_207 : xKs RX11 207 yX11_isTorn cX11_isTorn 11 (some .boolean) 6 := ⟨xw699, xw700, xw56, xw701, ⟨by decide +kernel, by decide +kernel, by decide +kernel⟩⟩
theorem xw706 : Cond.methodLink RX11 211 yX11_refusalOf ∈ xW := xW_of (xtb3 (List.mem_of_getElem? (i := 171) rfl)) rfl
theorem xw708 : Cond.instanceMethod yX11_refusalOf ∈ xW := xW_of (xtb3 (List.mem_of_getElem? (i := 173) rfl)) rfl
theorem xw18 : Cond.selects RX11 yX11_refusalOf yX11_refusalOf ∈ xW := xW_of (List.mem_of_getElem? (i := 18) (by decide +kernel)) rfl
theorem xw709 : Cond.code yX11_refusalOf cX11_refusalOf 3 (some .int) ∈ xW := xW_of (xtb3 (List.mem_of_getElem? (i := 174) rfl)) rfl
theorem kv_X11_211 : xKv RX11 211 yX11_refusalOf cX11_refusalOf 3 (some .int) 2 := ⟨xw706, xw708, xw18, xw56, xw709, ⟨by decide +kernel, by decide +kernel, by decide +kernel⟩⟩
theorem xw713 : Cond.methodLink RX11 214 yX11_firstOtherwise ∈ xW := xW_of (xtb3 (List.mem_of_getElem? (i := 178) rfl)) rfl
theorem xw715 : Cond.instanceMethod yX11_firstOtherwise ∈ xW := xW_of (xtb3 (List.mem_of_getElem? (i := 180) rfl)) rfl
theorem xw19 : Cond.selects RX11 yX11_firstOtherwise yX11_firstOtherwise ∈ xW := xW_of (List.mem_of_getElem? (i := 19) (by decide +kernel)) rfl
theorem xw716 : Cond.code yX11_firstOtherwise cX11_firstOtherwise 5 (some .int) ∈ xW := xW_of (xtb3 (List.mem_of_getElem? (i := 181) rfl)) rfl
theorem kv_X11_214 : xKv RX11 214 yX11_firstOtherwise cX11_firstOtherwise 5 (some .int) 3 := ⟨xw713, xw715, xw19, xw56, xw716, ⟨by decide +kernel, by decide +kernel, by decide +kernel⟩⟩
theorem xw725 : Cond.methodLink RX11 218 yX11_isRightElsewhere ∈ xW := xW_of (xtb3 (List.mem_of_getElem? (i := 190) rfl)) rfl
theorem xw727 : Cond.instanceMethod yX11_isRightElsewhere ∈ xW := xW_of (xtb3 (List.mem_of_getElem? (i := 192) rfl)) rfl
theorem xw20 : Cond.selects RX11 yX11_isRightElsewhere yX11_isRightElsewhere ∈ xW := xW_of (List.mem_of_getElem? (i := 20) (by decide +kernel)) rfl
theorem xw728 : Cond.code yX11_isRightElsewhere cX11_isRightElsewhere 6 (some .boolean) ∈ xW := xW_of (xtb3 (List.mem_of_getElem? (i := 193) rfl)) rfl
theorem kv_X11_218 : xKv RX11 218 yX11_isRightElsewhere cX11_isRightElsewhere 6 (some .boolean) 3 := ⟨xw725, xw727, xw20, xw56, xw728, ⟨by decide +kernel, by decide +kernel, by decide +kernel⟩⟩
theorem xw734 : Cond.methodLink RX11 222 yX11_isRightAt ∈ xW := xW_of (xtb3 (List.mem_of_getElem? (i := 199) rfl)) rfl
theorem xw736 : Cond.instanceMethod yX11_isRightAt ∈ xW := xW_of (xtb3 (List.mem_of_getElem? (i := 201) rfl)) rfl
theorem xw21 : Cond.selects RX11 yX11_isRightAt yX11_isRightAt ∈ xW := xW_of (List.mem_of_getElem? (i := 21) (by decide +kernel)) rfl
theorem xw737 : Cond.code yX11_isRightAt cX11_isRightAt 6 (some .boolean) ∈ xW := xW_of (xtb3 (List.mem_of_getElem? (i := 202) rfl)) rfl
theorem kv_X11_222 : xKv RX11 222 yX11_isRightAt cX11_isRightAt 6 (some .boolean) 3 := ⟨xw734, xw736, xw21, xw56, xw737, ⟨by decide +kernel, by decide +kernel, by decide +kernel⟩⟩
theorem xw729 : Cond.methodLink RX11 226 yX8_anyBits ∈ xW := xW_of (xtb3 (List.mem_of_getElem? (i := 194) rfl)) rfl
theorem xw730 : Cond.instanceMethod yX8_anyBits ∈ xW := xW_of (xtb3 (List.mem_of_getElem? (i := 195) rfl)) rfl
theorem xw731 : Cond.selects RX8 yX8_anyBits yX8_anyBits ∈ xW := xW_of (xtb3 (List.mem_of_getElem? (i := 196) rfl)) rfl
theorem xw732 : Cond.code yX8_anyBits cX8_anyBits 3 (some .int) ∈ xW := xW_of (xtb3 (List.mem_of_getElem? (i := 197) rfl)) rfl
theorem kv_X11_226 : xKv RX11 226 yX8_anyBits cX8_anyBits 3 (some .int) 0 := ⟨xw729, xw730, xw731, xw66, xw732, ⟨by decide +kernel, by decide +kernel, by decide +kernel⟩⟩
theorem xw243 : Cond.fieldLink RX11 229 "DreamWindows$Sheet" "size" "I" ∈ xW := xW_of (xtb1 (List.mem_of_getElem? (i := 188) rfl)) rfl
theorem fl_X11_229_8 : xFl RX11 229 8 1 (.int) false := ⟨RX8, TX8, 3, tyX8, rfl, by decide, xin_8, xw243, tyX8_ok, nmX8, tyX8_ok 1 (by decide), rfl⟩
theorem xw710 : Cond.methodLink RX11 230 yX11_isSheet ∈ xW := xW_of (xtb3 (List.mem_of_getElem? (i := 175) rfl)) rfl
theorem xw711 : Cond.static yX11_isSheet ∈ xW := xW_of (xtb3 (List.mem_of_getElem? (i := 176) rfl)) rfl
theorem xw712 : Cond.code yX11_isSheet cX11_isSheet 1 (some .boolean) ∈ xW := xW_of (xtb3 (List.mem_of_getElem? (i := 177) rfl)) rfl
theorem ks_X11_230 : xKs RX11 230 yX11_isSheet cX11_isSheet 1 (some .boolean) 1 := ⟨xw710, xw711, xw56, xw712, ⟨by decide +kernel, by decide +kernel, by decide +kernel⟩⟩
theorem xw752 : Cond.methodLink RX11 233 yX8_become ∈ xW := xW_of (xtb3 (List.mem_of_getElem? (i := 217) rfl)) rfl
theorem xw753 : Cond.instanceMethod yX8_become ∈ xW := xW_of (xtb3 (List.mem_of_getElem? (i := 218) rfl)) rfl
theorem xw754 : Cond.selects RX8 yX8_become yX8_become ∈ xW := xW_of (xtb3 (List.mem_of_getElem? (i := 219) rfl)) rfl
theorem xw755 : Cond.code yX8_become cX8_become 3 none ∈ xW := xW_of (xtb3 (List.mem_of_getElem? (i := 220) rfl)) rfl
theorem kv_X11_233 : xKv RX11 233 yX8_become cX8_become 3 none 2 := ⟨xw752, xw753, xw754, xw66, xw755, ⟨by decide +kernel, by decide +kernel, by decide +kernel⟩⟩
theorem xw759 : Cond.methodLink RX11 237 yX8_write ∈ xW := xW_of (xtb3 (List.mem_of_getElem? (i := 224) rfl)) rfl
theorem xw760 : Cond.instanceMethod yX8_write ∈ xW := xW_of (xtb3 (List.mem_of_getElem? (i := 225) rfl)) rfl
theorem xw761 : Cond.selects RX8 yX8_write yX8_write ∈ xW := xW_of (xtb3 (List.mem_of_getElem? (i := 226) rfl)) rfl
theorem xw762 : Cond.code yX8_write cX8_write 3 none ∈ xW := xW_of (xtb3 (List.mem_of_getElem? (i := 227) rfl)) rfl
theorem kv_X11_237 : xKv RX11 237 yX8_write cX8_write 3 none 2 := ⟨xw759, xw760, xw761, xw66, xw762, ⟨by decide +kernel, by decide +kernel, by decide +kernel⟩⟩
theorem xw767 : Cond.constant RX11 240 (99999) ∈ xW := xW_of (xtb3 (List.mem_of_getElem? (i := 232) rfl)) rfl
theorem cn_X11_240 : Cond.constant RX11 240 (99999) ∈ xW := xw767
theorem xw768 : Cond.methodLink RX11 241 yX11_seenBehindFlies ∈ xW := xW_of (xtb3 (List.mem_of_getElem? (i := 233) rfl)) rfl
theorem xw770 : Cond.instanceMethod yX11_seenBehindFlies ∈ xW := xW_of (xtb3 (List.mem_of_getElem? (i := 235) rfl)) rfl
theorem xw22 : Cond.selects RX11 yX11_seenBehindFlies yX11_seenBehindFlies ∈ xW := xW_of (List.mem_of_getElem? (i := 22) (by decide +kernel)) rfl
theorem xw771 : Cond.code yX11_seenBehindFlies cX11_seenBehindFlies 7 (some .int) ∈ xW := xW_of (xtb3 (List.mem_of_getElem? (i := 236) rfl)) rfl
theorem kv_X11_241 : xKv RX11 241 yX11_seenBehindFlies cX11_seenBehindFlies 7 (some .int) 2 := ⟨xw768, xw770, xw22, xw56, xw771, ⟨by decide +kernel, by decide +kernel, by decide +kernel⟩⟩
theorem xw779 : Cond.constantLong RX11 244 (-4611686018427387904) ∈ xW := xW_of (xtb4 (List.mem_of_getElem? (i := 4) rfl)) rfl
theorem cn_X11_244 : Cond.constantLong RX11 244 (-4611686018427387904) ∈ xW := xw779
theorem xw183 : Cond.fieldLink RX11 246 "DreamWindows$Image" "panes" "[LDreamWindows$Pane;" ∈ xW := xW_of (xtb1 (List.mem_of_getElem? (i := 128) rfl)) rfl
theorem fl_X11_246_3 : xFl RX11 246 3 4 (.array (.object "DreamWindows$Pane")) true := ⟨RX3, TX3, 5, tyX3, rfl, by decide, xin_3, xw183, tyX3_ok, nmX3, tyX3_ok 4 (by decide), rfl⟩
theorem xw646 : Cond.methodLink RX11 247 yX7_takeAfter ∈ xW := xW_of (xtb3 (List.mem_of_getElem? (i := 111) rfl)) rfl
theorem xw647 : Cond.instanceMethod yX7_takeAfter ∈ xW := xW_of (xtb3 (List.mem_of_getElem? (i := 112) rfl)) rfl
theorem xw648 : Cond.selects RX7 yX7_takeAfter yX7_takeAfter ∈ xW := xW_of (xtb3 (List.mem_of_getElem? (i := 113) rfl)) rfl
theorem xw649 : Cond.code yX7_takeAfter cX7_takeAfter 2 none ∈ xW := xW_of (xtb3 (List.mem_of_getElem? (i := 114) rfl)) rfl
theorem kv_X11_247 : xKv RX11 247 yX7_takeAfter cX7_takeAfter 2 none 1 := ⟨xw646, xw647, xw648, xw63, xw649, ⟨by decide +kernel, by decide +kernel, by decide +kernel⟩⟩
theorem xw175 : Cond.fieldLink RX11 251 "DreamWindows$Image" "sleepers" "I" ∈ xW := xW_of (xtb1 (List.mem_of_getElem? (i := 120) rfl)) rfl
theorem fl_X11_251_3 : xFl RX11 251 3 0 (.int) false := ⟨RX3, TX3, 5, tyX3, rfl, by decide, xin_3, xw175, tyX3_ok, nmX3, tyX3_ok 0 (by decide), rfl⟩
theorem xw177 : Cond.fieldLink RX11 252 "DreamWindows$Image" "night" "I" ∈ xW := xW_of (xtb1 (List.mem_of_getElem? (i := 122) rfl)) rfl
theorem fl_X11_252_3 : xFl RX11 252 3 1 (.int) false := ⟨RX3, TX3, 5, tyX3, rfl, by decide, xin_3, xw177, tyX3_ok, nmX3, tyX3_ok 1 (by decide), rfl⟩
theorem xw179 : Cond.fieldLink RX11 253 "DreamWindows$Image" "minutes" "I" ∈ xW := xW_of (xtb1 (List.mem_of_getElem? (i := 124) rfl)) rfl
theorem fl_X11_253_3 : xFl RX11 253 3 2 (.int) false := ⟨RX3, TX3, 5, tyX3, rfl, by decide, xin_3, xw179, tyX3_ok, nmX3, tyX3_ok 2 (by decide), rfl⟩
theorem xw181 : Cond.fieldLink RX11 254 "DreamWindows$Image" "law" "I" ∈ xW := xW_of (xtb1 (List.mem_of_getElem? (i := 126) rfl)) rfl
theorem fl_X11_254_3 : xFl RX11 254 3 3 (.int) false := ⟨RX3, TX3, 5, tyX3, rfl, by decide, xin_3, xw181, tyX3_ok, nmX3, tyX3_ok 3 (by decide), rfl⟩
theorem xw241 : Cond.fieldLink RX11 255 "DreamWindows$Sheet" "sort" "I" ∈ xW := xW_of (xtb1 (List.mem_of_getElem? (i := 186) rfl)) rfl
theorem fl_X11_255_8 : xFl RX11 255 8 0 (.int) false := ⟨RX8, TX8, 3, tyX8, rfl, by decide, xin_8, xw241, tyX8_ok, nmX8, tyX8_ok 0 (by decide), rfl⟩
theorem xw800 : Cond.methodLink RX11 258 yX8_holds ∈ xW := xW_of (xtb4 (List.mem_of_getElem? (i := 25) rfl)) rfl
theorem xw801 : Cond.instanceMethod yX8_holds ∈ xW := xW_of (xtb4 (List.mem_of_getElem? (i := 26) rfl)) rfl
theorem xw802 : Cond.selects RX8 yX8_holds yX8_holds ∈ xW := xW_of (xtb4 (List.mem_of_getElem? (i := 27) rfl)) rfl
theorem xw803 : Cond.code yX8_holds cX8_holds 3 (some .boolean) ∈ xW := xW_of (xtb4 (List.mem_of_getElem? (i := 28) rfl)) rfl
theorem kv_X11_258 : xKv RX11 258 yX8_holds cX8_holds 3 (some .boolean) 2 := ⟨xw800, xw801, xw802, xw66, xw803, ⟨by decide +kernel, by decide +kernel, by decide +kernel⟩⟩
theorem xw245 : Cond.fieldLink RX11 261 "DreamWindows$Sheet" "numbers" "[I" ∈ xW := xW_of (xtb1 (List.mem_of_getElem? (i := 190) rfl)) rfl
theorem fl_X11_261_8 : xFl RX11 261 8 2 (.array .int) true := ⟨RX8, TX8, 3, tyX8, rfl, by decide, xin_8, xw245, tyX8_ok, nmX8, tyX8_ok 2 (by decide), rfl⟩
theorem xw804 : Cond.methodLink RX11 264 arraycopyName ∈ xW := xW_of (xtb4 (List.mem_of_getElem? (i := 29) rfl)) rfl
theorem xw809 : Cond.methodLink RX11 270 yX11_sleeper ∈ xW := xW_of (xtb4 (List.mem_of_getElem? (i := 34) rfl)) rfl
theorem xw501 : Cond.instanceMethod yX11_sleeper ∈ xW := xW_of (xtb2 (List.mem_of_getElem? (i := 206) rfl)) rfl
theorem xw502 : Cond.selects RX11 yX11_sleeper yX11_sleeper ∈ xW := xW_of (xtb2 (List.mem_of_getElem? (i := 207) rfl)) rfl
theorem xw503 : Cond.code yX11_sleeper cX11_sleeper 5 (some .int) ∈ xW := xW_of (xtb2 (List.mem_of_getElem? (i := 208) rfl)) rfl
theorem kv_X11_270 : xKv RX11 270 yX11_sleeper cX11_sleeper 5 (some .int) 3 := ⟨xw809, xw501, xw502, xw56, xw503, ⟨by decide +kernel, by decide +kernel, by decide +kernel⟩⟩
theorem xw814 : Cond.methodLink RX11 274 yX11_isOfKind ∈ xW := xW_of (xtb4 (List.mem_of_getElem? (i := 39) rfl)) rfl
theorem xw815 : Cond.static yX11_isOfKind ∈ xW := xW_of (xtb4 (List.mem_of_getElem? (i := 40) rfl)) rfl
theorem xw816 : Cond.code yX11_isOfKind cX11_isOfKind 2 (some .boolean) ∈ xW := xW_of (xtb4 (List.mem_of_getElem? (i := 41) rfl)) rfl
theorem ks_X11_274 : xKs RX11 274 yX11_isOfKind cX11_isOfKind 2 (some .boolean) 2 := ⟨xw814, xw815, xw56, xw816, ⟨by decide +kernel, by decide +kernel, by decide +kernel⟩⟩
theorem xw663 : Cond.methodLink RX11 278 yX11_cheapest ∈ xW := xW_of (xtb3 (List.mem_of_getElem? (i := 128) rfl)) rfl
theorem xw665 : Cond.instanceMethod yX11_cheapest ∈ xW := xW_of (xtb3 (List.mem_of_getElem? (i := 130) rfl)) rfl
theorem xw15 : Cond.selects RX11 yX11_cheapest yX11_cheapest ∈ xW := xW_of (List.mem_of_getElem? (i := 15) (by decide +kernel)) rfl
theorem xw666 : Cond.code yX11_cheapest cX11_cheapest 5 (some .int) ∈ xW := xW_of (xtb3 (List.mem_of_getElem? (i := 131) rfl)) rfl
theorem kv_X11_278 : xKv RX11 278 yX11_cheapest cX11_cheapest 5 (some .int) 1 := ⟨xw663, xw665, xw15, xw56, xw666, ⟨by decide +kernel, by decide +kernel, by decide +kernel⟩⟩
theorem xw668 : Cond.methodLink RX11 281 yX11_has ∈ xW := xW_of (xtb3 (List.mem_of_getElem? (i := 133) rfl)) rfl
theorem ks_X11_281 : xKs RX11 281 yX11_has cX11_has 2 (some .boolean) 2 := ⟨xw668, xw543, xw56, xw544, ⟨by decide +kernel, by decide +kernel, by decide +kernel⟩⟩
theorem xw733 : Cond.constant RX11 284 (-65536) ∈ xW := xW_of (xtb3 (List.mem_of_getElem? (i := 198) rfl)) rfl
theorem cn_X11_284 : Cond.constant RX11 284 (-65536) ∈ xW := xw733
theorem xw738 : Cond.methodLink RX11 285 yX7_isClear ∈ xW := xW_of (xtb3 (List.mem_of_getElem? (i := 203) rfl)) rfl
theorem kv_X11_285 : xKv RX11 285 yX7_isClear cX7_isClear 4 (some .boolean) 3 := ⟨xw738, xw530, xw531, xw63, xw532, ⟨by decide +kernel, by decide +kernel, by decide +kernel⟩⟩
theorem xw739 : Cond.methodLink RX11 289 yX7_passNightAt ∈ xW := xW_of (xtb3 (List.mem_of_getElem? (i := 204) rfl)) rfl
theorem kv_X11_289 : xKv RX11 289 yX7_passNightAt cX7_passNightAt 4 none 3 := ⟨xw739, xw605, xw606, xw63, xw607, ⟨by decide +kernel, by decide +kernel, by decide +kernel⟩⟩
theorem xw772 : Cond.constantLong RX11 293 (48271) ∈ xW := xW_of (xtb3 (List.mem_of_getElem? (i := 237) rfl)) rfl
theorem cn_X11_293 : Cond.constantLong RX11 293 (48271) ∈ xW := xw772
theorem xw773 : Cond.constantLong RX11 295 (2147483647) ∈ xW := xW_of (xtb3 (List.mem_of_getElem? (i := 238) rfl)) rfl
theorem cn_X11_295 : Cond.constantLong RX11 295 (2147483647) ∈ xW := xw773
theorem xw774 : Cond.methodLink RX11 297 yX7_dullMore ∈ xW := xW_of (xtb3 (List.mem_of_getElem? (i := 239) rfl)) rfl
theorem kv_X11_297 : xKv RX11 297 yX7_dullMore cX7_dullMore 3 none 2 := ⟨xw774, xw630, xw631, xw63, xw632, ⟨by decide +kernel, by decide +kernel, by decide +kernel⟩⟩
theorem xw822 : Cond.methodLink RX12 1 Lib.objectInit ∈ xW := xW_of (xtb4 (List.mem_of_getElem? (i := 47) rfl)) rfl
theorem xw871 : Cond.fieldLink RX12 7 "DreamWindowsModel" "kind" "[I" ∈ xW := xW_of (xtb4 (List.mem_of_getElem? (i := 96) rfl)) rfl
theorem fl_X12_7_12 : xFl RX12 7 12 1 (.array .int) true := ⟨RX12, TX12, 41, tyX12, rfl, by decide, xin_12, xw871, tyX12_ok, nmX12, tyX12_ok 1 (by decide), rfl⟩
theorem xw872 : Cond.fieldLink RX12 13 "DreamWindowsModel" "moreOf" "[I" ∈ xW := xW_of (xtb4 (List.mem_of_getElem? (i := 97) rfl)) rfl
theorem fl_X12_13_12 : xFl RX12 13 12 2 (.array .int) true := ⟨RX12, TX12, 41, tyX12, rfl, by decide, xin_12, xw872, tyX12_ok, nmX12, tyX12_ok 2 (by decide), rfl⟩
theorem xw873 : Cond.fieldLink RX12 16 "DreamWindowsModel" "dull" "[I" ∈ xW := xW_of (xtb4 (List.mem_of_getElem? (i := 98) rfl)) rfl
theorem fl_X12_16_12 : xFl RX12 16 12 3 (.array .int) true := ⟨RX12, TX12, 41, tyX12, rfl, by decide, xin_12, xw873, tyX12_ok, nmX12, tyX12_ok 3 (by decide), rfl⟩
theorem xw874 : Cond.fieldLink RX12 19 "DreamWindowsModel" "picture" "[I" ∈ xW := xW_of (xtb4 (List.mem_of_getElem? (i := 99) rfl)) rfl
theorem fl_X12_19_12 : xFl RX12 19 12 4 (.array .int) true := ⟨RX12, TX12, 41, tyX12, rfl, by decide, xin_12, xw874, tyX12_ok, nmX12, tyX12_ok 4 (by decide), rfl⟩
theorem xw876 : Cond.fieldLink RX12 22 "DreamWindowsModel" "minutes" "I" ∈ xW := xW_of (xtb4 (List.mem_of_getElem? (i := 101) rfl)) rfl
theorem fl_X12_22_12 : xFl RX12 22 12 6 (.int) false := ⟨RX12, TX12, 41, tyX12, rfl, by decide, xin_12, xw876, tyX12_ok, nmX12, tyX12_ok 6 (by decide), rfl⟩
theorem xw877 : Cond.fieldLink RX12 26 "DreamWindowsModel" "tape" "[I" ∈ xW := xW_of (xtb4 (List.mem_of_getElem? (i := 102) rfl)) rfl
theorem fl_X12_26_12 : xFl RX12 26 12 7 (.array .int) true := ⟨RX12, TX12, 41, tyX12, rfl, by decide, xin_12, xw877, tyX12_ok, nmX12, tyX12_ok 7 (by decide), rfl⟩
theorem xw879 : Cond.fieldLink RX12 29 "DreamWindowsModel" "codes" "[I" ∈ xW := xW_of (xtb4 (List.mem_of_getElem? (i := 104) rfl)) rfl
theorem fl_X12_29_12 : xFl RX12 29 12 9 (.array .int) true := ⟨RX12, TX12, 41, tyX12, rfl, by decide, xin_12, xw879, tyX12_ok, nmX12, tyX12_ok 9 (by decide), rfl⟩
theorem xw880 : Cond.fieldLink RX12 32 "DreamWindowsModel" "starts" "[I" ∈ xW := xW_of (xtb4 (List.mem_of_getElem? (i := 105) rfl)) rfl
theorem fl_X12_32_12 : xFl RX12 32 12 10 (.array .int) true := ⟨RX12, TX12, 41, tyX12, rfl, by decide, xin_12, xw880, tyX12_ok, nmX12, tyX12_ok 10 (by decide), rfl⟩
theorem xw884 : Cond.fieldLink RX12 35 "DreamWindowsModel" "imageDull" "[I" ∈ xW := xW_of (xtb4 (List.mem_of_getElem? (i := 109) rfl)) rfl
theorem fl_X12_35_12 : xFl RX12 35 12 14 (.array .int) true := ⟨RX12, TX12, 41, tyX12, rfl, by decide, xin_12, xw884, tyX12_ok, nmX12, tyX12_ok 14 (by decide), rfl⟩
theorem xw885 : Cond.fieldLink RX12 38 "DreamWindowsModel" "imagePicture" "[I" ∈ xW := xW_of (xtb4 (List.mem_of_getElem? (i := 110) rfl)) rfl
theorem fl_X12_38_12 : xFl RX12 38 12 15 (.array .int) true := ⟨RX12, TX12, 41, tyX12, rfl, by decide, xin_12, xw885, tyX12_ok, nmX12, tyX12_ok 15 (by decide), rfl⟩
theorem xw886 : Cond.fieldLink RX12 41 "DreamWindowsModel" "imageHeld" "[I" ∈ xW := xW_of (xtb4 (List.mem_of_getElem? (i := 111) rfl)) rfl
theorem fl_X12_41_12 : xFl RX12 41 12 16 (.array .int) true := ⟨RX12, TX12, 41, tyX12, rfl, by decide, xin_12, xw886, tyX12_ok, nmX12, tyX12_ok 16 (by decide), rfl⟩
theorem xw887 : Cond.fieldLink RX12 44 "DreamWindowsModel" "sheetSort" "[I" ∈ xW := xW_of (xtb4 (List.mem_of_getElem? (i := 112) rfl)) rfl
theorem fl_X12_44_12 : xFl RX12 44 12 17 (.array .int) true := ⟨RX12, TX12, 41, tyX12, rfl, by decide, xin_12, xw887, tyX12_ok, nmX12, tyX12_ok 17 (by decide), rfl⟩
theorem xw888 : Cond.fieldLink RX12 47 "DreamWindowsModel" "sheetSize" "[I" ∈ xW := xW_of (xtb4 (List.mem_of_getElem? (i := 113) rfl)) rfl
theorem fl_X12_47_12 : xFl RX12 47 12 18 (.array .int) true := ⟨RX12, TX12, 41, tyX12, rfl, by decide, xin_12, xw888, tyX12_ok, nmX12, tyX12_ok 18 (by decide), rfl⟩
theorem xw889 : Cond.fieldLink RX12 50 "DreamWindowsModel" "cells" "[I" ∈ xW := xW_of (xtb4 (List.mem_of_getElem? (i := 114) rfl)) rfl
theorem fl_X12_50_12 : xFl RX12 50 12 19 (.array .int) true := ⟨RX12, TX12, 41, tyX12, rfl, by decide, xin_12, xw889, tyX12_ok, nmX12, tyX12_ok 19 (by decide), rfl⟩
theorem xw890 : Cond.fieldLink RX12 53 "DreamWindowsModel" "law" "[I" ∈ xW := xW_of (xtb4 (List.mem_of_getElem? (i := 115) rfl)) rfl
theorem fl_X12_53_12 : xFl RX12 53 12 20 (.array .int) true := ⟨RX12, TX12, 41, tyX12, rfl, by decide, xin_12, xw890, tyX12_ok, nmX12, tyX12_ok 20 (by decide), rfl⟩
theorem xw895 : Cond.fieldLink RX12 56 "DreamWindowsModel" "words" "[I" ∈ xW := xW_of (xtb4 (List.mem_of_getElem? (i := 120) rfl)) rfl
theorem fl_X12_56_12 : xFl RX12 56 12 25 (.array .int) true := ⟨RX12, TX12, 41, tyX12, rfl, by decide, xin_12, xw895, tyX12_ok, nmX12, tyX12_ok 25 (by decide), rfl⟩
theorem xw896 : Cond.fieldLink RX12 59 "DreamWindowsModel" "held" "[I" ∈ xW := xW_of (xtb4 (List.mem_of_getElem? (i := 121) rfl)) rfl
theorem fl_X12_59_12 : xFl RX12 59 12 26 (.array .int) true := ⟨RX12, TX12, 41, tyX12, rfl, by decide, xin_12, xw896, tyX12_ok, nmX12, tyX12_ok 26 (by decide), rfl⟩
theorem xw900 : Cond.fieldLink RX12 62 "DreamWindowsModel" "stack" "[I" ∈ xW := xW_of (xtb4 (List.mem_of_getElem? (i := 125) rfl)) rfl
theorem fl_X12_62_12 : xFl RX12 62 12 30 (.array .int) true := ⟨RX12, TX12, 41, tyX12, rfl, by decide, xin_12, xw900, tyX12_ok, nmX12, tyX12_ok 30 (by decide), rfl⟩
theorem xw901 : Cond.fieldLink RX12 65 "DreamWindowsModel" "named" "[I" ∈ xW := xW_of (xtb4 (List.mem_of_getElem? (i := 126) rfl)) rfl
theorem fl_X12_65_12 : xFl RX12 65 12 31 (.array .int) true := ⟨RX12, TX12, 41, tyX12, rfl, by decide, xin_12, xw901, tyX12_ok, nmX12, tyX12_ok 31 (by decide), rfl⟩
theorem xw902 : Cond.fieldLink RX12 68 "DreamWindowsModel" "row" "[I" ∈ xW := xW_of (xtb4 (List.mem_of_getElem? (i := 127) rfl)) rfl
theorem fl_X12_68_12 : xFl RX12 68 12 32 (.array .int) true := ⟨RX12, TX12, 41, tyX12, rfl, by decide, xin_12, xw902, tyX12_ok, nmX12, tyX12_ok 32 (by decide), rfl⟩
theorem xw907 : Cond.fieldLink RX12 71 "DreamWindowsModel" "cost" "[I" ∈ xW := xW_of (xtb4 (List.mem_of_getElem? (i := 132) rfl)) rfl
theorem fl_X12_71_12 : xFl RX12 71 12 37 (.array .int) true := ⟨RX12, TX12, 41, tyX12, rfl, by decide, xin_12, xw907, tyX12_ok, nmX12, tyX12_ok 37 (by decide), rfl⟩
theorem xw908 : Cond.fieldLink RX12 74 "DreamWindowsModel" "wayTo" "[I" ∈ xW := xW_of (xtb4 (List.mem_of_getElem? (i := 133) rfl)) rfl
theorem fl_X12_74_12 : xFl RX12 74 12 38 (.array .int) true := ⟨RX12, TX12, 41, tyX12, rfl, by decide, xin_12, xw908, tyX12_ok, nmX12, tyX12_ok 38 (by decide), rfl⟩
theorem xw909 : Cond.fieldLink RX12 77 "DreamWindowsModel" "seenBehind" "[I" ∈ xW := xW_of (xtb4 (List.mem_of_getElem? (i := 134) rfl)) rfl
theorem fl_X12_77_12 : xFl RX12 77 12 39 (.array .int) true := ⟨RX12, TX12, 41, tyX12, rfl, by decide, xin_12, xw909, tyX12_ok, nmX12, tyX12_ok 39 (by decide), rfl⟩
theorem xw910 : Cond.fieldLink RX12 80 "DreamWindowsModel" "kept" "[I" ∈ xW := xW_of (xtb4 (List.mem_of_getElem? (i := 135) rfl)) rfl
theorem fl_X12_80_12 : xFl RX12 80 12 40 (.array .int) true := ⟨RX12, TX12, 41, tyX12, rfl, by decide, xin_12, xw910, tyX12_ok, nmX12, tyX12_ok 40 (by decide), rfl⟩
theorem xw878 : Cond.fieldLink RX12 83 "DreamWindowsModel" "taped" "I" ∈ xW := xW_of (xtb4 (List.mem_of_getElem? (i := 103) rfl)) rfl
theorem fl_X12_83_12 : xFl RX12 83 12 8 (.int) false := ⟨RX12, TX12, 41, tyX12, rfl, by decide, xin_12, xw878, tyX12_ok, nmX12, tyX12_ok 8 (by decide), rfl⟩
theorem xw823 : Cond.methodLink RX12 86 yX12_text ∈ xW := xW_of (xtb4 (List.mem_of_getElem? (i := 48) rfl)) rfl
theorem xw824 : Cond.instanceMethod yX12_text ∈ xW := xW_of (xtb4 (List.mem_of_getElem? (i := 49) rfl)) rfl
theorem xw825 : Cond.selects RX12 yX12_text yX12_text ∈ xW := xW_of (xtb4 (List.mem_of_getElem? (i := 50) rfl)) rfl
theorem xw68 : Cond.initialized RX12 ∈ xW := xW_of (xtb1 (List.mem_of_getElem? (i := 13) rfl)) rfl
theorem xw826 : Cond.code yX12_text cX12_text 3 (some .int) ∈ xW := xW_of (xtb4 (List.mem_of_getElem? (i := 51) rfl)) rfl
theorem kv_X12_86 : xKv RX12 86 yX12_text cX12_text 3 (some .int) 0 := ⟨xw823, xw824, xw825, xw68, xw826, ⟨by decide +kernel, by decide +kernel, by decide +kernel⟩⟩
theorem xw870 : Cond.fieldLink RX12 90 "DreamWindowsModel" "sleepers" "I" ∈ xW := xW_of (xtb4 (List.mem_of_getElem? (i := 95) rfl)) rfl
theorem fl_X12_90_12 : xFl RX12 90 12 0 (.int) false := ⟨RX12, TX12, 41, tyX12, rfl, by decide, xin_12, xw870, tyX12_ok, nmX12, tyX12_ok 0 (by decide), rfl⟩
theorem xw831 : Cond.methodLink RX12 93 yX12_in ∈ xW := xW_of (xtb4 (List.mem_of_getElem? (i := 56) rfl)) rfl
theorem xw832 : Cond.static yX12_in ∈ xW := xW_of (xtb4 (List.mem_of_getElem? (i := 57) rfl)) rfl
theorem xw833 : Cond.code yX12_in cX12_in 3 (some .boolean) ∈ xW := xW_of (xtb4 (List.mem_of_getElem? (i := 58) rfl)) rfl
theorem ks_X12_93 : xKs RX12 93 yX12_in cX12_in 3 (some .boolean) 3 := ⟨xw831, xw832, xw68, xw833, ⟨by decide +kernel, by decide +kernel, by decide +kernel⟩⟩
theorem xw875 : Cond.fieldLink RX12 97 "DreamWindowsModel" "night" "I" ∈ xW := xW_of (xtb4 (List.mem_of_getElem? (i := 100) rfl)) rfl
theorem fl_X12_97_12 : xFl RX12 97 12 5 (.int) false := ⟨RX12, TX12, 41, tyX12, rfl, by decide, xin_12, xw875, tyX12_ok, nmX12, tyX12_ok 5 (by decide), rfl⟩
theorem xw881 : Cond.fieldLink RX12 100 "DreamWindowsModel" "texts" "I" ∈ xW := xW_of (xtb4 (List.mem_of_getElem? (i := 106) rfl)) rfl
theorem fl_X12_100_12 : xFl RX12 100 12 11 (.int) false := ⟨RX12, TX12, 41, tyX12, rfl, by decide, xin_12, xw881, tyX12_ok, nmX12, tyX12_ok 11 (by decide), rfl⟩
theorem xw882 : Cond.fieldLink RX12 103 "DreamWindowsModel" "rule" "I" ∈ xW := xW_of (xtb4 (List.mem_of_getElem? (i := 107) rfl)) rfl
theorem fl_X12_103_12 : xFl RX12 103 12 12 (.int) false := ⟨RX12, TX12, 41, tyX12, rfl, by decide, xin_12, xw882, tyX12_ok, nmX12, tyX12_ok 12 (by decide), rfl⟩
theorem xw1006 : Cond.methodLink RX12 106 yX12_isByte ∈ xW := xW_of (xtb4 (List.mem_of_getElem? (i := 231) rfl)) rfl
theorem xw1007 : Cond.static yX12_isByte ∈ xW := xW_of (xtb4 (List.mem_of_getElem? (i := 232) rfl)) rfl
theorem xw1008 : Cond.code yX12_isByte cX12_isByte 1 (some .boolean) ∈ xW := xW_of (xtb4 (List.mem_of_getElem? (i := 233) rfl)) rfl
theorem ks_X12_106 : xKs RX12 106 yX12_isByte cX12_isByte 1 (some .boolean) 1 := ⟨xw1006, xw1007, xw68, xw1008, ⟨by decide +kernel, by decide +kernel, by decide +kernel⟩⟩
theorem xw891 : Cond.fieldLink RX12 110 "DreamWindowsModel" "at" "I" ∈ xW := xW_of (xtb4 (List.mem_of_getElem? (i := 116) rfl)) rfl
theorem fl_X12_110_12 : xFl RX12 110 12 21 (.int) false := ⟨RX12, TX12, 41, tyX12, rfl, by decide, xin_12, xw891, tyX12_ok, nmX12, tyX12_ok 21 (by decide), rfl⟩
theorem xw892 : Cond.fieldLink RX12 113 "DreamWindowsModel" "begun" "I" ∈ xW := xW_of (xtb4 (List.mem_of_getElem? (i := 117) rfl)) rfl
theorem fl_X12_113_12 : xFl RX12 113 12 22 (.int) false := ⟨RX12, TX12, 41, tyX12, rfl, by decide, xin_12, xw892, tyX12_ok, nmX12, tyX12_ok 22 (by decide), rfl⟩
theorem xw893 : Cond.fieldLink RX12 116 "DreamWindowsModel" "token" "I" ∈ xW := xW_of (xtb4 (List.mem_of_getElem? (i := 118) rfl)) rfl
theorem fl_X12_116_12 : xFl RX12 116 12 23 (.int) false := ⟨RX12, TX12, 41, tyX12, rfl, by decide, xin_12, xw893, tyX12_ok, nmX12, tyX12_ok 23 (by decide), rfl⟩
theorem xw894 : Cond.fieldLink RX12 119 "DreamWindowsModel" "value" "I" ∈ xW := xW_of (xtb4 (List.mem_of_getElem? (i := 119) rfl)) rfl
theorem fl_X12_119_12 : xFl RX12 119 12 24 (.int) false := ⟨RX12, TX12, 41, tyX12, rfl, by decide, xin_12, xw894, tyX12_ok, nmX12, tyX12_ok 24 (by decide), rfl⟩
theorem xw834 : Cond.methodLink RX12 122 yX12_wordFrom ∈ xW := xW_of (xtb4 (List.mem_of_getElem? (i := 59) rfl)) rfl
theorem xw836 : Cond.instanceMethod yX12_wordFrom ∈ xW := xW_of (xtb4 (List.mem_of_getElem? (i := 61) rfl)) rfl
theorem xw24 : Cond.selects RX12 yX12_wordFrom yX12_wordFrom ∈ xW := xW_of (List.mem_of_getElem? (i := 24) (by decide +kernel)) rfl
theorem xw837 : Cond.code yX12_wordFrom cX12_wordFrom 6 (some .int) ∈ xW := xW_of (xtb4 (List.mem_of_getElem? (i := 62) rfl)) rfl
theorem kv_X12_122 : xKv RX12 122 yX12_wordFrom cX12_wordFrom 6 (some .int) 2 := ⟨xw834, xw836, xw24, xw68, xw837, ⟨by decide +kernel, by decide +kernel, by decide +kernel⟩⟩
theorem xw899 : Cond.fieldLink RX12 126 "DreamWindowsModel" "out" "I" ∈ xW := xW_of (xtb4 (List.mem_of_getElem? (i := 124) rfl)) rfl
theorem fl_X12_126_12 : xFl RX12 126 12 29 (.int) false := ⟨RX12, TX12, 41, tyX12, rfl, by decide, xin_12, xw899, tyX12_ok, nmX12, tyX12_ok 29 (by decide), rfl⟩
theorem xw897 : Cond.fieldLink RX12 129 "DreamWindowsModel" "heldMany" "I" ∈ xW := xW_of (xtb4 (List.mem_of_getElem? (i := 122) rfl)) rfl
theorem fl_X12_129_12 : xFl RX12 129 12 27 (.int) false := ⟨RX12, TX12, 41, tyX12, rfl, by decide, xin_12, xw897, tyX12_ok, nmX12, tyX12_ok 27 (by decide), rfl⟩
theorem xw851 : Cond.methodLink RX12 132 yX12_rank ∈ xW := xW_of (xtb4 (List.mem_of_getElem? (i := 76) rfl)) rfl
theorem xw852 : Cond.static yX12_rank ∈ xW := xW_of (xtb4 (List.mem_of_getElem? (i := 77) rfl)) rfl
theorem xw853 : Cond.code yX12_rank cX12_rank 1 (some .int) ∈ xW := xW_of (xtb4 (List.mem_of_getElem? (i := 78) rfl)) rfl
theorem ks_X12_132 : xKs RX12 132 yX12_rank cX12_rank 1 (some .int) 1 := ⟨xw851, xw852, xw68, xw853, ⟨by decide +kernel, by decide +kernel, by decide +kernel⟩⟩
theorem xw898 : Cond.fieldLink RX12 136 "DreamWindowsModel" "opens" "I" ∈ xW := xW_of (xtb4 (List.mem_of_getElem? (i := 123) rfl)) rfl
theorem fl_X12_136_12 : xFl RX12 136 12 28 (.int) false := ⟨RX12, TX12, 41, tyX12, rfl, by decide, xin_12, xw898, tyX12_ok, nmX12, tyX12_ok 28 (by decide), rfl⟩
theorem xw843 : Cond.methodLink RX12 139 yX12_puts ∈ xW := xW_of (xtb4 (List.mem_of_getElem? (i := 68) rfl)) rfl
theorem xw845 : Cond.instanceMethod yX12_puts ∈ xW := xW_of (xtb4 (List.mem_of_getElem? (i := 70) rfl)) rfl
theorem xw26 : Cond.selects RX12 yX12_puts yX12_puts ∈ xW := xW_of (List.mem_of_getElem? (i := 26) (by decide +kernel)) rfl
theorem xw846 : Cond.code yX12_puts cX12_puts 2 none ∈ xW := xW_of (xtb4 (List.mem_of_getElem? (i := 71) rfl)) rfl
theorem kv_X12_139 : xKv RX12 139 yX12_puts cX12_puts 2 none 1 := ⟨xw843, xw845, xw26, xw68, xw846, ⟨by decide +kernel, by decide +kernel, by decide +kernel⟩⟩
theorem xw858 : Cond.methodLink RX12 143 yX12_holds ∈ xW := xW_of (xtb4 (List.mem_of_getElem? (i := 83) rfl)) rfl
theorem xw860 : Cond.instanceMethod yX12_holds ∈ xW := xW_of (xtb4 (List.mem_of_getElem? (i := 85) rfl)) rfl
theorem xw29 : Cond.selects RX12 yX12_holds yX12_holds ∈ xW := xW_of (List.mem_of_getElem? (i := 29) (by decide +kernel)) rfl
theorem xw861 : Cond.code yX12_holds cX12_holds 2 none ∈ xW := xW_of (xtb4 (List.mem_of_getElem? (i := 86) rfl)) rfl
theorem kv_X12_143 : xKv RX12 143 yX12_holds cX12_holds 2 none 1 := ⟨xw858, xw860, xw29, xw68, xw861, ⟨by decide +kernel, by decide +kernel, by decide +kernel⟩⟩
theorem xw847 : Cond.methodLink RX12 146 yX12_unwinds ∈ xW := xW_of (xtb4 (List.mem_of_getElem? (i := 72) rfl)) rfl
theorem xw849 : Cond.instanceMethod yX12_unwinds ∈ xW := xW_of (xtb4 (List.mem_of_getElem? (i := 74) rfl)) rfl
theorem xw27 : Cond.selects RX12 yX12_unwinds yX12_unwinds ∈ xW := xW_of (List.mem_of_getElem? (i := 27) (by decide +kernel)) rfl
theorem xw850 : Cond.code yX12_unwinds cX12_unwinds 3 none ∈ xW := xW_of (xtb4 (List.mem_of_getElem? (i := 75) rfl)) rfl
theorem kv_X12_146 : xKv RX12 146 yX12_unwinds cX12_unwinds 3 none 1 := ⟨xw847, xw849, xw27, xw68, xw850, ⟨by decide +kernel, by decide +kernel, by decide +kernel⟩⟩
theorem xw827 : Cond.methodLink RX12 149 yX12_next ∈ xW := xW_of (xtb4 (List.mem_of_getElem? (i := 52) rfl)) rfl
theorem xw829 : Cond.instanceMethod yX12_next ∈ xW := xW_of (xtb4 (List.mem_of_getElem? (i := 54) rfl)) rfl
theorem xw23 : Cond.selects RX12 yX12_next yX12_next ∈ xW := xW_of (List.mem_of_getElem? (i := 23) (by decide +kernel)) rfl
theorem xw830 : Cond.code yX12_next cX12_next 3 none ∈ xW := xW_of (xtb4 (List.mem_of_getElem? (i := 55) rfl)) rfl
theorem kv_X12_149 : xKv RX12 149 yX12_next cX12_next 3 none 0 := ⟨xw827, xw829, xw23, xw68, xw830, ⟨by decide +kernel, by decide +kernel, by decide +kernel⟩⟩
theorem xw842 : Cond.constant RX12 152 (100000) ∈ xW := xW_of (xtb4 (List.mem_of_getElem? (i := 67) rfl)) rfl
theorem cn_X12_152 : Cond.constant RX12 152 (100000) ∈ xW := xw842
theorem xw854 : Cond.methodLink RX12 153 yX12_opensOne ∈ xW := xW_of (xtb4 (List.mem_of_getElem? (i := 79) rfl)) rfl
theorem xw856 : Cond.instanceMethod yX12_opensOne ∈ xW := xW_of (xtb4 (List.mem_of_getElem? (i := 81) rfl)) rfl
theorem xw28 : Cond.selects RX12 yX12_opensOne yX12_opensOne ∈ xW := xW_of (List.mem_of_getElem? (i := 28) (by decide +kernel)) rfl
theorem xw857 : Cond.code yX12_opensOne cX12_opensOne 2 (some .boolean) ∈ xW := xW_of (xtb4 (List.mem_of_getElem? (i := 82) rfl)) rfl
theorem kv_X12_153 : xKv RX12 153 yX12_opensOne cX12_opensOne 2 (some .boolean) 1 := ⟨xw854, xw856, xw28, xw68, xw857, ⟨by decide +kernel, by decide +kernel, by decide +kernel⟩⟩
theorem xw862 : Cond.methodLink RX12 156 yX12_signOf ∈ xW := xW_of (xtb4 (List.mem_of_getElem? (i := 87) rfl)) rfl
theorem xw864 : Cond.instanceMethod yX12_signOf ∈ xW := xW_of (xtb4 (List.mem_of_getElem? (i := 89) rfl)) rfl
theorem xw30 : Cond.selects RX12 yX12_signOf yX12_signOf ∈ xW := xW_of (List.mem_of_getElem? (i := 30) (by decide +kernel)) rfl
theorem xw865 : Cond.code yX12_signOf cX12_signOf 1 (some .int) ∈ xW := xW_of (xtb4 (List.mem_of_getElem? (i := 90) rfl)) rfl
theorem kv_X12_156 : xKv RX12 156 yX12_signOf cX12_signOf 1 (some .int) 0 := ⟨xw862, xw864, xw30, xw68, xw865, ⟨by decide +kernel, by decide +kernel, by decide +kernel⟩⟩
theorem xw866 : Cond.methodLink RX12 159 yX12_between ∈ xW := xW_of (xtb4 (List.mem_of_getElem? (i := 91) rfl)) rfl
theorem xw868 : Cond.instanceMethod yX12_between ∈ xW := xW_of (xtb4 (List.mem_of_getElem? (i := 93) rfl)) rfl
theorem xw31 : Cond.selects RX12 yX12_between yX12_between ∈ xW := xW_of (List.mem_of_getElem? (i := 31) (by decide +kernel)) rfl
theorem xw869 : Cond.code yX12_between cX12_between 2 (some .boolean) ∈ xW := xW_of (xtb4 (List.mem_of_getElem? (i := 94) rfl)) rfl
theorem kv_X12_159 : xKv RX12 159 yX12_between cX12_between 2 (some .boolean) 1 := ⟨xw866, xw868, xw31, xw68, xw869, ⟨by decide +kernel, by decide +kernel, by decide +kernel⟩⟩
theorem xw838 : Cond.methodLink RX12 162 yX12_eRead ∈ xW := xW_of (xtb4 (List.mem_of_getElem? (i := 63) rfl)) rfl
theorem xw840 : Cond.instanceMethod yX12_eRead ∈ xW := xW_of (xtb4 (List.mem_of_getElem? (i := 65) rfl)) rfl
theorem xw25 : Cond.selects RX12 yX12_eRead yX12_eRead ∈ xW := xW_of (List.mem_of_getElem? (i := 25) (by decide +kernel)) rfl
theorem xw841 : Cond.code yX12_eRead cX12_eRead 4 (some .boolean) ∈ xW := xW_of (xtb4 (List.mem_of_getElem? (i := 66) rfl)) rfl
theorem kv_X12_162 : xKv RX12 162 yX12_eRead cX12_eRead 4 (some .boolean) 0 := ⟨xw838, xw840, xw25, xw68, xw841, ⟨by decide +kernel, by decide +kernel, by decide +kernel⟩⟩
theorem xw1033 : Cond.methodLink RX12 166 yX12_two ∈ xW := xW_of (xtb5 (List.mem_of_getElem? (i := 18) rfl)) rfl
theorem xw1034 : Cond.static yX12_two ∈ xW := xW_of (xtb5 (List.mem_of_getElem? (i := 19) rfl)) rfl
theorem xw1035 : Cond.code yX12_two cX12_two 3 (some .int) ∈ xW := xW_of (xtb5 (List.mem_of_getElem? (i := 20) rfl)) rfl
theorem ks_X12_166 : xKs RX12 166 yX12_two cX12_two 3 (some .int) 3 := ⟨xw1033, xw1034, xw68, xw1035, ⟨by decide +kernel, by decide +kernel, by decide +kernel⟩⟩
theorem xw1029 : Cond.methodLink RX12 170 yX12_says ∈ xW := xW_of (xtb5 (List.mem_of_getElem? (i := 14) rfl)) rfl
theorem xw1031 : Cond.instanceMethod yX12_says ∈ xW := xW_of (xtb5 (List.mem_of_getElem? (i := 16) rfl)) rfl
theorem xw34 : Cond.selects RX12 yX12_says yX12_says ∈ xW := xW_of (List.mem_of_getElem? (i := 34) (by decide +kernel)) rfl
theorem xw1032 : Cond.code yX12_says cX12_says 5 (some .int) ∈ xW := xW_of (xtb5 (List.mem_of_getElem? (i := 17) rfl)) rfl
theorem kv_X12_170 : xKv RX12 170 yX12_says cX12_says 5 (some .int) 1 := ⟨xw1029, xw1031, xw34, xw68, xw1032, ⟨by decide +kernel, by decide +kernel, by decide +kernel⟩⟩
theorem xw1036 : Cond.methodLink RX12 173 yX12_within ∈ xW := xW_of (xtb5 (List.mem_of_getElem? (i := 21) rfl)) rfl
theorem xw1037 : Cond.static yX12_within ∈ xW := xW_of (xtb5 (List.mem_of_getElem? (i := 22) rfl)) rfl
theorem xw1038 : Cond.code yX12_within cX12_within 3 (some .int) ∈ xW := xW_of (xtb5 (List.mem_of_getElem? (i := 23) rfl)) rfl
theorem ks_X12_173 : xKs RX12 173 yX12_within cX12_within 3 (some .int) 3 := ⟨xw1036, xw1037, xw68, xw1038, ⟨by decide +kernel, by decide +kernel, by decide +kernel⟩⟩
theorem xw1018 : Cond.methodLink RX12 176 yX12_isSleeper ∈ xW := xW_of (xtb5 (List.mem_of_getElem? (i := 3) rfl)) rfl
theorem xw1020 : Cond.instanceMethod yX12_isSleeper ∈ xW := xW_of (xtb5 (List.mem_of_getElem? (i := 5) rfl)) rfl
theorem xw32 : Cond.selects RX12 yX12_isSleeper yX12_isSleeper ∈ xW := xW_of (List.mem_of_getElem? (i := 32) (by decide +kernel)) rfl
theorem xw1021 : Cond.code yX12_isSleeper cX12_isSleeper 2 (some .boolean) ∈ xW := xW_of (xtb5 (List.mem_of_getElem? (i := 6) rfl)) rfl
theorem kv_X12_176 : xKv RX12 176 yX12_isSleeper cX12_isSleeper 2 (some .boolean) 1 := ⟨xw1018, xw1020, xw32, xw68, xw1021, ⟨by decide +kernel, by decide +kernel, by decide +kernel⟩⟩
theorem xw1022 : Cond.methodLink RX12 179 yX12_isCell ∈ xW := xW_of (xtb5 (List.mem_of_getElem? (i := 7) rfl)) rfl
theorem xw1023 : Cond.static yX12_isCell ∈ xW := xW_of (xtb5 (List.mem_of_getElem? (i := 8) rfl)) rfl
theorem xw1024 : Cond.code yX12_isCell cX12_isCell 1 (some .boolean) ∈ xW := xW_of (xtb5 (List.mem_of_getElem? (i := 9) rfl)) rfl
theorem ks_X12_179 : xKs RX12 179 yX12_isCell cX12_isCell 1 (some .boolean) 1 := ⟨xw1022, xw1023, xw68, xw1024, ⟨by decide +kernel, by decide +kernel, by decide +kernel⟩⟩
theorem xw1025 : Cond.methodLink RX12 182 yX12_asksOf ∈ xW := xW_of (xtb5 (List.mem_of_getElem? (i := 10) rfl)) rfl
theorem xw1027 : Cond.instanceMethod yX12_asksOf ∈ xW := xW_of (xtb5 (List.mem_of_getElem? (i := 12) rfl)) rfl
theorem xw33 : Cond.selects RX12 yX12_asksOf yX12_asksOf ∈ xW := xW_of (List.mem_of_getElem? (i := 33) (by decide +kernel)) rfl
theorem xw1028 : Cond.code yX12_asksOf cX12_asksOf 6 (some .int) ∈ xW := xW_of (xtb5 (List.mem_of_getElem? (i := 13) rfl)) rfl
theorem kv_X12_182 : xKv RX12 182 yX12_asksOf cX12_asksOf 6 (some .int) 5 := ⟨xw1025, xw1027, xw33, xw68, xw1028, ⟨by decide +kernel, by decide +kernel, by decide +kernel⟩⟩
theorem xw1043 : Cond.constant RX12 186 (65535) ∈ xW := xW_of (xtb5 (List.mem_of_getElem? (i := 28) rfl)) rfl
theorem cn_X12_186 : Cond.constant RX12 186 (65535) ∈ xW := xw1043
theorem xw1052 : Cond.methodLink RX12 187 yX12_dullAll ∈ xW := xW_of (xtb5 (List.mem_of_getElem? (i := 37) rfl)) rfl
theorem xw1054 : Cond.instanceMethod yX12_dullAll ∈ xW := xW_of (xtb5 (List.mem_of_getElem? (i := 39) rfl)) rfl
theorem xw35 : Cond.selects RX12 yX12_dullAll yX12_dullAll ∈ xW := xW_of (List.mem_of_getElem? (i := 35) (by decide +kernel)) rfl
theorem xw1055 : Cond.code yX12_dullAll cX12_dullAll 4 (some .int) ∈ xW := xW_of (xtb5 (List.mem_of_getElem? (i := 40) rfl)) rfl
theorem kv_X12_187 : xKv RX12 187 yX12_dullAll cX12_dullAll 4 (some .int) 1 := ⟨xw1052, xw1054, xw35, xw68, xw1055, ⟨by decide +kernel, by decide +kernel, by decide +kernel⟩⟩
theorem xw1068 : Cond.methodLink RX12 190 yX12_isCorner ∈ xW := xW_of (xtb5 (List.mem_of_getElem? (i := 53) rfl)) rfl
theorem xw1069 : Cond.static yX12_isCorner ∈ xW := xW_of (xtb5 (List.mem_of_getElem? (i := 54) rfl)) rfl
theorem xw1070 : Cond.code yX12_isCorner cX12_isCorner 1 (some .boolean) ∈ xW := xW_of (xtb5 (List.mem_of_getElem? (i := 55) rfl)) rfl
theorem ks_X12_190 : xKs RX12 190 yX12_isCorner cX12_isCorner 1 (some .boolean) 1 := ⟨xw1068, xw1069, xw68, xw1070, ⟨by decide +kernel, by decide +kernel, by decide +kernel⟩⟩
theorem xw1086 : Cond.methodLink RX12 193 yX12_isMiddle ∈ xW := xW_of (xtb5 (List.mem_of_getElem? (i := 71) rfl)) rfl
theorem xw1087 : Cond.static yX12_isMiddle ∈ xW := xW_of (xtb5 (List.mem_of_getElem? (i := 72) rfl)) rfl
theorem xw1088 : Cond.code yX12_isMiddle cX12_isMiddle 1 (some .boolean) ∈ xW := xW_of (xtb5 (List.mem_of_getElem? (i := 73) rfl)) rfl
theorem ks_X12_193 : xKs RX12 193 yX12_isMiddle cX12_isMiddle 1 (some .boolean) 1 := ⟨xw1086, xw1087, xw68, xw1088, ⟨by decide +kernel, by decide +kernel, by decide +kernel⟩⟩
theorem xw1064 : Cond.methodLink RX12 196 yX12_isClear ∈ xW := xW_of (xtb5 (List.mem_of_getElem? (i := 49) rfl)) rfl
theorem xw1066 : Cond.instanceMethod yX12_isClear ∈ xW := xW_of (xtb5 (List.mem_of_getElem? (i := 51) rfl)) rfl
theorem xw37 : Cond.selects RX12 yX12_isClear yX12_isClear ∈ xW := xW_of (List.mem_of_getElem? (i := 37) (by decide +kernel)) rfl
theorem xw1067 : Cond.code yX12_isClear cX12_isClear 7 (some .boolean) ∈ xW := xW_of (xtb5 (List.mem_of_getElem? (i := 52) rfl)) rfl
theorem kv_X12_196 : xKv RX12 196 yX12_isClear cX12_isClear 7 (some .boolean) 4 := ⟨xw1064, xw1066, xw37, xw68, xw1067, ⟨by decide +kernel, by decide +kernel, by decide +kernel⟩⟩
theorem xw1060 : Cond.methodLink RX12 200 yX12_clearSet ∈ xW := xW_of (xtb5 (List.mem_of_getElem? (i := 45) rfl)) rfl
theorem xw1062 : Cond.instanceMethod yX12_clearSet ∈ xW := xW_of (xtb5 (List.mem_of_getElem? (i := 47) rfl)) rfl
theorem xw36 : Cond.selects RX12 yX12_clearSet yX12_clearSet ∈ xW := xW_of (List.mem_of_getElem? (i := 36) (by decide +kernel)) rfl
theorem xw1063 : Cond.code yX12_clearSet cX12_clearSet 4 (some .int) ∈ xW := xW_of (xtb5 (List.mem_of_getElem? (i := 48) rfl)) rfl
theorem kv_X12_200 : xKv RX12 200 yX12_clearSet cX12_clearSet 4 (some .int) 1 := ⟨xw1060, xw1062, xw36, xw68, xw1063, ⟨by decide +kernel, by decide +kernel, by decide +kernel⟩⟩
theorem xw1082 : Cond.methodLink RX12 203 yX12_costOf ∈ xW := xW_of (xtb5 (List.mem_of_getElem? (i := 67) rfl)) rfl
theorem xw1084 : Cond.instanceMethod yX12_costOf ∈ xW := xW_of (xtb5 (List.mem_of_getElem? (i := 69) rfl)) rfl
theorem xw40 : Cond.selects RX12 yX12_costOf yX12_costOf ∈ xW := xW_of (List.mem_of_getElem? (i := 40) (by decide +kernel)) rfl
theorem xw1085 : Cond.code yX12_costOf cX12_costOf 5 (some .int) ∈ xW := xW_of (xtb5 (List.mem_of_getElem? (i := 70) rfl)) rfl
theorem kv_X12_203 : xKv RX12 203 yX12_costOf cX12_costOf 5 (some .int) 2 := ⟨xw1082, xw1084, xw40, xw68, xw1085, ⟨by decide +kernel, by decide +kernel, by decide +kernel⟩⟩
theorem xw1071 : Cond.methodLink RX12 206 yX12_seenSet ∈ xW := xW_of (xtb5 (List.mem_of_getElem? (i := 56) rfl)) rfl
theorem xw1073 : Cond.instanceMethod yX12_seenSet ∈ xW := xW_of (xtb5 (List.mem_of_getElem? (i := 58) rfl)) rfl
theorem xw38 : Cond.selects RX12 yX12_seenSet yX12_seenSet ∈ xW := xW_of (List.mem_of_getElem? (i := 38) (by decide +kernel)) rfl
theorem xw1074 : Cond.code yX12_seenSet cX12_seenSet 2 (some .int) ∈ xW := xW_of (xtb5 (List.mem_of_getElem? (i := 59) rfl)) rfl
theorem kv_X12_206 : xKv RX12 206 yX12_seenSet cX12_seenSet 2 (some .int) 1 := ⟨xw1071, xw1073, xw38, xw68, xw1074, ⟨by decide +kernel, by decide +kernel, by decide +kernel⟩⟩
theorem xw1075 : Cond.methodLink RX12 209 yX12_ones ∈ xW := xW_of (xtb5 (List.mem_of_getElem? (i := 60) rfl)) rfl
theorem xw1076 : Cond.static yX12_ones ∈ xW := xW_of (xtb5 (List.mem_of_getElem? (i := 61) rfl)) rfl
theorem xw1077 : Cond.code yX12_ones cX12_ones 3 (some .int) ∈ xW := xW_of (xtb5 (List.mem_of_getElem? (i := 62) rfl)) rfl
theorem ks_X12_209 : xKs RX12 209 yX12_ones cX12_ones 3 (some .int) 1 := ⟨xw1075, xw1076, xw68, xw1077, ⟨by decide +kernel, by decide +kernel, by decide +kernel⟩⟩
theorem xw1078 : Cond.methodLink RX12 212 yX12_costAll ∈ xW := xW_of (xtb5 (List.mem_of_getElem? (i := 63) rfl)) rfl
theorem xw1080 : Cond.instanceMethod yX12_costAll ∈ xW := xW_of (xtb5 (List.mem_of_getElem? (i := 65) rfl)) rfl
theorem xw39 : Cond.selects RX12 yX12_costAll yX12_costAll ∈ xW := xW_of (List.mem_of_getElem? (i := 39) (by decide +kernel)) rfl
theorem xw1081 : Cond.code yX12_costAll cX12_costAll 4 (some .int) ∈ xW := xW_of (xtb5 (List.mem_of_getElem? (i := 66) rfl)) rfl
theorem kv_X12_212 : xKv RX12 212 yX12_costAll cX12_costAll 4 (some .int) 1 := ⟨xw1078, xw1080, xw39, xw68, xw1081, ⟨by decide +kernel, by decide +kernel, by decide +kernel⟩⟩
theorem xw1093 : Cond.methodLink RX12 215 yX12_seenMany ∈ xW := xW_of (xtb5 (List.mem_of_getElem? (i := 78) rfl)) rfl
theorem xw1095 : Cond.instanceMethod yX12_seenMany ∈ xW := xW_of (xtb5 (List.mem_of_getElem? (i := 80) rfl)) rfl
theorem xw41 : Cond.selects RX12 yX12_seenMany yX12_seenMany ∈ xW := xW_of (List.mem_of_getElem? (i := 41) (by decide +kernel)) rfl
theorem xw1096 : Cond.code yX12_seenMany cX12_seenMany 3 (some .int) ∈ xW := xW_of (xtb5 (List.mem_of_getElem? (i := 81) rfl)) rfl
theorem kv_X12_215 : xKv RX12 215 yX12_seenMany cX12_seenMany 3 (some .int) 0 := ⟨xw1093, xw1095, xw41, xw68, xw1096, ⟨by decide +kernel, by decide +kernel, by decide +kernel⟩⟩
theorem xw1101 : Cond.methodLink RX12 218 yX12_dullerOf ∈ xW := xW_of (xtb5 (List.mem_of_getElem? (i := 86) rfl)) rfl
theorem xw1103 : Cond.instanceMethod yX12_dullerOf ∈ xW := xW_of (xtb5 (List.mem_of_getElem? (i := 88) rfl)) rfl
theorem xw42 : Cond.selects RX12 yX12_dullerOf yX12_dullerOf ∈ xW := xW_of (List.mem_of_getElem? (i := 42) (by decide +kernel)) rfl
theorem xw1104 : Cond.code yX12_dullerOf cX12_dullerOf 6 (some .int) ∈ xW := xW_of (xtb5 (List.mem_of_getElem? (i := 89) rfl)) rfl
theorem kv_X12_218 : xKv RX12 218 yX12_dullerOf cX12_dullerOf 6 (some .int) 4 := ⟨xw1101, xw1103, xw42, xw68, xw1104, ⟨by decide +kernel, by decide +kernel, by decide +kernel⟩⟩
theorem xw903 : Cond.fieldLink RX12 222 "DreamWindowsModel" "nightNow" "I" ∈ xW := xW_of (xtb4 (List.mem_of_getElem? (i := 128) rfl)) rfl
theorem fl_X12_222_12 : xFl RX12 222 12 33 (.int) false := ⟨RX12, TX12, 41, tyX12, rfl, by decide, xin_12, xw903, tyX12_ok, nmX12, tyX12_ok 33 (by decide), rfl⟩
theorem xw1113 : Cond.methodLink RX12 225 yX12_rowOf ∈ xW := xW_of (xtb5 (List.mem_of_getElem? (i := 98) rfl)) rfl
theorem xw1115 : Cond.instanceMethod yX12_rowOf ∈ xW := xW_of (xtb5 (List.mem_of_getElem? (i := 100) rfl)) rfl
theorem xw43 : Cond.selects RX12 yX12_rowOf yX12_rowOf ∈ xW := xW_of (List.mem_of_getElem? (i := 43) (by decide +kernel)) rfl
theorem xw1116 : Cond.code yX12_rowOf cX12_rowOf 3 none ∈ xW := xW_of (xtb5 (List.mem_of_getElem? (i := 101) rfl)) rfl
theorem kv_X12_225 : xKv RX12 225 yX12_rowOf cX12_rowOf 3 none 1 := ⟨xw1113, xw1115, xw43, xw68, xw1116, ⟨by decide +kernel, by decide +kernel, by decide +kernel⟩⟩
theorem xw1117 : Cond.methodLink RX12 228 yX12_rowNight ∈ xW := xW_of (xtb5 (List.mem_of_getElem? (i := 102) rfl)) rfl
theorem xw1119 : Cond.instanceMethod yX12_rowNight ∈ xW := xW_of (xtb5 (List.mem_of_getElem? (i := 104) rfl)) rfl
theorem xw44 : Cond.selects RX12 yX12_rowNight yX12_rowNight ∈ xW := xW_of (List.mem_of_getElem? (i := 44) (by decide +kernel)) rfl
theorem xw1120 : Cond.code yX12_rowNight cX12_rowNight 3 none ∈ xW := xW_of (xtb5 (List.mem_of_getElem? (i := 105) rfl)) rfl
theorem kv_X12_228 : xKv RX12 228 yX12_rowNight cX12_rowNight 3 none 1 := ⟨xw1117, xw1119, xw44, xw68, xw1120, ⟨by decide +kernel, by decide +kernel, by decide +kernel⟩⟩
theorem xw1121 : Cond.methodLink RX12 231 yX12_rowClear ∈ xW := xW_of (xtb5 (List.mem_of_getElem? (i := 106) rfl)) rfl
theorem xw1123 : Cond.instanceMethod yX12_rowClear ∈ xW := xW_of (xtb5 (List.mem_of_getElem? (i := 108) rfl)) rfl
theorem xw45 : Cond.selects RX12 yX12_rowClear yX12_rowClear ∈ xW := xW_of (List.mem_of_getElem? (i := 45) (by decide +kernel)) rfl
theorem xw1124 : Cond.code yX12_rowClear cX12_rowClear 4 (some .int) ∈ xW := xW_of (xtb5 (List.mem_of_getElem? (i := 109) rfl)) rfl
theorem kv_X12_231 : xKv RX12 231 yX12_rowClear cX12_rowClear 4 (some .int) 1 := ⟨xw1121, xw1123, xw45, xw68, xw1124, ⟨by decide +kernel, by decide +kernel, by decide +kernel⟩⟩
theorem xw1137 : Cond.methodLink RX12 234 yX12_couldSet ∈ xW := xW_of (xtb5 (List.mem_of_getElem? (i := 122) rfl)) rfl
theorem xw1139 : Cond.instanceMethod yX12_couldSet ∈ xW := xW_of (xtb5 (List.mem_of_getElem? (i := 124) rfl)) rfl
theorem xw47 : Cond.selects RX12 yX12_couldSet yX12_couldSet ∈ xW := xW_of (List.mem_of_getElem? (i := 47) (by decide +kernel)) rfl
theorem xw1140 : Cond.code yX12_couldSet cX12_couldSet 5 (some .int) ∈ xW := xW_of (xtb5 (List.mem_of_getElem? (i := 125) rfl)) rfl
theorem kv_X12_234 : xKv RX12 234 yX12_couldSet cX12_couldSet 5 (some .int) 1 := ⟨xw1137, xw1139, xw47, xw68, xw1140, ⟨by decide +kernel, by decide +kernel, by decide +kernel⟩⟩
theorem xw904 : Cond.fieldLink RX12 237 "DreamWindowsModel" "bestSet" "I" ∈ xW := xW_of (xtb4 (List.mem_of_getElem? (i := 129) rfl)) rfl
theorem fl_X12_237_12 : xFl RX12 237 12 34 (.int) false := ⟨RX12, TX12, 41, tyX12, rfl, by decide, xin_12, xw904, tyX12_ok, nmX12, tyX12_ok 34 (by decide), rfl⟩
theorem xw905 : Cond.fieldLink RX12 240 "DreamWindowsModel" "bestMany" "I" ∈ xW := xW_of (xtb4 (List.mem_of_getElem? (i := 130) rfl)) rfl
theorem fl_X12_240_12 : xFl RX12 240 12 35 (.int) false := ⟨RX12, TX12, 41, tyX12, rfl, by decide, xin_12, xw905, tyX12_ok, nmX12, tyX12_ok 35 (by decide), rfl⟩
theorem xw906 : Cond.fieldLink RX12 243 "DreamWindowsModel" "bestCost" "I" ∈ xW := xW_of (xtb4 (List.mem_of_getElem? (i := 131) rfl)) rfl
theorem fl_X12_243_12 : xFl RX12 243 12 36 (.int) false := ⟨RX12, TX12, 41, tyX12, rfl, by decide, xin_12, xw906, tyX12_ok, nmX12, tyX12_ok 36 (by decide), rfl⟩
theorem xw1133 : Cond.methodLink RX12 246 yX12_finds ∈ xW := xW_of (xtb5 (List.mem_of_getElem? (i := 118) rfl)) rfl
theorem xw1135 : Cond.instanceMethod yX12_finds ∈ xW := xW_of (xtb5 (List.mem_of_getElem? (i := 120) rfl)) rfl
theorem xw46 : Cond.selects RX12 yX12_finds yX12_finds ∈ xW := xW_of (List.mem_of_getElem? (i := 46) (by decide +kernel)) rfl
theorem xw1136 : Cond.code yX12_finds cX12_finds 7 none ∈ xW := xW_of (xtb5 (List.mem_of_getElem? (i := 121) rfl)) rfl
theorem kv_X12_246 : xKv RX12 246 yX12_finds cX12_finds 7 none 1 := ⟨xw1133, xw1135, xw46, xw68, xw1136, ⟨by decide +kernel, by decide +kernel, by decide +kernel⟩⟩
theorem xw1153 : Cond.methodLink RX12 249 yX12_relaxes ∈ xW := xW_of (xtb5 (List.mem_of_getElem? (i := 138) rfl)) rfl
theorem xw1155 : Cond.instanceMethod yX12_relaxes ∈ xW := xW_of (xtb5 (List.mem_of_getElem? (i := 140) rfl)) rfl
theorem xw48 : Cond.selects RX12 yX12_relaxes yX12_relaxes ∈ xW := xW_of (List.mem_of_getElem? (i := 48) (by decide +kernel)) rfl
theorem xw1156 : Cond.code yX12_relaxes cX12_relaxes 4 (some .boolean) ∈ xW := xW_of (xtb5 (List.mem_of_getElem? (i := 141) rfl)) rfl
theorem kv_X12_249 : xKv RX12 249 yX12_relaxes cX12_relaxes 4 (some .boolean) 2 := ⟨xw1153, xw1155, xw48, xw68, xw1156, ⟨by decide +kernel, by decide +kernel, by decide +kernel⟩⟩
theorem xw1161 : Cond.methodLink RX12 253 yX12_isOftenEnough ∈ xW := xW_of (xtb5 (List.mem_of_getElem? (i := 146) rfl)) rfl
theorem xw1163 : Cond.instanceMethod yX12_isOftenEnough ∈ xW := xW_of (xtb5 (List.mem_of_getElem? (i := 148) rfl)) rfl
theorem xw49 : Cond.selects RX12 yX12_isOftenEnough yX12_isOftenEnough ∈ xW := xW_of (List.mem_of_getElem? (i := 49) (by decide +kernel)) rfl
theorem xw1164 : Cond.code yX12_isOftenEnough cX12_isOftenEnough 5 (some .boolean) ∈ xW := xW_of (xtb5 (List.mem_of_getElem? (i := 149) rfl)) rfl
theorem kv_X12_253 : xKv RX12 253 yX12_isOftenEnough cX12_isOftenEnough 5 (some .boolean) 2 := ⟨xw1161, xw1163, xw49, xw68, xw1164, ⟨by decide +kernel, by decide +kernel, by decide +kernel⟩⟩
theorem xw1169 : Cond.methodLink RX12 256 yX12_isLike ∈ xW := xW_of (xtb5 (List.mem_of_getElem? (i := 154) rfl)) rfl
theorem xw1171 : Cond.instanceMethod yX12_isLike ∈ xW := xW_of (xtb5 (List.mem_of_getElem? (i := 156) rfl)) rfl
theorem xw50 : Cond.selects RX12 yX12_isLike yX12_isLike ∈ xW := xW_of (List.mem_of_getElem? (i := 50) (by decide +kernel)) rfl
theorem xw1172 : Cond.code yX12_isLike cX12_isLike 12 (some .boolean) ∈ xW := xW_of (xtb5 (List.mem_of_getElem? (i := 157) rfl)) rfl
theorem kv_X12_256 : xKv RX12 256 yX12_isLike cX12_isLike 12 (some .boolean) 6 := ⟨xw1169, xw1171, xw50, xw68, xw1172, ⟨by decide +kernel, by decide +kernel, by decide +kernel⟩⟩
theorem xw1177 : Cond.methodLink RX12 260 yX12_toldWrong ∈ xW := xW_of (xtb5 (List.mem_of_getElem? (i := 162) rfl)) rfl
theorem xw1179 : Cond.instanceMethod yX12_toldWrong ∈ xW := xW_of (xtb5 (List.mem_of_getElem? (i := 164) rfl)) rfl
theorem xw51 : Cond.selects RX12 yX12_toldWrong yX12_toldWrong ∈ xW := xW_of (List.mem_of_getElem? (i := 51) (by decide +kernel)) rfl
theorem xw1180 : Cond.code yX12_toldWrong cX12_toldWrong 3 (some .int) ∈ xW := xW_of (xtb5 (List.mem_of_getElem? (i := 165) rfl)) rfl
theorem kv_X12_260 : xKv RX12 260 yX12_toldWrong cX12_toldWrong 3 (some .int) 2 := ⟨xw1177, xw1179, xw51, xw68, xw1180, ⟨by decide +kernel, by decide +kernel, by decide +kernel⟩⟩
theorem xw1181 : Cond.methodLink RX12 263 yX12_unlike ∈ xW := xW_of (xtb5 (List.mem_of_getElem? (i := 166) rfl)) rfl
theorem xw1183 : Cond.instanceMethod yX12_unlike ∈ xW := xW_of (xtb5 (List.mem_of_getElem? (i := 168) rfl)) rfl
theorem xw52 : Cond.selects RX12 yX12_unlike yX12_unlike ∈ xW := xW_of (List.mem_of_getElem? (i := 52) (by decide +kernel)) rfl
theorem xw1184 : Cond.code yX12_unlike cX12_unlike 4 (some .int) ∈ xW := xW_of (xtb5 (List.mem_of_getElem? (i := 169) rfl)) rfl
theorem kv_X12_263 : xKv RX12 263 yX12_unlike cX12_unlike 4 (some .int) 2 := ⟨xw1181, xw1183, xw52, xw68, xw1184, ⟨by decide +kernel, by decide +kernel, by decide +kernel⟩⟩
theorem xw1193 : Cond.methodLink RX12 266 yX12_isSoDull ∈ xW := xW_of (xtb5 (List.mem_of_getElem? (i := 178) rfl)) rfl
theorem xw1195 : Cond.instanceMethod yX12_isSoDull ∈ xW := xW_of (xtb5 (List.mem_of_getElem? (i := 180) rfl)) rfl
theorem xw53 : Cond.selects RX12 yX12_isSoDull yX12_isSoDull ∈ xW := xW_of (List.mem_of_getElem? (i := 53) (by decide +kernel)) rfl
theorem xw1196 : Cond.code yX12_isSoDull cX12_isSoDull 8 (some .boolean) ∈ xW := xW_of (xtb5 (List.mem_of_getElem? (i := 181) rfl)) rfl
theorem kv_X12_266 : xKv RX12 266 yX12_isSoDull cX12_isSoDull 8 (some .boolean) 4 := ⟨xw1193, xw1195, xw53, xw68, xw1196, ⟨by decide +kernel, by decide +kernel, by decide +kernel⟩⟩
theorem xw1218 : Cond.constantLong RX12 269 (48271) ∈ xW := xW_of (xtb5 (List.mem_of_getElem? (i := 203) rfl)) rfl
theorem cn_X12_269 : Cond.constantLong RX12 269 (48271) ∈ xW := xw1218
theorem xw1219 : Cond.constantLong RX12 271 (2147483647) ∈ xW := xW_of (xtb5 (List.mem_of_getElem? (i := 204) rfl)) rfl
theorem cn_X12_271 : Cond.constantLong RX12 271 (2147483647) ∈ xW := xw1219
theorem xw1220 : Cond.constantLong RX12 273 (16) ∈ xW := xW_of (xtb5 (List.mem_of_getElem? (i := 205) rfl)) rfl
theorem cn_X12_273 : Cond.constantLong RX12 273 (16) ∈ xW := xw1220
theorem xw1213 : Cond.constant RX12 275 (99999) ∈ xW := xW_of (xtb5 (List.mem_of_getElem? (i := 198) rfl)) rfl
theorem cn_X12_275 : Cond.constant RX12 275 (99999) ∈ xW := xw1213
theorem xw1214 : Cond.methodLink RX12 276 yX12_seenBy ∈ xW := xW_of (xtb5 (List.mem_of_getElem? (i := 199) rfl)) rfl
theorem xw1216 : Cond.instanceMethod yX12_seenBy ∈ xW := xW_of (xtb5 (List.mem_of_getElem? (i := 201) rfl)) rfl
theorem xw54 : Cond.selects RX12 yX12_seenBy yX12_seenBy ∈ xW := xW_of (List.mem_of_getElem? (i := 54) (by decide +kernel)) rfl
theorem xw1217 : Cond.code yX12_seenBy cX12_seenBy 7 (some .int) ∈ xW := xW_of (xtb5 (List.mem_of_getElem? (i := 202) rfl)) rfl
theorem kv_X12_276 : xKv RX12 276 yX12_seenBy cX12_seenBy 7 (some .int) 2 := ⟨xw1214, xw1216, xw54, xw68, xw1217, ⟨by decide +kernel, by decide +kernel, by decide +kernel⟩⟩
theorem xw1225 : Cond.constantLong RX12 279 (-4611686018427387904) ∈ xW := xW_of (xtb5 (List.mem_of_getElem? (i := 210) rfl)) rfl
theorem cn_X12_279 : Cond.constantLong RX12 279 (-4611686018427387904) ∈ xW := xw1225
theorem xw1226 : Cond.methodLink RX12 281 yX12_lowest ∈ xW := xW_of (xtb5 (List.mem_of_getElem? (i := 211) rfl)) rfl
theorem xw1227 : Cond.static yX12_lowest ∈ xW := xW_of (xtb5 (List.mem_of_getElem? (i := 212) rfl)) rfl
theorem xw1228 : Cond.code yX12_lowest cX12_lowest 11 (some .long) ∈ xW := xW_of (xtb5 (List.mem_of_getElem? (i := 213) rfl)) rfl
theorem ks_X12_281 : xKs RX12 281 yX12_lowest cX12_lowest 11 (some .long) 3 := ⟨xw1226, xw1227, xw68, xw1228, ⟨by decide +kernel, by decide +kernel, by decide +kernel⟩⟩
theorem xw883 : Cond.fieldLink RX12 285 "DreamWindowsModel" "hasImage" "Z" ∈ xW := xW_of (xtb4 (List.mem_of_getElem? (i := 108) rfl)) rfl
theorem fl_X12_285_12 : xFl RX12 285 12 13 (.boolean) false := ⟨RX12, TX12, 41, tyX12, rfl, by decide, xin_12, xw883, tyX12_ok, nmX12, tyX12_ok 13 (by decide), rfl⟩
theorem xw1253 : Cond.methodLink RX12 289 yX12_sleeper ∈ xW := xW_of (xtb5 (List.mem_of_getElem? (i := 238) rfl)) rfl
theorem xw1040 : Cond.instanceMethod yX12_sleeper ∈ xW := xW_of (xtb5 (List.mem_of_getElem? (i := 25) rfl)) rfl
theorem xw1041 : Cond.selects RX12 yX12_sleeper yX12_sleeper ∈ xW := xW_of (xtb5 (List.mem_of_getElem? (i := 26) rfl)) rfl
theorem xw1042 : Cond.code yX12_sleeper cX12_sleeper 5 (some .int) ∈ xW := xW_of (xtb5 (List.mem_of_getElem? (i := 27) rfl)) rfl
theorem kv_X12_289 : xKv RX12 289 yX12_sleeper cX12_sleeper 5 (some .int) 3 := ⟨xw1253, xw1040, xw1041, xw68, xw1042, ⟨by decide +kernel, by decide +kernel, by decide +kernel⟩⟩
theorem xw1258 : Cond.methodLink RX12 292 yX12_isUnder ∈ xW := xW_of (xtb6 (List.mem_of_getElem? (i := 3) rfl)) rfl
theorem xw1259 : Cond.static yX12_isUnder ∈ xW := xW_of (xtb6 (List.mem_of_getElem? (i := 4) rfl)) rfl
theorem xw1260 : Cond.code yX12_isUnder cX12_isUnder 2 (some .boolean) ∈ xW := xW_of (xtb6 (List.mem_of_getElem? (i := 5) rfl)) rfl
theorem ks_X12_292 : xKs RX12 292 yX12_isUnder cX12_isUnder 2 (some .boolean) 2 := ⟨xw1258, xw1259, xw68, xw1260, ⟨by decide +kernel, by decide +kernel, by decide +kernel⟩⟩
theorem xw560 : Cond.constant RJ6 265 (1431655765) ∈ xW := xW_of (xtb3 (List.mem_of_getElem? (i := 25) rfl)) rfl
theorem cn_J6_265 : Cond.constant RJ6 265 (1431655765) ∈ xW := xw560
theorem xw561 : Cond.constant RJ6 266 (858993459) ∈ xW := xW_of (xtb3 (List.mem_of_getElem? (i := 26) rfl)) rfl
theorem cn_J6_266 : Cond.constant RJ6 266 (858993459) ∈ xW := xw561
theorem xw562 : Cond.constant RJ6 267 (252645135) ∈ xW := xW_of (xtb3 (List.mem_of_getElem? (i := 27) rfl)) rfl
theorem cn_J6_267 : Cond.constant RJ6 267 (252645135) ∈ xW := xw562
theorem xw354 : Cond.methodLink RJ0 335 yJ0_coder_7d493 ∈ xW := xW_of (xtb2 (List.mem_of_getElem? (i := 59) rfl)) rfl
theorem xw355 : Cond.instanceMethod yJ0_coder_7d493 ∈ xW := xW_of (xtb2 (List.mem_of_getElem? (i := 60) rfl)) rfl
theorem xw356 : Cond.selects RJ0 yJ0_coder_7d493 yJ0_coder_7d493 ∈ xW := xW_of (xtb2 (List.mem_of_getElem? (i := 61) rfl)) rfl
theorem xw357 : Cond.code yJ0_coder_7d493 cJ0_coder_7d493 1 (some .byte) ∈ xW := xW_of (xtb2 (List.mem_of_getElem? (i := 62) rfl)) rfl
theorem kv_J0_335 : xKv RJ0 335 yJ0_coder_7d493 cJ0_coder_7d493 1 (some .byte) 0 := ⟨xw354, xw355, xw356, xw69, xw357, ⟨by decide +kernel, by decide +kernel, by decide +kernel⟩⟩
theorem xw364 : Cond.methodLink RJ0 492 yJ0_isLatin1_aae02 ∈ xW := xW_of (xtb2 (List.mem_of_getElem? (i := 69) rfl)) rfl
theorem xw365 : Cond.instanceMethod yJ0_isLatin1_aae02 ∈ xW := xW_of (xtb2 (List.mem_of_getElem? (i := 70) rfl)) rfl
theorem xw366 : Cond.selects RJ0 yJ0_isLatin1_aae02 yJ0_isLatin1_aae02 ∈ xW := xW_of (xtb2 (List.mem_of_getElem? (i := 71) rfl)) rfl
theorem xw367 : Cond.code yJ0_isLatin1_aae02 cJ0_isLatin1_aae02 1 (some .boolean) ∈ xW := xW_of (xtb2 (List.mem_of_getElem? (i := 72) rfl)) rfl
theorem kv_J0_492 : xKv RJ0 492 yJ0_isLatin1_aae02 cJ0_isLatin1_aae02 1 (some .boolean) 0 := ⟨xw364, xw365, xw366, xw69, xw367, ⟨by decide +kernel, by decide +kernel, by decide +kernel⟩⟩
theorem xw368 : Cond.methodLink RJ0 495 yJ1_charAt_3b067 ∈ xW := xW_of (xtb2 (List.mem_of_getElem? (i := 73) rfl)) rfl
theorem xw369 : Cond.static yJ1_charAt_3b067 ∈ xW := xW_of (xtb2 (List.mem_of_getElem? (i := 74) rfl)) rfl
theorem xw70 : Cond.initialized RJ1 ∈ xW := xW_of (xtb1 (List.mem_of_getElem? (i := 15) rfl)) rfl
theorem xw370 : Cond.code yJ1_charAt_3b067 cJ1_charAt_3b067 2 (some .char) ∈ xW := xW_of (xtb2 (List.mem_of_getElem? (i := 75) rfl)) rfl
theorem ks_J0_495 : xKs RJ0 495 yJ1_charAt_3b067 cJ1_charAt_3b067 2 (some .char) 2 := ⟨xw368, xw369, xw70, xw370, ⟨by decide +kernel, by decide +kernel, by decide +kernel⟩⟩
theorem xw379 : Cond.methodLink RJ0 498 yJ2_charAt_3b067 ∈ xW := xW_of (xtb2 (List.mem_of_getElem? (i := 84) rfl)) rfl
theorem xw380 : Cond.static yJ2_charAt_3b067 ∈ xW := xW_of (xtb2 (List.mem_of_getElem? (i := 85) rfl)) rfl
theorem xw72 : Cond.initialized RJ2 ∈ xW := xW_of (xtb1 (List.mem_of_getElem? (i := 17) rfl)) rfl
theorem xw381 : Cond.code yJ2_charAt_3b067 cJ2_charAt_3b067 2 (some .char) ∈ xW := xW_of (xtb2 (List.mem_of_getElem? (i := 86) rfl)) rfl
theorem ks_J0_498 : xKs RJ0 498 yJ2_charAt_3b067 cJ2_charAt_3b067 2 (some .char) 2 := ⟨xw379, xw380, xw72, xw381, ⟨by decide +kernel, by decide +kernel, by decide +kernel⟩⟩
theorem xw376 : Cond.methodLink RJ0 1059 yJ3_checkIndex_8e157 ∈ xW := xW_of (xtb2 (List.mem_of_getElem? (i := 81) rfl)) rfl
theorem xw377 : Cond.static yJ3_checkIndex_8e157 ∈ xW := xW_of (xtb2 (List.mem_of_getElem? (i := 82) rfl)) rfl
theorem xw71 : Cond.initialized RJ3 ∈ xW := xW_of (xtb1 (List.mem_of_getElem? (i := 16) rfl)) rfl
theorem xw378 : Cond.code yJ3_checkIndex_8e157 cJ3_checkIndex_8e157 3 (some .int) ∈ xW := xW_of (xtb2 (List.mem_of_getElem? (i := 83) rfl)) rfl
theorem ks_J0_1059 : xKs RJ0 1059 yJ3_checkIndex_8e157 cJ3_checkIndex_8e157 3 (some .int) 3 := ⟨xw376, xw377, xw71, xw378, ⟨by decide +kernel, by decide +kernel, by decide +kernel⟩⟩
theorem xw371 : Cond.methodLink RJ1 9 yJ0_checkIndex_df160 ∈ xW := xW_of (xtb2 (List.mem_of_getElem? (i := 76) rfl)) rfl
theorem xw372 : Cond.static yJ0_checkIndex_df160 ∈ xW := xW_of (xtb2 (List.mem_of_getElem? (i := 77) rfl)) rfl
theorem xw373 : Cond.code yJ0_checkIndex_df160 cJ0_checkIndex_df160 2 none ∈ xW := xW_of (xtb2 (List.mem_of_getElem? (i := 78) rfl)) rfl
theorem ks_J1_9 : xKs RJ1 9 yJ0_checkIndex_df160 cJ0_checkIndex_df160 2 none 2 := ⟨xw371, xw372, xw69, xw373, ⟨by decide +kernel, by decide +kernel, by decide +kernel⟩⟩
theorem xw452 : Cond.methodLink RJ7 316 ⟨"[I", "clone", "()Ljava/lang/Object;"⟩ ∈ xW := xW_of (xtb2 (List.mem_of_getElem? (i := 157) rfl)) rfl
theorem xw459 : Cond.methodLink RJ7 304 Lib.Math.min.name ∈ xW := xW_of (xtb2 (List.mem_of_getElem? (i := 164) rfl)) rfl
theorem xw462 : Cond.methodLink RJ7 150 arraycopyName ∈ xW := xW_of (xtb2 (List.mem_of_getElem? (i := 167) rfl)) rfl
theorem xw77 : Cond.classLink RL 7 RX11 ∈ xW := xW_of (xtb1 (List.mem_of_getElem? (i := 22) rfl)) rfl
theorem cl_L_7 : Cond.classLink RL 7 RX11 ∈ xW := xw77
theorem xw78 : Cond.instantiable RX11 14 ∈ xW := xW_of (xtb1 (List.mem_of_getElem? (i := 23) rfl)) rfl
theorem xw79 : Cond.methodLink RL 9 yX11_init ∈ xW := xW_of (xtb1 (List.mem_of_getElem? (i := 24) rfl)) rfl
theorem xw80 : Cond.instanceMethod yX11_init ∈ xW := xW_of (xtb1 (List.mem_of_getElem? (i := 25) rfl)) rfl
theorem xw81 : Cond.code yX11_init cX11_init 3 none ∈ xW := xW_of (xtb1 (List.mem_of_getElem? (i := 26) rfl)) rfl
theorem ki_L_9 : xKi RL 9 yX11_init cX11_init 3 0 := ⟨xw79, xw80, xw56, xw81, rfl, ⟨by decide +kernel, by decide +kernel, by decide +kernel⟩⟩
theorem xw817 : Cond.classLink RL 10 RX12 ∈ xW := xW_of (xtb4 (List.mem_of_getElem? (i := 42) rfl)) rfl
theorem cl_L_10 : Cond.classLink RL 10 RX12 ∈ xW := xw817
theorem xw818 : Cond.instantiable RX12 41 ∈ xW := xW_of (xtb4 (List.mem_of_getElem? (i := 43) rfl)) rfl
theorem xw819 : Cond.methodLink RL 12 yX12_init ∈ xW := xW_of (xtb4 (List.mem_of_getElem? (i := 44) rfl)) rfl
theorem xw820 : Cond.instanceMethod yX12_init ∈ xW := xW_of (xtb4 (List.mem_of_getElem? (i := 45) rfl)) rfl
theorem xw821 : Cond.code yX12_init cX12_init 2 none ∈ xW := xW_of (xtb4 (List.mem_of_getElem? (i := 46) rfl)) rfl
theorem ki_L_12 : xKi RL 12 yX12_init cX12_init 2 0 := ⟨xw819, xw820, xw68, xw821, rfl, ⟨by decide +kernel, by decide +kernel, by decide +kernel⟩⟩
theorem xw311 : Cond.methodLink RL 13 yX11_count ∈ xW := xW_of (xtb2 (List.mem_of_getElem? (i := 16) rfl)) rfl
theorem xw312 : Cond.instanceMethod yX11_count ∈ xW := xW_of (xtb2 (List.mem_of_getElem? (i := 17) rfl)) rfl
theorem xw313 : Cond.selects RX11 yX11_count yX11_count ∈ xW := xW_of (xtb2 (List.mem_of_getElem? (i := 18) rfl)) rfl
theorem xw314 : Cond.code yX11_count cX11_count 2 (some .int) ∈ xW := xW_of (xtb2 (List.mem_of_getElem? (i := 19) rfl)) rfl
theorem kv_L_13 : xKv RL 13 yX11_count cX11_count 2 (some .int) 1 := ⟨xw311, xw312, xw313, xw56, xw314, ⟨by decide +kernel, by decide +kernel, by decide +kernel⟩⟩
theorem xw994 : Cond.methodLink RL 17 yX12_count ∈ xW := xW_of (xtb4 (List.mem_of_getElem? (i := 219) rfl)) rfl
theorem xw995 : Cond.instanceMethod yX12_count ∈ xW := xW_of (xtb4 (List.mem_of_getElem? (i := 220) rfl)) rfl
theorem xw996 : Cond.selects RX12 yX12_count yX12_count ∈ xW := xW_of (xtb4 (List.mem_of_getElem? (i := 221) rfl)) rfl
theorem xw997 : Cond.code yX12_count cX12_count 2 (some .int) ∈ xW := xW_of (xtb4 (List.mem_of_getElem? (i := 222) rfl)) rfl
theorem kv_L_17 : xKv RL 17 yX12_count cX12_count 2 (some .int) 1 := ⟨xw994, xw995, xw996, xw68, xw997, ⟨by decide +kernel, by decide +kernel, by decide +kernel⟩⟩
theorem xw315 : Cond.methodLink RL 18 yX11_hours ∈ xW := xW_of (xtb2 (List.mem_of_getElem? (i := 20) rfl)) rfl
theorem xw316 : Cond.instanceMethod yX11_hours ∈ xW := xW_of (xtb2 (List.mem_of_getElem? (i := 21) rfl)) rfl
theorem xw317 : Cond.selects RX11 yX11_hours yX11_hours ∈ xW := xW_of (xtb2 (List.mem_of_getElem? (i := 22) rfl)) rfl
theorem xw318 : Cond.code yX11_hours cX11_hours 3 (some .int) ∈ xW := xW_of (xtb2 (List.mem_of_getElem? (i := 23) rfl)) rfl
theorem kv_L_18 : xKv RL 18 yX11_hours cX11_hours 3 (some .int) 1 := ⟨xw315, xw316, xw317, xw56, xw318, ⟨by decide +kernel, by decide +kernel, by decide +kernel⟩⟩
theorem xw998 : Cond.methodLink RL 21 yX12_hours ∈ xW := xW_of (xtb4 (List.mem_of_getElem? (i := 223) rfl)) rfl
theorem xw999 : Cond.instanceMethod yX12_hours ∈ xW := xW_of (xtb4 (List.mem_of_getElem? (i := 224) rfl)) rfl
theorem xw1000 : Cond.selects RX12 yX12_hours yX12_hours ∈ xW := xW_of (xtb4 (List.mem_of_getElem? (i := 225) rfl)) rfl
theorem xw1001 : Cond.code yX12_hours cX12_hours 3 (some .int) ∈ xW := xW_of (xtb4 (List.mem_of_getElem? (i := 226) rfl)) rfl
theorem kv_L_21 : xKv RL 21 yX12_hours cX12_hours 3 (some .int) 1 := ⟨xw998, xw999, xw1000, xw68, xw1001, ⟨by decide +kernel, by decide +kernel, by decide +kernel⟩⟩
theorem xw322 : Cond.methodLink RL 22 yX11_feed ∈ xW := xW_of (xtb2 (List.mem_of_getElem? (i := 27) rfl)) rfl
theorem xw323 : Cond.instanceMethod yX11_feed ∈ xW := xW_of (xtb2 (List.mem_of_getElem? (i := 28) rfl)) rfl
theorem xw324 : Cond.selects RX11 yX11_feed yX11_feed ∈ xW := xW_of (xtb2 (List.mem_of_getElem? (i := 29) rfl)) rfl
theorem xw325 : Cond.code yX11_feed cX11_feed 8 (some .int) ∈ xW := xW_of (xtb2 (List.mem_of_getElem? (i := 30) rfl)) rfl
theorem kv_L_22 : xKv RL 22 yX11_feed cX11_feed 8 (some .int) 6 := ⟨xw322, xw323, xw324, xw56, xw325, ⟨by decide +kernel, by decide +kernel, by decide +kernel⟩⟩
theorem xw1002 : Cond.methodLink RL 26 yX12_feed ∈ xW := xW_of (xtb4 (List.mem_of_getElem? (i := 227) rfl)) rfl
theorem xw1003 : Cond.instanceMethod yX12_feed ∈ xW := xW_of (xtb4 (List.mem_of_getElem? (i := 228) rfl)) rfl
theorem xw1004 : Cond.selects RX12 yX12_feed yX12_feed ∈ xW := xW_of (xtb4 (List.mem_of_getElem? (i := 229) rfl)) rfl
theorem xw1005 : Cond.code yX12_feed cX12_feed 8 (some .int) ∈ xW := xW_of (xtb4 (List.mem_of_getElem? (i := 230) rfl)) rfl
theorem kv_L_26 : xKv RL 26 yX12_feed cX12_feed 8 (some .int) 6 := ⟨xw1002, xw1003, xw1004, xw68, xw1005, ⟨by decide +kernel, by decide +kernel, by decide +kernel⟩⟩
theorem xw330 : Cond.methodLink RL 27 yX11_text ∈ xW := xW_of (xtb2 (List.mem_of_getElem? (i := 35) rfl)) rfl
theorem xw331 : Cond.instanceMethod yX11_text ∈ xW := xW_of (xtb2 (List.mem_of_getElem? (i := 36) rfl)) rfl
theorem xw332 : Cond.selects RX11 yX11_text yX11_text ∈ xW := xW_of (xtb2 (List.mem_of_getElem? (i := 37) rfl)) rfl
theorem xw333 : Cond.code yX11_text cX11_text 2 (some .int) ∈ xW := xW_of (xtb2 (List.mem_of_getElem? (i := 38) rfl)) rfl
theorem kv_L_27 : xKv RL 27 yX11_text cX11_text 2 (some .int) 0 := ⟨xw330, xw331, xw332, xw56, xw333, ⟨by decide +kernel, by decide +kernel, by decide +kernel⟩⟩
theorem xw1009 : Cond.methodLink RL 31 yX12_text ∈ xW := xW_of (xtb4 (List.mem_of_getElem? (i := 234) rfl)) rfl
theorem kv_L_31 : xKv RL 31 yX12_text cX12_text 3 (some .int) 0 := ⟨xw1009, xw824, xw825, xw68, xw826, ⟨by decide +kernel, by decide +kernel, by decide +kernel⟩⟩
theorem xw469 : Cond.methodLink RL 32 yX11_force ∈ xW := xW_of (xtb2 (List.mem_of_getElem? (i := 174) rfl)) rfl
theorem xw470 : Cond.instanceMethod yX11_force ∈ xW := xW_of (xtb2 (List.mem_of_getElem? (i := 175) rfl)) rfl
theorem xw471 : Cond.selects RX11 yX11_force yX11_force ∈ xW := xW_of (xtb2 (List.mem_of_getElem? (i := 176) rfl)) rfl
theorem xw472 : Cond.code yX11_force cX11_force 3 (some .int) ∈ xW := xW_of (xtb2 (List.mem_of_getElem? (i := 177) rfl)) rfl
theorem kv_L_32 : xKv RL 32 yX11_force cX11_force 3 (some .int) 1 := ⟨xw469, xw470, xw471, xw56, xw472, ⟨by decide +kernel, by decide +kernel, by decide +kernel⟩⟩
theorem xw1010 : Cond.methodLink RL 35 yX12_force ∈ xW := xW_of (xtb4 (List.mem_of_getElem? (i := 235) rfl)) rfl
theorem xw1011 : Cond.instanceMethod yX12_force ∈ xW := xW_of (xtb4 (List.mem_of_getElem? (i := 236) rfl)) rfl
theorem xw1012 : Cond.selects RX12 yX12_force yX12_force ∈ xW := xW_of (xtb4 (List.mem_of_getElem? (i := 237) rfl)) rfl
theorem xw1013 : Cond.code yX12_force cX12_force 3 (some .int) ∈ xW := xW_of (xtb4 (List.mem_of_getElem? (i := 238) rfl)) rfl
theorem kv_L_35 : xKv RL 35 yX12_force cX12_force 3 (some .int) 1 := ⟨xw1010, xw1011, xw1012, xw68, xw1013, ⟨by decide +kernel, by decide +kernel, by decide +kernel⟩⟩
theorem xw473 : Cond.methodLink RL 36 yX11_asks ∈ xW := xW_of (xtb2 (List.mem_of_getElem? (i := 178) rfl)) rfl
theorem xw474 : Cond.instanceMethod yX11_asks ∈ xW := xW_of (xtb2 (List.mem_of_getElem? (i := 179) rfl)) rfl
theorem xw475 : Cond.selects RX11 yX11_asks yX11_asks ∈ xW := xW_of (xtb2 (List.mem_of_getElem? (i := 180) rfl)) rfl
theorem xw476 : Cond.code yX11_asks cX11_asks 4 (some .int) ∈ xW := xW_of (xtb2 (List.mem_of_getElem? (i := 181) rfl)) rfl
theorem kv_L_36 : xKv RL 36 yX11_asks cX11_asks 4 (some .int) 3 := ⟨xw473, xw474, xw475, xw56, xw476, ⟨by decide +kernel, by decide +kernel, by decide +kernel⟩⟩
theorem xw1014 : Cond.methodLink RL 40 yX12_asks ∈ xW := xW_of (xtb4 (List.mem_of_getElem? (i := 239) rfl)) rfl
theorem xw1015 : Cond.instanceMethod yX12_asks ∈ xW := xW_of (xtb5 (List.mem_of_getElem? (i := 0) rfl)) rfl
theorem xw1016 : Cond.selects RX12 yX12_asks yX12_asks ∈ xW := xW_of (xtb5 (List.mem_of_getElem? (i := 1) rfl)) rfl
theorem xw1017 : Cond.code yX12_asks cX12_asks 4 (some .int) ∈ xW := xW_of (xtb5 (List.mem_of_getElem? (i := 2) rfl)) rfl
theorem kv_L_40 : xKv RL 40 yX12_asks cX12_asks 4 (some .int) 3 := ⟨xw1014, xw1015, xw1016, xw68, xw1017, ⟨by decide +kernel, by decide +kernel, by decide +kernel⟩⟩
theorem xw500 : Cond.methodLink RL 41 yX11_sleeper ∈ xW := xW_of (xtb2 (List.mem_of_getElem? (i := 205) rfl)) rfl
theorem kv_L_41 : xKv RL 41 yX11_sleeper cX11_sleeper 5 (some .int) 3 := ⟨xw500, xw501, xw502, xw56, xw503, ⟨by decide +kernel, by decide +kernel, by decide +kernel⟩⟩
theorem xw1039 : Cond.methodLink RL 44 yX12_sleeper ∈ xW := xW_of (xtb5 (List.mem_of_getElem? (i := 24) rfl)) rfl
theorem kv_L_44 : xKv RL 44 yX12_sleeper cX12_sleeper 5 (some .int) 3 := ⟨xw1039, xw1040, xw1041, xw68, xw1042, ⟨by decide +kernel, by decide +kernel, by decide +kernel⟩⟩
theorem xw509 : Cond.methodLink RL 45 yX11_put ∈ xW := xW_of (xtb2 (List.mem_of_getElem? (i := 214) rfl)) rfl
theorem xw510 : Cond.instanceMethod yX11_put ∈ xW := xW_of (xtb2 (List.mem_of_getElem? (i := 215) rfl)) rfl
theorem xw511 : Cond.selects RX11 yX11_put yX11_put ∈ xW := xW_of (xtb2 (List.mem_of_getElem? (i := 216) rfl)) rfl
theorem xw512 : Cond.code yX11_put cX11_put 6 (some .int) ∈ xW := xW_of (xtb2 (List.mem_of_getElem? (i := 217) rfl)) rfl
theorem kv_L_45 : xKv RL 45 yX11_put cX11_put 6 (some .int) 3 := ⟨xw509, xw510, xw511, xw56, xw512, ⟨by decide +kernel, by decide +kernel, by decide +kernel⟩⟩
theorem xw1044 : Cond.methodLink RL 48 yX12_put ∈ xW := xW_of (xtb5 (List.mem_of_getElem? (i := 29) rfl)) rfl
theorem xw1045 : Cond.instanceMethod yX12_put ∈ xW := xW_of (xtb5 (List.mem_of_getElem? (i := 30) rfl)) rfl
theorem xw1046 : Cond.selects RX12 yX12_put yX12_put ∈ xW := xW_of (xtb5 (List.mem_of_getElem? (i := 31) rfl)) rfl
theorem xw1047 : Cond.code yX12_put cX12_put 5 (some .int) ∈ xW := xW_of (xtb5 (List.mem_of_getElem? (i := 32) rfl)) rfl
theorem kv_L_48 : xKv RL 48 yX12_put cX12_put 5 (some .int) 3 := ⟨xw1044, xw1045, xw1046, xw68, xw1047, ⟨by decide +kernel, by decide +kernel, by decide +kernel⟩⟩
theorem xw513 : Cond.methodLink RL 49 yX11_told ∈ xW := xW_of (xtb2 (List.mem_of_getElem? (i := 218) rfl)) rfl
theorem xw514 : Cond.instanceMethod yX11_told ∈ xW := xW_of (xtb2 (List.mem_of_getElem? (i := 219) rfl)) rfl
theorem xw515 : Cond.selects RX11 yX11_told yX11_told ∈ xW := xW_of (xtb2 (List.mem_of_getElem? (i := 220) rfl)) rfl
theorem xw516 : Cond.code yX11_told cX11_told 3 (some .int) ∈ xW := xW_of (xtb2 (List.mem_of_getElem? (i := 221) rfl)) rfl
theorem kv_L_49 : xKv RL 49 yX11_told cX11_told 3 (some .int) 2 := ⟨xw513, xw514, xw515, xw56, xw516, ⟨by decide +kernel, by decide +kernel, by decide +kernel⟩⟩
theorem xw1048 : Cond.methodLink RL 53 yX12_told ∈ xW := xW_of (xtb5 (List.mem_of_getElem? (i := 33) rfl)) rfl
theorem xw1049 : Cond.instanceMethod yX12_told ∈ xW := xW_of (xtb5 (List.mem_of_getElem? (i := 34) rfl)) rfl
theorem xw1050 : Cond.selects RX12 yX12_told yX12_told ∈ xW := xW_of (xtb5 (List.mem_of_getElem? (i := 35) rfl)) rfl
theorem xw1051 : Cond.code yX12_told cX12_told 3 (some .int) ∈ xW := xW_of (xtb5 (List.mem_of_getElem? (i := 36) rfl)) rfl
theorem kv_L_53 : xKv RL 53 yX12_told cX12_told 3 (some .int) 2 := ⟨xw1048, xw1049, xw1050, xw68, xw1051, ⟨by decide +kernel, by decide +kernel, by decide +kernel⟩⟩
theorem xw521 : Cond.methodLink RL 54 yX11_view ∈ xW := xW_of (xtb2 (List.mem_of_getElem? (i := 226) rfl)) rfl
theorem xw522 : Cond.instanceMethod yX11_view ∈ xW := xW_of (xtb2 (List.mem_of_getElem? (i := 227) rfl)) rfl
theorem xw523 : Cond.selects RX11 yX11_view yX11_view ∈ xW := xW_of (xtb2 (List.mem_of_getElem? (i := 228) rfl)) rfl
theorem xw524 : Cond.code yX11_view cX11_view 4 (some .int) ∈ xW := xW_of (xtb2 (List.mem_of_getElem? (i := 229) rfl)) rfl
theorem kv_L_54 : xKv RL 54 yX11_view cX11_view 4 (some .int) 2 := ⟨xw521, xw522, xw523, xw56, xw524, ⟨by decide +kernel, by decide +kernel, by decide +kernel⟩⟩
theorem xw1056 : Cond.methodLink RL 57 yX12_view ∈ xW := xW_of (xtb5 (List.mem_of_getElem? (i := 41) rfl)) rfl
theorem xw1057 : Cond.instanceMethod yX12_view ∈ xW := xW_of (xtb5 (List.mem_of_getElem? (i := 42) rfl)) rfl
theorem xw1058 : Cond.selects RX12 yX12_view yX12_view ∈ xW := xW_of (xtb5 (List.mem_of_getElem? (i := 43) rfl)) rfl
theorem xw1059 : Cond.code yX12_view cX12_view 3 (some .int) ∈ xW := xW_of (xtb5 (List.mem_of_getElem? (i := 44) rfl)) rfl
theorem kv_L_57 : xKv RL 57 yX12_view cX12_view 3 (some .int) 2 := ⟨xw1056, xw1057, xw1058, xw68, xw1059, ⟨by decide +kernel, by decide +kernel, by decide +kernel⟩⟩
theorem xw592 : Cond.methodLink RL 58 yX11_all ∈ xW := xW_of (xtb3 (List.mem_of_getElem? (i := 57) rfl)) rfl
theorem xw593 : Cond.instanceMethod yX11_all ∈ xW := xW_of (xtb3 (List.mem_of_getElem? (i := 58) rfl)) rfl
theorem xw594 : Cond.selects RX11 yX11_all yX11_all ∈ xW := xW_of (xtb3 (List.mem_of_getElem? (i := 59) rfl)) rfl
theorem xw595 : Cond.code yX11_all cX11_all 7 (some .int) ∈ xW := xW_of (xtb3 (List.mem_of_getElem? (i := 60) rfl)) rfl
theorem kv_L_58 : xKv RL 58 yX11_all cX11_all 7 (some .int) 1 := ⟨xw592, xw593, xw594, xw56, xw595, ⟨by decide +kernel, by decide +kernel, by decide +kernel⟩⟩
theorem xw1089 : Cond.methodLink RL 61 yX12_all ∈ xW := xW_of (xtb5 (List.mem_of_getElem? (i := 74) rfl)) rfl
theorem xw1090 : Cond.instanceMethod yX12_all ∈ xW := xW_of (xtb5 (List.mem_of_getElem? (i := 75) rfl)) rfl
theorem xw1091 : Cond.selects RX12 yX12_all yX12_all ∈ xW := xW_of (xtb5 (List.mem_of_getElem? (i := 76) rfl)) rfl
theorem xw1092 : Cond.code yX12_all cX12_all 6 (some .int) ∈ xW := xW_of (xtb5 (List.mem_of_getElem? (i := 77) rfl)) rfl
theorem kv_L_61 : xKv RL 61 yX12_all cX12_all 6 (some .int) 1 := ⟨xw1089, xw1090, xw1091, xw68, xw1092, ⟨by decide +kernel, by decide +kernel, by decide +kernel⟩⟩
theorem xw596 : Cond.methodLink RL 62 yX11_sleep ∈ xW := xW_of (xtb3 (List.mem_of_getElem? (i := 61) rfl)) rfl
theorem xw597 : Cond.instanceMethod yX11_sleep ∈ xW := xW_of (xtb3 (List.mem_of_getElem? (i := 62) rfl)) rfl
theorem xw598 : Cond.selects RX11 yX11_sleep yX11_sleep ∈ xW := xW_of (xtb3 (List.mem_of_getElem? (i := 63) rfl)) rfl
theorem xw599 : Cond.code yX11_sleep cX11_sleep 2 (some .int) ∈ xW := xW_of (xtb3 (List.mem_of_getElem? (i := 64) rfl)) rfl
theorem kv_L_62 : xKv RL 62 yX11_sleep cX11_sleep 2 (some .int) 0 := ⟨xw596, xw597, xw598, xw56, xw599, ⟨by decide +kernel, by decide +kernel, by decide +kernel⟩⟩
theorem xw1097 : Cond.methodLink RL 65 yX12_sleep ∈ xW := xW_of (xtb5 (List.mem_of_getElem? (i := 82) rfl)) rfl
theorem xw1098 : Cond.instanceMethod yX12_sleep ∈ xW := xW_of (xtb5 (List.mem_of_getElem? (i := 83) rfl)) rfl
theorem xw1099 : Cond.selects RX12 yX12_sleep yX12_sleep ∈ xW := xW_of (xtb5 (List.mem_of_getElem? (i := 84) rfl)) rfl
theorem xw1100 : Cond.code yX12_sleep cX12_sleep 4 (some .int) ∈ xW := xW_of (xtb5 (List.mem_of_getElem? (i := 85) rfl)) rfl
theorem kv_L_65 : xKv RL 65 yX12_sleep cX12_sleep 4 (some .int) 0 := ⟨xw1097, xw1098, xw1099, xw68, xw1100, ⟨by decide +kernel, by decide +kernel, by decide +kernel⟩⟩
theorem xw633 : Cond.methodLink RL 66 yX11_clean ∈ xW := xW_of (xtb3 (List.mem_of_getElem? (i := 98) rfl)) rfl
theorem xw634 : Cond.instanceMethod yX11_clean ∈ xW := xW_of (xtb3 (List.mem_of_getElem? (i := 99) rfl)) rfl
theorem xw635 : Cond.selects RX11 yX11_clean yX11_clean ∈ xW := xW_of (xtb3 (List.mem_of_getElem? (i := 100) rfl)) rfl
theorem xw636 : Cond.code yX11_clean cX11_clean 4 (some .int) ∈ xW := xW_of (xtb3 (List.mem_of_getElem? (i := 101) rfl)) rfl
theorem kv_L_66 : xKv RL 66 yX11_clean cX11_clean 4 (some .int) 2 := ⟨xw633, xw634, xw635, xw56, xw636, ⟨by decide +kernel, by decide +kernel, by decide +kernel⟩⟩
theorem xw1105 : Cond.methodLink RL 69 yX12_clean ∈ xW := xW_of (xtb5 (List.mem_of_getElem? (i := 90) rfl)) rfl
theorem xw1106 : Cond.instanceMethod yX12_clean ∈ xW := xW_of (xtb5 (List.mem_of_getElem? (i := 91) rfl)) rfl
theorem xw1107 : Cond.selects RX12 yX12_clean yX12_clean ∈ xW := xW_of (xtb5 (List.mem_of_getElem? (i := 92) rfl)) rfl
theorem xw1108 : Cond.code yX12_clean cX12_clean 4 (some .int) ∈ xW := xW_of (xtb5 (List.mem_of_getElem? (i := 93) rfl)) rfl
theorem kv_L_69 : xKv RL 69 yX12_clean cX12_clean 4 (some .int) 2 := ⟨xw1105, xw1106, xw1107, xw68, xw1108, ⟨by decide +kernel, by decide +kernel, by decide +kernel⟩⟩
theorem xw638 : Cond.methodLink RL 70 yX11_run ∈ xW := xW_of (xtb3 (List.mem_of_getElem? (i := 103) rfl)) rfl
theorem xw639 : Cond.instanceMethod yX11_run ∈ xW := xW_of (xtb3 (List.mem_of_getElem? (i := 104) rfl)) rfl
theorem xw640 : Cond.selects RX11 yX11_run yX11_run ∈ xW := xW_of (xtb3 (List.mem_of_getElem? (i := 105) rfl)) rfl
theorem xw641 : Cond.code yX11_run cX11_run 6 (some .int) ∈ xW := xW_of (xtb3 (List.mem_of_getElem? (i := 106) rfl)) rfl
theorem kv_L_70 : xKv RL 70 yX11_run cX11_run 6 (some .int) 3 := ⟨xw638, xw639, xw640, xw56, xw641, ⟨by decide +kernel, by decide +kernel, by decide +kernel⟩⟩
theorem xw1109 : Cond.methodLink RL 73 yX12_run ∈ xW := xW_of (xtb5 (List.mem_of_getElem? (i := 94) rfl)) rfl
theorem xw1110 : Cond.instanceMethod yX12_run ∈ xW := xW_of (xtb5 (List.mem_of_getElem? (i := 95) rfl)) rfl
theorem xw1111 : Cond.selects RX12 yX12_run yX12_run ∈ xW := xW_of (xtb5 (List.mem_of_getElem? (i := 96) rfl)) rfl
theorem xw1112 : Cond.code yX12_run cX12_run 6 (some .int) ∈ xW := xW_of (xtb5 (List.mem_of_getElem? (i := 97) rfl)) rfl
theorem kv_L_73 : xKv RL 73 yX12_run cX12_run 6 (some .int) 3 := ⟨xw1109, xw1110, xw1111, xw68, xw1112, ⟨by decide +kernel, by decide +kernel, by decide +kernel⟩⟩
theorem xw651 : Cond.methodLink RL 74 yX11_blind ∈ xW := xW_of (xtb3 (List.mem_of_getElem? (i := 116) rfl)) rfl
theorem xw652 : Cond.instanceMethod yX11_blind ∈ xW := xW_of (xtb3 (List.mem_of_getElem? (i := 117) rfl)) rfl
theorem xw653 : Cond.selects RX11 yX11_blind yX11_blind ∈ xW := xW_of (xtb3 (List.mem_of_getElem? (i := 118) rfl)) rfl
theorem xw654 : Cond.code yX11_blind cX11_blind 4 (some .int) ∈ xW := xW_of (xtb3 (List.mem_of_getElem? (i := 119) rfl)) rfl
theorem kv_L_74 : xKv RL 74 yX11_blind cX11_blind 4 (some .int) 1 := ⟨xw651, xw652, xw653, xw56, xw654, ⟨by decide +kernel, by decide +kernel, by decide +kernel⟩⟩
theorem xw1125 : Cond.methodLink RL 77 yX12_blind ∈ xW := xW_of (xtb5 (List.mem_of_getElem? (i := 110) rfl)) rfl
theorem xw1126 : Cond.instanceMethod yX12_blind ∈ xW := xW_of (xtb5 (List.mem_of_getElem? (i := 111) rfl)) rfl
theorem xw1127 : Cond.selects RX12 yX12_blind yX12_blind ∈ xW := xW_of (xtb5 (List.mem_of_getElem? (i := 112) rfl)) rfl
theorem xw1128 : Cond.code yX12_blind cX12_blind 3 (some .int) ∈ xW := xW_of (xtb5 (List.mem_of_getElem? (i := 113) rfl)) rfl
theorem kv_L_77 : xKv RL 77 yX12_blind cX12_blind 3 (some .int) 1 := ⟨xw1125, xw1126, xw1127, xw68, xw1128, ⟨by decide +kernel, by decide +kernel, by decide +kernel⟩⟩
theorem xw655 : Cond.methodLink RL 78 yX11_best ∈ xW := xW_of (xtb3 (List.mem_of_getElem? (i := 120) rfl)) rfl
theorem xw656 : Cond.instanceMethod yX11_best ∈ xW := xW_of (xtb3 (List.mem_of_getElem? (i := 121) rfl)) rfl
theorem xw657 : Cond.selects RX11 yX11_best yX11_best ∈ xW := xW_of (xtb3 (List.mem_of_getElem? (i := 122) rfl)) rfl
theorem xw658 : Cond.code yX11_best cX11_best 4 (some .int) ∈ xW := xW_of (xtb3 (List.mem_of_getElem? (i := 123) rfl)) rfl
theorem kv_L_78 : xKv RL 78 yX11_best cX11_best 4 (some .int) 2 := ⟨xw655, xw656, xw657, xw56, xw658, ⟨by decide +kernel, by decide +kernel, by decide +kernel⟩⟩
theorem xw1129 : Cond.methodLink RL 81 yX12_best ∈ xW := xW_of (xtb5 (List.mem_of_getElem? (i := 114) rfl)) rfl
theorem xw1130 : Cond.instanceMethod yX12_best ∈ xW := xW_of (xtb5 (List.mem_of_getElem? (i := 115) rfl)) rfl
theorem xw1131 : Cond.selects RX12 yX12_best yX12_best ∈ xW := xW_of (xtb5 (List.mem_of_getElem? (i := 116) rfl)) rfl
theorem xw1132 : Cond.code yX12_best cX12_best 3 (some .int) ∈ xW := xW_of (xtb5 (List.mem_of_getElem? (i := 117) rfl)) rfl
theorem kv_L_81 : xKv RL 81 yX12_best cX12_best 3 (some .int) 2 := ⟨xw1129, xw1130, xw1131, xw68, xw1132, ⟨by decide +kernel, by decide +kernel, by decide +kernel⟩⟩
theorem xw669 : Cond.methodLink RL 82 yX11_whom ∈ xW := xW_of (xtb3 (List.mem_of_getElem? (i := 134) rfl)) rfl
theorem xw670 : Cond.instanceMethod yX11_whom ∈ xW := xW_of (xtb3 (List.mem_of_getElem? (i := 135) rfl)) rfl
theorem xw671 : Cond.selects RX11 yX11_whom yX11_whom ∈ xW := xW_of (xtb3 (List.mem_of_getElem? (i := 136) rfl)) rfl
theorem xw672 : Cond.code yX11_whom cX11_whom 6 (some .int) ∈ xW := xW_of (xtb3 (List.mem_of_getElem? (i := 137) rfl)) rfl
theorem kv_L_82 : xKv RL 82 yX11_whom cX11_whom 6 (some .int) 1 := ⟨xw669, xw670, xw671, xw56, xw672, ⟨by decide +kernel, by decide +kernel, by decide +kernel⟩⟩
theorem xw1141 : Cond.methodLink RL 85 yX12_whom ∈ xW := xW_of (xtb5 (List.mem_of_getElem? (i := 126) rfl)) rfl
theorem xw1142 : Cond.instanceMethod yX12_whom ∈ xW := xW_of (xtb5 (List.mem_of_getElem? (i := 127) rfl)) rfl
theorem xw1143 : Cond.selects RX12 yX12_whom yX12_whom ∈ xW := xW_of (xtb5 (List.mem_of_getElem? (i := 128) rfl)) rfl
theorem xw1144 : Cond.code yX12_whom cX12_whom 6 (some .int) ∈ xW := xW_of (xtb5 (List.mem_of_getElem? (i := 129) rfl)) rfl
theorem kv_L_85 : xKv RL 85 yX12_whom cX12_whom 6 (some .int) 1 := ⟨xw1141, xw1142, xw1143, xw68, xw1144, ⟨by decide +kernel, by decide +kernel, by decide +kernel⟩⟩
theorem xw674 : Cond.methodLink RL 86 yX11_show ∈ xW := xW_of (xtb3 (List.mem_of_getElem? (i := 139) rfl)) rfl
theorem xw675 : Cond.instanceMethod yX11_show ∈ xW := xW_of (xtb3 (List.mem_of_getElem? (i := 140) rfl)) rfl
theorem xw676 : Cond.selects RX11 yX11_show yX11_show ∈ xW := xW_of (xtb3 (List.mem_of_getElem? (i := 141) rfl)) rfl
theorem xw677 : Cond.code yX11_show cX11_show 4 (some .int) ∈ xW := xW_of (xtb3 (List.mem_of_getElem? (i := 142) rfl)) rfl
theorem kv_L_86 : xKv RL 86 yX11_show cX11_show 4 (some .int) 2 := ⟨xw674, xw675, xw676, xw56, xw677, ⟨by decide +kernel, by decide +kernel, by decide +kernel⟩⟩
theorem xw1145 : Cond.methodLink RL 89 yX12_show ∈ xW := xW_of (xtb5 (List.mem_of_getElem? (i := 130) rfl)) rfl
theorem xw1146 : Cond.instanceMethod yX12_show ∈ xW := xW_of (xtb5 (List.mem_of_getElem? (i := 131) rfl)) rfl
theorem xw1147 : Cond.selects RX12 yX12_show yX12_show ∈ xW := xW_of (xtb5 (List.mem_of_getElem? (i := 132) rfl)) rfl
theorem xw1148 : Cond.code yX12_show cX12_show 6 (some .int) ∈ xW := xW_of (xtb5 (List.mem_of_getElem? (i := 133) rfl)) rfl
theorem kv_L_89 : xKv RL 89 yX12_show cX12_show 6 (some .int) 2 := ⟨xw1145, xw1146, xw1147, xw68, xw1148, ⟨by decide +kernel, by decide +kernel, by decide +kernel⟩⟩
theorem xw678 : Cond.methodLink RL 90 yX11_way ∈ xW := xW_of (xtb3 (List.mem_of_getElem? (i := 143) rfl)) rfl
theorem xw679 : Cond.instanceMethod yX11_way ∈ xW := xW_of (xtb3 (List.mem_of_getElem? (i := 144) rfl)) rfl
theorem xw680 : Cond.selects RX11 yX11_way yX11_way ∈ xW := xW_of (xtb3 (List.mem_of_getElem? (i := 145) rfl)) rfl
theorem xw681 : Cond.code yX11_way cX11_way 5 (some .int) ∈ xW := xW_of (xtb3 (List.mem_of_getElem? (i := 146) rfl)) rfl
theorem kv_L_90 : xKv RL 90 yX11_way cX11_way 5 (some .int) 2 := ⟨xw678, xw679, xw680, xw56, xw681, ⟨by decide +kernel, by decide +kernel, by decide +kernel⟩⟩
theorem xw1149 : Cond.methodLink RL 93 yX12_way ∈ xW := xW_of (xtb5 (List.mem_of_getElem? (i := 134) rfl)) rfl
theorem xw1150 : Cond.instanceMethod yX12_way ∈ xW := xW_of (xtb5 (List.mem_of_getElem? (i := 135) rfl)) rfl
theorem xw1151 : Cond.selects RX12 yX12_way yX12_way ∈ xW := xW_of (xtb5 (List.mem_of_getElem? (i := 136) rfl)) rfl
theorem xw1152 : Cond.code yX12_way cX12_way 6 (some .int) ∈ xW := xW_of (xtb5 (List.mem_of_getElem? (i := 137) rfl)) rfl
theorem kv_L_93 : xKv RL 93 yX12_way cX12_way 6 (some .int) 2 := ⟨xw1149, xw1150, xw1151, xw68, xw1152, ⟨by decide +kernel, by decide +kernel, by decide +kernel⟩⟩
theorem xw687 : Cond.methodLink RL 94 yX11_often ∈ xW := xW_of (xtb3 (List.mem_of_getElem? (i := 152) rfl)) rfl
theorem xw688 : Cond.instanceMethod yX11_often ∈ xW := xW_of (xtb3 (List.mem_of_getElem? (i := 153) rfl)) rfl
theorem xw689 : Cond.selects RX11 yX11_often yX11_often ∈ xW := xW_of (xtb3 (List.mem_of_getElem? (i := 154) rfl)) rfl
theorem xw690 : Cond.code yX11_often cX11_often 3 (some .int) ∈ xW := xW_of (xtb3 (List.mem_of_getElem? (i := 155) rfl)) rfl
theorem kv_L_94 : xKv RL 94 yX11_often cX11_often 3 (some .int) 1 := ⟨xw687, xw688, xw689, xw56, xw690, ⟨by decide +kernel, by decide +kernel, by decide +kernel⟩⟩
theorem xw1157 : Cond.methodLink RL 97 yX12_often ∈ xW := xW_of (xtb5 (List.mem_of_getElem? (i := 142) rfl)) rfl
theorem xw1158 : Cond.instanceMethod yX12_often ∈ xW := xW_of (xtb5 (List.mem_of_getElem? (i := 143) rfl)) rfl
theorem xw1159 : Cond.selects RX12 yX12_often yX12_often ∈ xW := xW_of (xtb5 (List.mem_of_getElem? (i := 144) rfl)) rfl
theorem xw1160 : Cond.code yX12_often cX12_often 3 (some .int) ∈ xW := xW_of (xtb5 (List.mem_of_getElem? (i := 145) rfl)) rfl
theorem kv_L_97 : xKv RL 97 yX12_often cX12_often 3 (some .int) 1 := ⟨xw1157, xw1158, xw1159, xw68, xw1160, ⟨by decide +kernel, by decide +kernel, by decide +kernel⟩⟩
theorem xw695 : Cond.methodLink RL 98 yX11_joins ∈ xW := xW_of (xtb3 (List.mem_of_getElem? (i := 160) rfl)) rfl
theorem xw696 : Cond.instanceMethod yX11_joins ∈ xW := xW_of (xtb3 (List.mem_of_getElem? (i := 161) rfl)) rfl
theorem xw697 : Cond.selects RX11 yX11_joins yX11_joins ∈ xW := xW_of (xtb3 (List.mem_of_getElem? (i := 162) rfl)) rfl
theorem xw698 : Cond.code yX11_joins cX11_joins 11 (some .int) ∈ xW := xW_of (xtb3 (List.mem_of_getElem? (i := 163) rfl)) rfl
theorem kv_L_98 : xKv RL 98 yX11_joins cX11_joins 11 (some .int) 2 := ⟨xw695, xw696, xw697, xw56, xw698, ⟨by decide +kernel, by decide +kernel, by decide +kernel⟩⟩
theorem xw1165 : Cond.methodLink RL 101 yX12_joins ∈ xW := xW_of (xtb5 (List.mem_of_getElem? (i := 150) rfl)) rfl
theorem xw1166 : Cond.instanceMethod yX12_joins ∈ xW := xW_of (xtb5 (List.mem_of_getElem? (i := 151) rfl)) rfl
theorem xw1167 : Cond.selects RX12 yX12_joins yX12_joins ∈ xW := xW_of (xtb5 (List.mem_of_getElem? (i := 152) rfl)) rfl
theorem xw1168 : Cond.code yX12_joins cX12_joins 12 (some .int) ∈ xW := xW_of (xtb5 (List.mem_of_getElem? (i := 153) rfl)) rfl
theorem kv_L_101 : xKv RL 101 yX12_joins cX12_joins 12 (some .int) 2 := ⟨xw1165, xw1166, xw1167, xw68, xw1168, ⟨by decide +kernel, by decide +kernel, by decide +kernel⟩⟩
theorem xw702 : Cond.methodLink RL 102 yX11_judge ∈ xW := xW_of (xtb3 (List.mem_of_getElem? (i := 167) rfl)) rfl
theorem xw703 : Cond.instanceMethod yX11_judge ∈ xW := xW_of (xtb3 (List.mem_of_getElem? (i := 168) rfl)) rfl
theorem xw704 : Cond.selects RX11 yX11_judge yX11_judge ∈ xW := xW_of (xtb3 (List.mem_of_getElem? (i := 169) rfl)) rfl
theorem xw705 : Cond.code yX11_judge cX11_judge 4 (some .int) ∈ xW := xW_of (xtb3 (List.mem_of_getElem? (i := 170) rfl)) rfl
theorem kv_L_102 : xKv RL 102 yX11_judge cX11_judge 4 (some .int) 2 := ⟨xw702, xw703, xw704, xw56, xw705, ⟨by decide +kernel, by decide +kernel, by decide +kernel⟩⟩
theorem xw1173 : Cond.methodLink RL 105 yX12_judge ∈ xW := xW_of (xtb5 (List.mem_of_getElem? (i := 158) rfl)) rfl
theorem xw1174 : Cond.instanceMethod yX12_judge ∈ xW := xW_of (xtb5 (List.mem_of_getElem? (i := 159) rfl)) rfl
theorem xw1175 : Cond.selects RX12 yX12_judge yX12_judge ∈ xW := xW_of (xtb5 (List.mem_of_getElem? (i := 160) rfl)) rfl
theorem xw1176 : Cond.code yX12_judge cX12_judge 4 (some .int) ∈ xW := xW_of (xtb5 (List.mem_of_getElem? (i := 161) rfl)) rfl
theorem kv_L_105 : xKv RL 105 yX12_judge cX12_judge 4 (some .int) 2 := ⟨xw1173, xw1174, xw1175, xw68, xw1176, ⟨by decide +kernel, by decide +kernel, by decide +kernel⟩⟩
theorem xw717 : Cond.methodLink RL 106 yX11_kinds ∈ xW := xW_of (xtb3 (List.mem_of_getElem? (i := 182) rfl)) rfl
theorem xw718 : Cond.instanceMethod yX11_kinds ∈ xW := xW_of (xtb3 (List.mem_of_getElem? (i := 183) rfl)) rfl
theorem xw719 : Cond.selects RX11 yX11_kinds yX11_kinds ∈ xW := xW_of (xtb3 (List.mem_of_getElem? (i := 184) rfl)) rfl
theorem xw720 : Cond.code yX11_kinds cX11_kinds 9 (some .int) ∈ xW := xW_of (xtb3 (List.mem_of_getElem? (i := 185) rfl)) rfl
theorem kv_L_106 : xKv RL 106 yX11_kinds cX11_kinds 9 (some .int) 3 := ⟨xw717, xw718, xw719, xw56, xw720, ⟨by decide +kernel, by decide +kernel, by decide +kernel⟩⟩
theorem xw1185 : Cond.methodLink RL 109 yX12_kinds ∈ xW := xW_of (xtb5 (List.mem_of_getElem? (i := 170) rfl)) rfl
theorem xw1186 : Cond.instanceMethod yX12_kinds ∈ xW := xW_of (xtb5 (List.mem_of_getElem? (i := 171) rfl)) rfl
theorem xw1187 : Cond.selects RX12 yX12_kinds yX12_kinds ∈ xW := xW_of (xtb5 (List.mem_of_getElem? (i := 172) rfl)) rfl
theorem xw1188 : Cond.code yX12_kinds cX12_kinds 9 (some .int) ∈ xW := xW_of (xtb5 (List.mem_of_getElem? (i := 173) rfl)) rfl
theorem kv_L_109 : xKv RL 109 yX12_kinds cX12_kinds 9 (some .int) 3 := ⟨xw1185, xw1186, xw1187, xw68, xw1188, ⟨by decide +kernel, by decide +kernel, by decide +kernel⟩⟩
theorem xw721 : Cond.methodLink RL 110 yX11_dims ∈ xW := xW_of (xtb3 (List.mem_of_getElem? (i := 186) rfl)) rfl
theorem xw722 : Cond.instanceMethod yX11_dims ∈ xW := xW_of (xtb3 (List.mem_of_getElem? (i := 187) rfl)) rfl
theorem xw723 : Cond.selects RX11 yX11_dims yX11_dims ∈ xW := xW_of (xtb3 (List.mem_of_getElem? (i := 188) rfl)) rfl
theorem xw724 : Cond.code yX11_dims cX11_dims 10 (some .int) ∈ xW := xW_of (xtb3 (List.mem_of_getElem? (i := 189) rfl)) rfl
theorem kv_L_110 : xKv RL 110 yX11_dims cX11_dims 10 (some .int) 3 := ⟨xw721, xw722, xw723, xw56, xw724, ⟨by decide +kernel, by decide +kernel, by decide +kernel⟩⟩
theorem xw1189 : Cond.methodLink RL 113 yX12_dims ∈ xW := xW_of (xtb5 (List.mem_of_getElem? (i := 174) rfl)) rfl
theorem xw1190 : Cond.instanceMethod yX12_dims ∈ xW := xW_of (xtb5 (List.mem_of_getElem? (i := 175) rfl)) rfl
theorem xw1191 : Cond.selects RX12 yX12_dims yX12_dims ∈ xW := xW_of (xtb5 (List.mem_of_getElem? (i := 176) rfl)) rfl
theorem xw1192 : Cond.code yX12_dims cX12_dims 9 (some .int) ∈ xW := xW_of (xtb5 (List.mem_of_getElem? (i := 177) rfl)) rfl
theorem kv_L_113 : xKv RL 113 yX12_dims cX12_dims 9 (some .int) 3 := ⟨xw1189, xw1190, xw1191, xw68, xw1192, ⟨by decide +kernel, by decide +kernel, by decide +kernel⟩⟩
theorem xw740 : Cond.methodLink RL 114 yX11_laws ∈ xW := xW_of (xtb3 (List.mem_of_getElem? (i := 205) rfl)) rfl
theorem xw741 : Cond.instanceMethod yX11_laws ∈ xW := xW_of (xtb3 (List.mem_of_getElem? (i := 206) rfl)) rfl
theorem xw742 : Cond.selects RX11 yX11_laws yX11_laws ∈ xW := xW_of (xtb3 (List.mem_of_getElem? (i := 207) rfl)) rfl
theorem xw743 : Cond.code yX11_laws cX11_laws 6 (some .int) ∈ xW := xW_of (xtb3 (List.mem_of_getElem? (i := 208) rfl)) rfl
theorem kv_L_114 : xKv RL 114 yX11_laws cX11_laws 6 (some .int) 2 := ⟨xw740, xw741, xw742, xw56, xw743, ⟨by decide +kernel, by decide +kernel, by decide +kernel⟩⟩
theorem xw1197 : Cond.methodLink RL 117 yX12_laws ∈ xW := xW_of (xtb5 (List.mem_of_getElem? (i := 182) rfl)) rfl
theorem xw1198 : Cond.instanceMethod yX12_laws ∈ xW := xW_of (xtb5 (List.mem_of_getElem? (i := 183) rfl)) rfl
theorem xw1199 : Cond.selects RX12 yX12_laws yX12_laws ∈ xW := xW_of (xtb5 (List.mem_of_getElem? (i := 184) rfl)) rfl
theorem xw1200 : Cond.code yX12_laws cX12_laws 7 (some .int) ∈ xW := xW_of (xtb5 (List.mem_of_getElem? (i := 185) rfl)) rfl
theorem kv_L_117 : xKv RL 117 yX12_laws cX12_laws 7 (some .int) 2 := ⟨xw1197, xw1198, xw1199, xw68, xw1200, ⟨by decide +kernel, by decide +kernel, by decide +kernel⟩⟩
theorem xw744 : Cond.methodLink RL 118 yX11_guess ∈ xW := xW_of (xtb3 (List.mem_of_getElem? (i := 209) rfl)) rfl
theorem xw745 : Cond.instanceMethod yX11_guess ∈ xW := xW_of (xtb3 (List.mem_of_getElem? (i := 210) rfl)) rfl
theorem xw746 : Cond.selects RX11 yX11_guess yX11_guess ∈ xW := xW_of (xtb3 (List.mem_of_getElem? (i := 211) rfl)) rfl
theorem xw747 : Cond.code yX11_guess cX11_guess 8 (some .int) ∈ xW := xW_of (xtb3 (List.mem_of_getElem? (i := 212) rfl)) rfl
theorem kv_L_118 : xKv RL 118 yX11_guess cX11_guess 8 (some .int) 3 := ⟨xw744, xw745, xw746, xw56, xw747, ⟨by decide +kernel, by decide +kernel, by decide +kernel⟩⟩
theorem xw1201 : Cond.methodLink RL 121 yX12_guess ∈ xW := xW_of (xtb5 (List.mem_of_getElem? (i := 186) rfl)) rfl
theorem xw1202 : Cond.instanceMethod yX12_guess ∈ xW := xW_of (xtb5 (List.mem_of_getElem? (i := 187) rfl)) rfl
theorem xw1203 : Cond.selects RX12 yX12_guess yX12_guess ∈ xW := xW_of (xtb5 (List.mem_of_getElem? (i := 188) rfl)) rfl
theorem xw1204 : Cond.code yX12_guess cX12_guess 8 (some .int) ∈ xW := xW_of (xtb5 (List.mem_of_getElem? (i := 189) rfl)) rfl
theorem kv_L_121 : xKv RL 121 yX12_guess cX12_guess 8 (some .int) 3 := ⟨xw1201, xw1202, xw1203, xw68, xw1204, ⟨by decide +kernel, by decide +kernel, by decide +kernel⟩⟩
theorem xw748 : Cond.methodLink RL 122 yX11_film ∈ xW := xW_of (xtb3 (List.mem_of_getElem? (i := 213) rfl)) rfl
theorem xw749 : Cond.instanceMethod yX11_film ∈ xW := xW_of (xtb3 (List.mem_of_getElem? (i := 214) rfl)) rfl
theorem xw750 : Cond.selects RX11 yX11_film yX11_film ∈ xW := xW_of (xtb3 (List.mem_of_getElem? (i := 215) rfl)) rfl
theorem xw751 : Cond.code yX11_film cX11_film 6 (some .int) ∈ xW := xW_of (xtb3 (List.mem_of_getElem? (i := 216) rfl)) rfl
theorem kv_L_122 : xKv RL 122 yX11_film cX11_film 6 (some .int) 3 := ⟨xw748, xw749, xw750, xw56, xw751, ⟨by decide +kernel, by decide +kernel, by decide +kernel⟩⟩
theorem xw1205 : Cond.methodLink RL 125 yX12_film ∈ xW := xW_of (xtb5 (List.mem_of_getElem? (i := 190) rfl)) rfl
theorem xw1206 : Cond.instanceMethod yX12_film ∈ xW := xW_of (xtb5 (List.mem_of_getElem? (i := 191) rfl)) rfl
theorem xw1207 : Cond.selects RX12 yX12_film yX12_film ∈ xW := xW_of (xtb5 (List.mem_of_getElem? (i := 192) rfl)) rfl
theorem xw1208 : Cond.code yX12_film cX12_film 5 (some .int) ∈ xW := xW_of (xtb5 (List.mem_of_getElem? (i := 193) rfl)) rfl
theorem kv_L_125 : xKv RL 125 yX12_film cX12_film 5 (some .int) 3 := ⟨xw1205, xw1206, xw1207, xw68, xw1208, ⟨by decide +kernel, by decide +kernel, by decide +kernel⟩⟩
theorem xw763 : Cond.methodLink RL 126 yX11_drawn ∈ xW := xW_of (xtb3 (List.mem_of_getElem? (i := 228) rfl)) rfl
theorem xw764 : Cond.instanceMethod yX11_drawn ∈ xW := xW_of (xtb3 (List.mem_of_getElem? (i := 229) rfl)) rfl
theorem xw765 : Cond.selects RX11 yX11_drawn yX11_drawn ∈ xW := xW_of (xtb3 (List.mem_of_getElem? (i := 230) rfl)) rfl
theorem xw766 : Cond.code yX11_drawn cX11_drawn 3 (some .int) ∈ xW := xW_of (xtb3 (List.mem_of_getElem? (i := 231) rfl)) rfl
theorem kv_L_126 : xKv RL 126 yX11_drawn cX11_drawn 3 (some .int) 2 := ⟨xw763, xw764, xw765, xw56, xw766, ⟨by decide +kernel, by decide +kernel, by decide +kernel⟩⟩
theorem xw1209 : Cond.methodLink RL 129 yX12_drawn ∈ xW := xW_of (xtb5 (List.mem_of_getElem? (i := 194) rfl)) rfl
theorem xw1210 : Cond.instanceMethod yX12_drawn ∈ xW := xW_of (xtb5 (List.mem_of_getElem? (i := 195) rfl)) rfl
theorem xw1211 : Cond.selects RX12 yX12_drawn yX12_drawn ∈ xW := xW_of (xtb5 (List.mem_of_getElem? (i := 196) rfl)) rfl
theorem xw1212 : Cond.code yX12_drawn cX12_drawn 3 (some .int) ∈ xW := xW_of (xtb5 (List.mem_of_getElem? (i := 197) rfl)) rfl
theorem kv_L_129 : xKv RL 129 yX12_drawn cX12_drawn 3 (some .int) 2 := ⟨xw1209, xw1210, xw1211, xw68, xw1212, ⟨by decide +kernel, by decide +kernel, by decide +kernel⟩⟩
theorem xw775 : Cond.methodLink RL 130 yX11_odds ∈ xW := xW_of (xtb4 (List.mem_of_getElem? (i := 0) rfl)) rfl
theorem xw776 : Cond.instanceMethod yX11_odds ∈ xW := xW_of (xtb4 (List.mem_of_getElem? (i := 1) rfl)) rfl
theorem xw777 : Cond.selects RX11 yX11_odds yX11_odds ∈ xW := xW_of (xtb4 (List.mem_of_getElem? (i := 2) rfl)) rfl
theorem xw778 : Cond.code yX11_odds cX11_odds 10 (some .long) ∈ xW := xW_of (xtb4 (List.mem_of_getElem? (i := 3) rfl)) rfl
theorem kv_L_130 : xKv RL 130 yX11_odds cX11_odds 10 (some .long) 5 := ⟨xw775, xw776, xw777, xw56, xw778, ⟨by decide +kernel, by decide +kernel, by decide +kernel⟩⟩
theorem xw1221 : Cond.methodLink RL 134 yX12_odds ∈ xW := xW_of (xtb5 (List.mem_of_getElem? (i := 206) rfl)) rfl
theorem xw1222 : Cond.instanceMethod yX12_odds ∈ xW := xW_of (xtb5 (List.mem_of_getElem? (i := 207) rfl)) rfl
theorem xw1223 : Cond.selects RX12 yX12_odds yX12_odds ∈ xW := xW_of (xtb5 (List.mem_of_getElem? (i := 208) rfl)) rfl
theorem xw1224 : Cond.code yX12_odds cX12_odds 10 (some .long) ∈ xW := xW_of (xtb5 (List.mem_of_getElem? (i := 209) rfl)) rfl
theorem kv_L_134 : xKv RL 134 yX12_odds cX12_odds 10 (some .long) 5 := ⟨xw1221, xw1222, xw1223, xw68, xw1224, ⟨by decide +kernel, by decide +kernel, by decide +kernel⟩⟩
theorem xw780 : Cond.methodLink RL 135 yX11_image ∈ xW := xW_of (xtb4 (List.mem_of_getElem? (i := 5) rfl)) rfl
theorem xw781 : Cond.instanceMethod yX11_image ∈ xW := xW_of (xtb4 (List.mem_of_getElem? (i := 6) rfl)) rfl
theorem xw782 : Cond.selects RX11 yX11_image yX11_image ∈ xW := xW_of (xtb4 (List.mem_of_getElem? (i := 7) rfl)) rfl
theorem xw783 : Cond.code yX11_image cX11_image 2 (some .int) ∈ xW := xW_of (xtb4 (List.mem_of_getElem? (i := 8) rfl)) rfl
theorem kv_L_135 : xKv RL 135 yX11_image cX11_image 2 (some .int) 0 := ⟨xw780, xw781, xw782, xw56, xw783, ⟨by decide +kernel, by decide +kernel, by decide +kernel⟩⟩
theorem xw1229 : Cond.methodLink RL 138 yX12_image ∈ xW := xW_of (xtb5 (List.mem_of_getElem? (i := 214) rfl)) rfl
theorem xw1230 : Cond.instanceMethod yX12_image ∈ xW := xW_of (xtb5 (List.mem_of_getElem? (i := 215) rfl)) rfl
theorem xw1231 : Cond.selects RX12 yX12_image yX12_image ∈ xW := xW_of (xtb5 (List.mem_of_getElem? (i := 216) rfl)) rfl
theorem xw1232 : Cond.code yX12_image cX12_image 2 (some .int) ∈ xW := xW_of (xtb5 (List.mem_of_getElem? (i := 217) rfl)) rfl
theorem kv_L_138 : xKv RL 138 yX12_image cX12_image 2 (some .int) 0 := ⟨xw1229, xw1230, xw1231, xw68, xw1232, ⟨by decide +kernel, by decide +kernel, by decide +kernel⟩⟩
theorem xw784 : Cond.methodLink RL 139 yX11_back ∈ xW := xW_of (xtb4 (List.mem_of_getElem? (i := 9) rfl)) rfl
theorem xw785 : Cond.instanceMethod yX11_back ∈ xW := xW_of (xtb4 (List.mem_of_getElem? (i := 10) rfl)) rfl
theorem xw786 : Cond.selects RX11 yX11_back yX11_back ∈ xW := xW_of (xtb4 (List.mem_of_getElem? (i := 11) rfl)) rfl
theorem xw787 : Cond.code yX11_back cX11_back 2 (some .int) ∈ xW := xW_of (xtb4 (List.mem_of_getElem? (i := 12) rfl)) rfl
theorem kv_L_139 : xKv RL 139 yX11_back cX11_back 2 (some .int) 0 := ⟨xw784, xw785, xw786, xw56, xw787, ⟨by decide +kernel, by decide +kernel, by decide +kernel⟩⟩
theorem xw1233 : Cond.methodLink RL 142 yX12_back ∈ xW := xW_of (xtb5 (List.mem_of_getElem? (i := 218) rfl)) rfl
theorem xw1234 : Cond.instanceMethod yX12_back ∈ xW := xW_of (xtb5 (List.mem_of_getElem? (i := 219) rfl)) rfl
theorem xw1235 : Cond.selects RX12 yX12_back yX12_back ∈ xW := xW_of (xtb5 (List.mem_of_getElem? (i := 220) rfl)) rfl
theorem xw1236 : Cond.code yX12_back cX12_back 2 (some .int) ∈ xW := xW_of (xtb5 (List.mem_of_getElem? (i := 221) rfl)) rfl
theorem kv_L_142 : xKv RL 142 yX12_back cX12_back 2 (some .int) 0 := ⟨xw1233, xw1234, xw1235, xw68, xw1236, ⟨by decide +kernel, by decide +kernel, by decide +kernel⟩⟩
theorem xw788 : Cond.methodLink RL 143 yX11_sheet ∈ xW := xW_of (xtb4 (List.mem_of_getElem? (i := 13) rfl)) rfl
theorem xw789 : Cond.instanceMethod yX11_sheet ∈ xW := xW_of (xtb4 (List.mem_of_getElem? (i := 14) rfl)) rfl
theorem xw790 : Cond.selects RX11 yX11_sheet yX11_sheet ∈ xW := xW_of (xtb4 (List.mem_of_getElem? (i := 15) rfl)) rfl
theorem xw791 : Cond.code yX11_sheet cX11_sheet 5 (some .int) ∈ xW := xW_of (xtb4 (List.mem_of_getElem? (i := 16) rfl)) rfl
theorem kv_L_143 : xKv RL 143 yX11_sheet cX11_sheet 5 (some .int) 3 := ⟨xw788, xw789, xw790, xw56, xw791, ⟨by decide +kernel, by decide +kernel, by decide +kernel⟩⟩
theorem xw1237 : Cond.methodLink RL 146 yX12_sheet ∈ xW := xW_of (xtb5 (List.mem_of_getElem? (i := 222) rfl)) rfl
theorem xw1238 : Cond.instanceMethod yX12_sheet ∈ xW := xW_of (xtb5 (List.mem_of_getElem? (i := 223) rfl)) rfl
theorem xw1239 : Cond.selects RX12 yX12_sheet yX12_sheet ∈ xW := xW_of (xtb5 (List.mem_of_getElem? (i := 224) rfl)) rfl
theorem xw1240 : Cond.code yX12_sheet cX12_sheet 5 (some .int) ∈ xW := xW_of (xtb5 (List.mem_of_getElem? (i := 225) rfl)) rfl
theorem kv_L_146 : xKv RL 146 yX12_sheet cX12_sheet 5 (some .int) 3 := ⟨xw1237, xw1238, xw1239, xw68, xw1240, ⟨by decide +kernel, by decide +kernel, by decide +kernel⟩⟩
theorem xw792 : Cond.methodLink RL 147 yX11_cell ∈ xW := xW_of (xtb4 (List.mem_of_getElem? (i := 17) rfl)) rfl
theorem xw793 : Cond.instanceMethod yX11_cell ∈ xW := xW_of (xtb4 (List.mem_of_getElem? (i := 18) rfl)) rfl
theorem xw794 : Cond.selects RX11 yX11_cell yX11_cell ∈ xW := xW_of (xtb4 (List.mem_of_getElem? (i := 19) rfl)) rfl
theorem xw795 : Cond.code yX11_cell cX11_cell 4 (some .int) ∈ xW := xW_of (xtb4 (List.mem_of_getElem? (i := 20) rfl)) rfl
theorem kv_L_147 : xKv RL 147 yX11_cell cX11_cell 4 (some .int) 3 := ⟨xw792, xw793, xw794, xw56, xw795, ⟨by decide +kernel, by decide +kernel, by decide +kernel⟩⟩
theorem xw1241 : Cond.methodLink RL 150 yX12_cell ∈ xW := xW_of (xtb5 (List.mem_of_getElem? (i := 226) rfl)) rfl
theorem xw1242 : Cond.instanceMethod yX12_cell ∈ xW := xW_of (xtb5 (List.mem_of_getElem? (i := 227) rfl)) rfl
theorem xw1243 : Cond.selects RX12 yX12_cell yX12_cell ∈ xW := xW_of (xtb5 (List.mem_of_getElem? (i := 228) rfl)) rfl
theorem xw1244 : Cond.code yX12_cell cX12_cell 4 (some .int) ∈ xW := xW_of (xtb5 (List.mem_of_getElem? (i := 229) rfl)) rfl
theorem kv_L_150 : xKv RL 150 yX12_cell cX12_cell 4 (some .int) 3 := ⟨xw1241, xw1242, xw1243, xw68, xw1244, ⟨by decide +kernel, by decide +kernel, by decide +kernel⟩⟩
theorem xw796 : Cond.methodLink RL 151 yX11_copy ∈ xW := xW_of (xtb4 (List.mem_of_getElem? (i := 21) rfl)) rfl
theorem xw797 : Cond.instanceMethod yX11_copy ∈ xW := xW_of (xtb4 (List.mem_of_getElem? (i := 22) rfl)) rfl
theorem xw798 : Cond.selects RX11 yX11_copy yX11_copy ∈ xW := xW_of (xtb4 (List.mem_of_getElem? (i := 23) rfl)) rfl
theorem xw799 : Cond.code yX11_copy cX11_copy 8 (some .int) ∈ xW := xW_of (xtb4 (List.mem_of_getElem? (i := 24) rfl)) rfl
theorem kv_L_151 : xKv RL 151 yX11_copy cX11_copy 8 (some .int) 5 := ⟨xw796, xw797, xw798, xw56, xw799, ⟨by decide +kernel, by decide +kernel, by decide +kernel⟩⟩
theorem xw1245 : Cond.methodLink RL 155 yX12_copy ∈ xW := xW_of (xtb5 (List.mem_of_getElem? (i := 230) rfl)) rfl
theorem xw1246 : Cond.instanceMethod yX12_copy ∈ xW := xW_of (xtb5 (List.mem_of_getElem? (i := 231) rfl)) rfl
theorem xw1247 : Cond.selects RX12 yX12_copy yX12_copy ∈ xW := xW_of (xtb5 (List.mem_of_getElem? (i := 232) rfl)) rfl
theorem xw1248 : Cond.code yX12_copy cX12_copy 10 (some .int) ∈ xW := xW_of (xtb5 (List.mem_of_getElem? (i := 233) rfl)) rfl
theorem kv_L_155 : xKv RL 155 yX12_copy cX12_copy 10 (some .int) 5 := ⟨xw1245, xw1246, xw1247, xw68, xw1248, ⟨by decide +kernel, by decide +kernel, by decide +kernel⟩⟩
theorem xw805 : Cond.methodLink RL 156 yX11_sleepersBy ∈ xW := xW_of (xtb4 (List.mem_of_getElem? (i := 30) rfl)) rfl
theorem xw806 : Cond.instanceMethod yX11_sleepersBy ∈ xW := xW_of (xtb4 (List.mem_of_getElem? (i := 31) rfl)) rfl
theorem xw807 : Cond.selects RX11 yX11_sleepersBy yX11_sleepersBy ∈ xW := xW_of (xtb4 (List.mem_of_getElem? (i := 32) rfl)) rfl
theorem xw808 : Cond.code yX11_sleepersBy cX11_sleepersBy 9 (some .int) ∈ xW := xW_of (xtb4 (List.mem_of_getElem? (i := 33) rfl)) rfl
theorem kv_L_156 : xKv RL 156 yX11_sleepersBy cX11_sleepersBy 9 (some .int) 4 := ⟨xw805, xw806, xw807, xw56, xw808, ⟨by decide +kernel, by decide +kernel, by decide +kernel⟩⟩
theorem xw1249 : Cond.methodLink RL 160 yX12_sleepersBy ∈ xW := xW_of (xtb5 (List.mem_of_getElem? (i := 234) rfl)) rfl
theorem xw1250 : Cond.instanceMethod yX12_sleepersBy ∈ xW := xW_of (xtb5 (List.mem_of_getElem? (i := 235) rfl)) rfl
theorem xw1251 : Cond.selects RX12 yX12_sleepersBy yX12_sleepersBy ∈ xW := xW_of (xtb5 (List.mem_of_getElem? (i := 236) rfl)) rfl
theorem xw1252 : Cond.code yX12_sleepersBy cX12_sleepersBy 9 (some .int) ∈ xW := xW_of (xtb5 (List.mem_of_getElem? (i := 237) rfl)) rfl
theorem kv_L_160 : xKv RL 160 yX12_sleepersBy cX12_sleepersBy 9 (some .int) 4 := ⟨xw1249, xw1250, xw1251, xw68, xw1252, ⟨by decide +kernel, by decide +kernel, by decide +kernel⟩⟩
theorem xw810 : Cond.methodLink RL 161 yX11_taken ∈ xW := xW_of (xtb4 (List.mem_of_getElem? (i := 35) rfl)) rfl
theorem xw811 : Cond.instanceMethod yX11_taken ∈ xW := xW_of (xtb4 (List.mem_of_getElem? (i := 36) rfl)) rfl
theorem xw812 : Cond.selects RX11 yX11_taken yX11_taken ∈ xW := xW_of (xtb4 (List.mem_of_getElem? (i := 37) rfl)) rfl
theorem xw813 : Cond.code yX11_taken cX11_taken 3 (some .int) ∈ xW := xW_of (xtb4 (List.mem_of_getElem? (i := 38) rfl)) rfl
theorem kv_L_161 : xKv RL 161 yX11_taken cX11_taken 3 (some .int) 2 := ⟨xw810, xw811, xw812, xw56, xw813, ⟨by decide +kernel, by decide +kernel, by decide +kernel⟩⟩
theorem xw1254 : Cond.methodLink RL 164 yX12_taken ∈ xW := xW_of (xtb5 (List.mem_of_getElem? (i := 239) rfl)) rfl
theorem xw1255 : Cond.instanceMethod yX12_taken ∈ xW := xW_of (xtb6 (List.mem_of_getElem? (i := 0) rfl)) rfl
theorem xw1256 : Cond.selects RX12 yX12_taken yX12_taken ∈ xW := xW_of (xtb6 (List.mem_of_getElem? (i := 1) rfl)) rfl
theorem xw1257 : Cond.code yX12_taken cX12_taken 3 (some .int) ∈ xW := xW_of (xtb6 (List.mem_of_getElem? (i := 2) rfl)) rfl
theorem kv_L_164 : xKv RL 164 yX12_taken cX12_taken 3 (some .int) 2 := ⟨xw1254, xw1255, xw1256, xw68, xw1257, ⟨by decide +kernel, by decide +kernel, by decide +kernel⟩⟩
theorem xw167 : Cond.arrayClass .int ∈ xW := xW_of (xtb1 (List.mem_of_getElem? (i := 112) rfl)) rfl
theorem xw_ai : Cond.arrayClass .int ∈ xW := xw167
