set_option maxRecDepth 20000 in
theorem inF_X2 : ∀ w ∈ u_ws RX2 TX2 9, w ∈ gT := gT_u [315, 317, 319, 321, 323, 325, 327, 329, 331] (by decide +kernel) (by decide +kernel)
set_option maxRecDepth 20000 in
theorem inF_X3 : ∀ w ∈ u_ws RX3 TX3 5, w ∈ gT := gT_u [182, 184, 186, 188, 190] (by decide +kernel) (by decide +kernel)
set_option maxRecDepth 20000 in
theorem inF_X11 : ∀ w ∈ u_ws RX11 TX11 14, w ∈ gT := gT_u [535, 537, 539, 541, 543, 545, 547, 549, 551, 553, 555, 557, 559, 561] (by decide +kernel) (by decide +kernel)
theorem bw_0 : Cond.fieldLink RX3 25 "DuelDelays$Men" "count" "I" ∈ gT := gT_tb 164 (by decide +kernel) (by decide +kernel)
theorem bw_1 : Cond.code yX3_has cX3_has 2 (some .boolean) ∈ gT := gT_tb 846 (by decide +kernel) (by decide +kernel)
theorem bw_2 : Cond.fieldLink RX11 23 "DuelDelays" "land" "LDuelDelays$Land;" ∈ gT := gT_tb 524 (by decide +kernel) (by decide +kernel)
theorem bw_3 : Cond.fieldLink RX11 97 "DuelDelays$Land" "men" "LDuelDelays$Men;" ∈ gT := gT_tb 288 (by decide +kernel) (by decide +kernel)
theorem bw_4 : Cond.methodLink RX11 112 yX3_has ∈ gT := gT_tb 843 (by decide +kernel) (by decide +kernel)
theorem bw_5 : Cond.instanceMethod yX3_has ∈ gT := gT_tb 844 (by decide +kernel) (by decide +kernel)
theorem bw_6 : Cond.selects RX3 yX3_has yX3_has ∈ gT := gT_tb 845 (by decide +kernel) (by decide +kernel)
theorem bw_7 : Cond.initialized RX3 ∈ gT := gT_tb 9 (by decide +kernel) (by decide +kernel)
theorem bw_8 : Cond.code yX11_man cX11_man 4 (some .int) ∈ gT := gT_tb 842 (by decide +kernel) (by decide +kernel)
