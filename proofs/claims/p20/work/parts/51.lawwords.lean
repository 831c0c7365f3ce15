set_option maxRecDepth 20000 in
theorem wt_0_in : ∀ w ∈ wsX00, w ∈ lw_tbl := mem_r [162, 164, 166, 168, 170, 172, 174, 176, 178, 180, 182] (by decide +kernel)
set_option maxRecDepth 20000 in
theorem wt_1_in : ∀ w ∈ wsX10, w ∈ lw_tbl := mem_r [198, 200, 202, 204, 206, 208, 210, 212] (by decide +kernel)
set_option maxRecDepth 20000 in
theorem wt_2_in : ∀ w ∈ wsX20, w ∈ lw_tbl := mem_r [242, 244, 246, 248, 250, 252, 254, 256, 258] (by decide +kernel)
set_option maxRecDepth 20000 in
theorem wt_3_in : ∀ w ∈ wsX30, w ∈ lw_tbl := mem_r [110, 112, 114] (by decide +kernel)
set_option maxRecDepth 20000 in
theorem wt_4_in : ∀ w ∈ wsX40, w ∈ lw_tbl := mem_r [265, 267, 269, 271] (by decide +kernel)
set_option maxRecDepth 20000 in
theorem wt_5_in : ∀ w ∈ wsX50, w ∈ lw_tbl := mem_r [793, 795, 797, 799, 801, 803, 805, 807, 809, 811, 813, 815, 817, 819, 821, 823, 825, 827, 829, 831, 833, 835, 837, 839, 841, 843, 845, 847, 849, 851, 853, 855, 857, 859, 861, 863] (by decide +kernel)
set_option maxRecDepth 20000 in
theorem tb_X3_removeAll : ∀ w ∈ v_X3_removeAll, w ∈ lw_tbl := mem_c (List.mem_of_getElem? (i := 281) (by decide +kernel)) (mem_app (mem_r [107] (by decide +kernel)) wt_3_in)
set_option maxRecDepth 20000 in
theorem tb_X2_forget : ∀ w ∈ v_X2_forget, w ∈ lw_tbl := mem_c (List.mem_of_getElem? (i := 224) (by decide +kernel)) (mem_app (mem_r [225, 227, 229, 231, 233] (by decide +kernel)) wt_2_in)
set_option maxRecDepth 20000 in
theorem tb_X4_programChanged : ∀ w ∈ v_X4_programChanged, w ∈ lw_tbl := mem_c (List.mem_of_getElem? (i := 285) (by decide +kernel)) (mem_app (mem_r [262, 190, 263, 286, 222, 223, 82] (by decide +kernel)) (mem_app wt_4_in (mem_app wt_1_in tb_X2_forget)))
set_option maxRecDepth 20000 in
theorem tb_X4_clear : ∀ w ∈ v_X4_clear, w ∈ lw_tbl := mem_c (List.mem_of_getElem? (i := 277) (by decide +kernel)) (mem_app (mem_r [261, 108, 278, 279, 280, 79, 282, 284, 0, 78] (by decide +kernel)) (mem_app wt_4_in (mem_app wt_3_in (mem_app tb_X3_removeAll tb_X4_programChanged))))
set_option maxRecDepth 20000 in
theorem tb_X5_forget : ∀ w ∈ v_X5_forget, w ∈ lw_tbl := mem_c (List.mem_of_getElem? (i := 756) (by decide +kernel)) (mem_app (mem_r [779, 780, 781, 782, 783] (by decide +kernel)) wt_5_in)
set_option maxRecDepth 20000 in
theorem tb_X5_clear : ∀ w ∈ v_X5_clear, w ∈ lw_tbl := mem_c (List.mem_of_getElem? (i := 869) (by decide +kernel)) (mem_app (mem_r [757, 753, 755, 34, 83] (by decide +kernel)) (mem_app wt_5_in tb_X5_forget))
set_option maxRecDepth 20000 in
theorem tb_X4_isVariable : ∀ w ∈ v_X4_isVariable, w ∈ lw_tbl := mem_c (List.mem_of_getElem? (i := 296) (by decide +kernel)) (mem_app (mem_n) mem_n)
set_option maxRecDepth 20000 in
theorem tb_X4_isNumber : ∀ w ∈ v_X4_isNumber, w ∈ lw_tbl := mem_c (List.mem_of_getElem? (i := 299) (by decide +kernel)) (mem_app (mem_r [300, 301] (by decide +kernel)) mem_n)
set_option maxRecDepth 20000 in
theorem tb_X4_isReference : ∀ w ∈ v_X4_isReference, w ∈ lw_tbl := mem_c (List.mem_of_getElem? (i := 304) (by decide +kernel)) (mem_app (mem_n) mem_n)
set_option maxRecDepth 20000 in
theorem tb_X4_isLane : ∀ w ∈ v_X4_isLane, w ∈ lw_tbl := mem_c (List.mem_of_getElem? (i := 307) (by decide +kernel)) (mem_app (mem_n) mem_n)
set_option maxRecDepth 20000 in
theorem tb_X3_isAct : ∀ w ∈ v_X3_isAct, w ∈ lw_tbl := mem_c (List.mem_of_getElem? (i := 293) (by decide +kernel)) (mem_app (mem_r [78, 295, 298, 303, 306] (by decide +kernel)) (mem_app tb_X4_isVariable (mem_app tb_X4_isNumber (mem_app tb_X4_isReference tb_X4_isLane))))
set_option maxRecDepth 20000 in
theorem tb_X3_append : ∀ w ∈ v_X3_append, w ∈ lw_tbl := mem_c (List.mem_of_getElem? (i := 311) (by decide +kernel)) (mem_app (mem_r [107, 102, 103] (by decide +kernel)) wt_3_in)
set_option maxRecDepth 20000 in
theorem tb_X4_act : ∀ w ∈ v_X4_act, w ∈ lw_tbl := mem_c (List.mem_of_getElem? (i := 290) (by decide +kernel)) (mem_app (mem_r [291, 292, 79, 261, 108, 308, 309, 310, 282, 284, 0, 78] (by decide +kernel)) (mem_app wt_4_in (mem_app wt_3_in (mem_app tb_X3_isAct (mem_app tb_X3_append tb_X4_programChanged)))))
set_option maxRecDepth 20000 in
theorem tb_X5_isName : ∀ w ∈ v_X5_isName, w ∈ lw_tbl := mem_c (List.mem_of_getElem? (i := 879) (by decide +kernel)) (mem_app (mem_n) mem_n)
set_option maxRecDepth 20000 in
theorem tb_X5_isNumber : ∀ w ∈ v_X5_isNumber, w ∈ lw_tbl := mem_c (List.mem_of_getElem? (i := 882) (by decide +kernel)) (mem_app (mem_r [883, 884] (by decide +kernel)) mem_n)
set_option maxRecDepth 20000 in
theorem tb_X5_isLane : ∀ w ∈ v_X5_isLane, w ∈ lw_tbl := mem_c (List.mem_of_getElem? (i := 887) (by decide +kernel)) (mem_app (mem_n) mem_n)
set_option maxRecDepth 20000 in
theorem tb_X5_isAct : ∀ w ∈ v_X5_isAct, w ∈ lw_tbl := mem_c (List.mem_of_getElem? (i := 876) (by decide +kernel)) (mem_app (mem_r [877, 878, 83, 880, 881, 885, 886] (by decide +kernel)) (mem_app tb_X5_isName (mem_app tb_X5_isNumber tb_X5_isLane)))
set_option maxRecDepth 20000 in
theorem tb_X5_act : ∀ w ∈ v_X5_act, w ∈ lw_tbl := mem_c (List.mem_of_getElem? (i := 873) (by decide +kernel)) (mem_app (mem_r [874, 875, 83, 757, 758, 759, 760, 761, 762, 763, 764, 753, 755, 34] (by decide +kernel)) (mem_app wt_5_in (mem_app tb_X5_isAct tb_X5_forget)))
set_option maxRecDepth 20000 in
theorem tb_X3_hasAct : ∀ w ∈ v_X3_hasAct, w ∈ lw_tbl := mem_c (List.mem_of_getElem? (i := 319) (by decide +kernel)) (mem_app (mem_r [107] (by decide +kernel)) wt_3_in)
set_option maxRecDepth 20000 in
theorem tb_X4_drop : ∀ w ∈ v_X4_drop, w ∈ lw_tbl := mem_c (List.mem_of_getElem? (i := 315) (by decide +kernel)) (mem_app (mem_r [261, 316, 317, 318, 79, 106, 282, 284, 0, 78] (by decide +kernel)) (mem_app wt_4_in (mem_app wt_3_in (mem_app tb_X3_hasAct tb_X4_programChanged))))
set_option maxRecDepth 20000 in
theorem tb_X5_drop : ∀ w ∈ v_X5_drop, w ∈ lw_tbl := mem_c (List.mem_of_getElem? (i := 891) (by decide +kernel)) (mem_app (mem_r [757, 764, 753, 755, 34, 83] (by decide +kernel)) (mem_app wt_5_in tb_X5_forget))
set_option maxRecDepth 20000 in
theorem tb_X0_setSpan : ∀ w ∈ v_X0_setSpan, w ∈ lw_tbl := mem_c (List.mem_of_getElem? (i := 335) (by decide +kernel)) (mem_app (mem_r [134, 137] (by decide +kernel)) wt_0_in)
set_option maxRecDepth 20000 in
theorem tb_X0_begin : ∀ w ∈ v_X0_begin, w ∈ lw_tbl := mem_c (List.mem_of_getElem? (i := 331) (by decide +kernel)) (mem_app (mem_r [131, 332, 333, 334, 81, 140, 143, 146] (by decide +kernel)) (mem_app wt_0_in tb_X0_setSpan))
set_option maxRecDepth 20000 in
theorem tb_X0_addArray2 : ∀ w ∈ v_X0_addArray2, w ∈ lw_tbl := mem_c (List.mem_of_getElem? (i := 430) (by decide +kernel)) (mem_app (mem_r [146, 148, 150, 153, 156, 159, 395, 396, 85, 397, 392, 393, 394] (by decide +kernel)) wt_0_in)
set_option maxRecDepth 20000 in
theorem tb_X0_takeOver : ∀ w ∈ v_X0_takeOver, w ∈ lw_tbl := mem_c (List.mem_of_getElem? (i := 344) (by decide +kernel)) (mem_app (mem_r [131, 134, 345, 347, 346, 84, 137, 140, 143, 146, 148, 150, 153, 156, 159] (by decide +kernel)) wt_0_in)
set_option maxRecDepth 20000 in
theorem tb_X0_joinWith : ∀ w ∈ v_X0_joinWith, w ∈ lw_tbl := mem_c (List.mem_of_getElem? (i := 546) (by decide +kernel)) (mem_app (mem_r [131, 134, 395, 396, 85, 397, 137, 392, 393, 394, 140, 143, 146, 548, 428, 429, 81, 547, 342, 343] (by decide +kernel)) (mem_app wt_0_in (mem_app tb_X0_addArray2 tb_X0_takeOver)))
set_option maxRecDepth 20000 in
theorem tb_X3_kindOf : ∀ w ∈ v_X3_kindOf, w ∈ lw_tbl := mem_c (List.mem_of_getElem? (i := 340) (by decide +kernel)) (mem_app (mem_r [102] (by decide +kernel)) wt_3_in)
set_option maxRecDepth 20000 in
theorem tb_X3_b : ∀ w ∈ v_X3_b, w ∈ lw_tbl := mem_c (List.mem_of_getElem? (i := 351) (by decide +kernel)) (mem_app (mem_r [102] (by decide +kernel)) wt_3_in)
set_option maxRecDepth 20000 in
theorem tb_X3_a : ∀ w ∈ v_X3_a, w ∈ lw_tbl := mem_c (List.mem_of_getElem? (i := 359) (by decide +kernel)) (mem_app (mem_r [102] (by decide +kernel)) wt_3_in)
set_option maxRecDepth 20000 in
theorem tb_X3_c : ∀ w ∈ v_X3_c, w ∈ lw_tbl := mem_c (List.mem_of_getElem? (i := 363) (by decide +kernel)) (mem_app (mem_r [102] (by decide +kernel)) wt_3_in)
set_option maxRecDepth 20000 in
theorem tb_X3_d : ∀ w ∈ v_X3_d, w ∈ lw_tbl := mem_c (List.mem_of_getElem? (i := 367) (by decide +kernel)) (mem_app (mem_r [102] (by decide +kernel)) wt_3_in)
set_option maxRecDepth 20000 in
theorem tb_X3_e : ∀ w ∈ v_X3_e, w ∈ lw_tbl := mem_c (List.mem_of_getElem? (i := 371) (by decide +kernel)) (mem_app (mem_r [102] (by decide +kernel)) wt_3_in)
set_option maxRecDepth 20000 in
theorem tb_X0_setOutcome : ∀ w ∈ v_X0_setOutcome, w ∈ lw_tbl := mem_c (List.mem_of_getElem? (i := 376) (by decide +kernel)) (mem_app (mem_r [377, 379, 380, 332, 333, 334, 81, 378] (by decide +kernel)) tb_X0_setSpan)
set_option maxRecDepth 20000 in
theorem tb_X1_bitIf : ∀ w ∈ v_X1_bitIf, w ∈ lw_tbl := mem_c (List.mem_of_getElem? (i := 387) (by decide +kernel)) (mem_app (mem_n) mem_n)
set_option maxRecDepth 20000 in
theorem tb_X0_narrow : ∀ w ∈ v_X0_narrow, w ∈ lw_tbl := mem_c (List.mem_of_getElem? (i := 391) (by decide +kernel)) (mem_app (mem_r [134, 392, 393, 85, 394, 137, 395, 396, 397, 332, 333, 334, 81, 131] (by decide +kernel)) (mem_app wt_0_in tb_X0_setSpan))
set_option maxRecDepth 20000 in
theorem tb_X0_putSpan : ∀ w ∈ v_X0_putSpan, w ∈ lw_tbl := mem_c (List.mem_of_getElem? (i := 406) (by decide +kernel)) (mem_app (mem_r [392, 393, 85, 394, 156, 395, 396, 397, 159] (by decide +kernel)) wt_0_in)
set_option maxRecDepth 20000 in
theorem tb_X0_makeArray : ∀ w ∈ v_X0_makeArray, w ∈ lw_tbl := mem_c (List.mem_of_getElem? (i := 401) (by decide +kernel)) (mem_app (mem_r [146, 148, 150, 153, 402, 403, 404, 405, 81] (by decide +kernel)) (mem_app wt_0_in tb_X0_putSpan))
set_option maxRecDepth 20000 in
theorem tb_X0_setReference : ∀ w ∈ v_X0_setReference, w ∈ lw_tbl := mem_c (List.mem_of_getElem? (i := 410) (by decide +kernel)) (mem_app (mem_r [140, 143] (by decide +kernel)) wt_0_in)
set_option maxRecDepth 20000 in
theorem tb_X1_passNew : ∀ w ∈ v_X1_passNew, w ∈ lw_tbl := mem_c (List.mem_of_getElem? (i := 384) (by decide +kernel)) (mem_app (mem_r [186, 135, 385, 386, 80, 138, 388, 389, 390, 81, 132, 398, 399, 400, 407, 408, 409] (by decide +kernel)) (mem_app wt_1_in (mem_app wt_0_in (mem_app tb_X1_bitIf (mem_app tb_X0_narrow (mem_app tb_X0_makeArray tb_X0_setReference))))))
set_option maxRecDepth 20000 in
theorem tb_X1_nullBit : ∀ w ∈ v_X1_nullBit, w ∈ lw_tbl := mem_c (List.mem_of_getElem? (i := 418) (by decide +kernel)) (mem_app (mem_r [186, 144, 385, 386, 80] (by decide +kernel)) (mem_app wt_1_in (mem_app wt_0_in tb_X1_bitIf)))
set_option maxRecDepth 20000 in
theorem tb_X0_narrowReference : ∀ w ∈ v_X0_narrowReference, w ∈ lw_tbl := mem_c (List.mem_of_getElem? (i := 422) (by decide +kernel)) (mem_app (mem_r [423, 408, 409, 81, 131] (by decide +kernel)) (mem_app wt_0_in tb_X0_setReference))
set_option maxRecDepth 20000 in
theorem tb_X4_isIn : ∀ w ∈ v_X4_isIn, w ∈ lw_tbl := mem_c (List.mem_of_getElem? (i := 426) (by decide +kernel)) (mem_app (mem_n) mem_n)
set_option maxRecDepth 20000 in
theorem tb_X0_addArray : ∀ w ∈ v_X0_addArray, w ∈ lw_tbl := mem_c (List.mem_of_getElem? (i := 430) (by decide +kernel)) (mem_app (mem_r [146, 148, 150, 153, 156, 159, 395, 396, 85, 397, 392, 393, 394] (by decide +kernel)) wt_0_in)
set_option maxRecDepth 20000 in
theorem tb_X1_passClone : ∀ w ∈ v_X1_passClone, w ∈ lw_tbl := mem_c (List.mem_of_getElem? (i := 414) (by decide +kernel)) (mem_app (mem_r [415, 417, 4, 80, 186, 141, 419, 420, 421, 81, 132, 78, 425, 427, 428, 429, 407, 408, 409] (by decide +kernel)) (mem_app wt_1_in (mem_app wt_0_in (mem_app tb_X1_nullBit (mem_app tb_X0_narrowReference (mem_app tb_X4_isIn (mem_app tb_X0_addArray tb_X0_setReference)))))))
set_option maxRecDepth 20000 in
theorem tb_X0_someMayHaveFewer : ∀ w ∈ v_X0_someMayHaveFewer, w ∈ lw_tbl := mem_c (List.mem_of_getElem? (i := 442) (by decide +kernel)) (mem_app (mem_r [78, 425, 150] (by decide +kernel)) (mem_app wt_0_in tb_X4_isIn))
set_option maxRecDepth 20000 in
theorem tb_X1_mayMiss : ∀ w ∈ v_X1_mayMiss, w ∈ lw_tbl := mem_c (List.mem_of_getElem? (i := 438) (by decide +kernel)) (mem_app (mem_r [186, 135, 141, 138, 439, 440, 441, 81] (by decide +kernel)) (mem_app wt_1_in (mem_app wt_0_in tb_X0_someMayHaveFewer)))
set_option maxRecDepth 20000 in
theorem tb_X0_lanesOf : ∀ w ∈ v_X0_lanesOf, w ∈ lw_tbl := mem_c (List.mem_of_getElem? (i := 451) (by decide +kernel)) (mem_app (mem_r [78, 425, 148] (by decide +kernel)) (mem_app wt_0_in tb_X4_isIn))
set_option maxRecDepth 20000 in
theorem tb_X1_useThrows : ∀ w ∈ v_X1_useThrows, w ∈ lw_tbl := mem_c (List.mem_of_getElem? (i := 447) (by decide +kernel)) (mem_app (mem_r [186, 141, 448, 449, 450, 81, 415, 417, 4, 80, 385, 386] (by decide +kernel)) (mem_app wt_1_in (mem_app wt_0_in (mem_app tb_X0_lanesOf (mem_app tb_X1_nullBit tb_X1_bitIf)))))
set_option maxRecDepth 20000 in
theorem tb_X0_withLane : ∀ w ∈ v_X0_withLane, w ∈ lw_tbl := mem_c (List.mem_of_getElem? (i := 459) (by decide +kernel)) (mem_app (mem_r [78, 425, 148] (by decide +kernel)) (mem_app wt_0_in tb_X4_isIn))
set_option maxRecDepth 20000 in
theorem tb_X0_longestOf : ∀ w ∈ v_X0_longestOf, w ∈ lw_tbl := mem_c (List.mem_of_getElem? (i := 463) (by decide +kernel)) (mem_app (mem_r [78, 425, 153, 392, 393, 85, 394] (by decide +kernel)) (mem_app wt_0_in tb_X4_isIn))
set_option maxRecDepth 20000 in
theorem tb_X1_narrowPlace : ∀ w ∈ v_X1_narrowPlace, w ∈ lw_tbl := mem_c (List.mem_of_getElem? (i := 455) (by decide +kernel)) (mem_app (mem_r [186, 141, 456, 457, 458, 81, 419, 420, 421, 460, 461, 462, 388, 389, 390] (by decide +kernel)) (mem_app wt_1_in (mem_app wt_0_in (mem_app tb_X0_withLane (mem_app tb_X0_narrowReference (mem_app tb_X0_longestOf tb_X0_narrow))))))
set_option maxRecDepth 20000 in
theorem tb_J13_bitCount_95d88 : ∀ w ∈ v_J13_bitCount_95d88, w ∈ lw_tbl := mem_c (List.mem_of_getElem? (i := 466) (by decide +kernel)) (mem_app (mem_r [467, 468, 469] (by decide +kernel)) mem_n)
set_option maxRecDepth 20000 in
theorem tb_X4_leastOfLane : ∀ w ∈ v_X4_leastOfLane, w ∈ lw_tbl := mem_c (List.mem_of_getElem? (i := 484) (by decide +kernel)) (mem_app (mem_r [485] (by decide +kernel)) mem_n)
set_option maxRecDepth 20000 in
theorem tb_X4_greatestOfLane : ∀ w ∈ v_X4_greatestOfLane, w ∈ lw_tbl := mem_c (List.mem_of_getElem? (i := 488) (by decide +kernel)) (mem_app (mem_r [490, 489] (by decide +kernel)) mem_n)
set_option maxRecDepth 20000 in
theorem tb_X0_castFits : ∀ w ∈ v_X0_castFits, w ∈ lw_tbl := mem_c (List.mem_of_getElem? (i := 481) (by decide +kernel)) (mem_app (mem_r [134, 78, 483, 137, 487] (by decide +kernel)) (mem_app wt_0_in (mem_app tb_X4_leastOfLane tb_X4_greatestOfLane)))
set_option maxRecDepth 20000 in
theorem tb_X0_castLeast : ∀ w ∈ v_X0_castLeast, w ∈ lw_tbl := mem_c (List.mem_of_getElem? (i := 477) (by decide +kernel)) (mem_app (mem_r [478, 479, 480, 81, 78, 483, 134] (by decide +kernel)) (mem_app wt_0_in (mem_app tb_X0_castFits tb_X4_leastOfLane)))
set_option maxRecDepth 20000 in
theorem tb_X0_castGreatest : ∀ w ∈ v_X0_castGreatest, w ∈ lw_tbl := mem_c (List.mem_of_getElem? (i := 494) (by decide +kernel)) (mem_app (mem_r [478, 479, 480, 81, 78, 487, 137] (by decide +kernel)) (mem_app wt_0_in (mem_app tb_X0_castFits tb_X4_greatestOfLane)))
set_option maxRecDepth 20000 in
theorem tb_X0_isOneNumber : ∀ w ∈ v_X0_isOneNumber, w ∈ lw_tbl := mem_c (List.mem_of_getElem? (i := 473) (by decide +kernel)) (mem_app (mem_r [134, 137] (by decide +kernel)) wt_0_in)
set_option maxRecDepth 20000 in
theorem tb_X1_passWrite : ∀ w ∈ v_X1_passWrite, w ∈ lw_tbl := mem_c (List.mem_of_getElem? (i := 434) (by decide +kernel)) (mem_app (mem_r [435, 437, 6, 80, 444, 446, 7, 452, 454, 8, 186, 132, 141, 464, 465, 86, 474, 475, 476, 81, 491, 492, 493, 78, 425, 138, 154, 495, 496, 85, 497, 135, 498, 404, 405, 470, 471, 472] (by decide +kernel)) (mem_app wt_1_in (mem_app wt_0_in (mem_app tb_X1_mayMiss (mem_app tb_X1_useThrows (mem_app tb_X1_narrowPlace (mem_app tb_J13_bitCount_95d88 (mem_app tb_X0_castLeast (mem_app tb_X0_castGreatest (mem_app tb_X4_isIn (mem_app tb_X0_putSpan tb_X0_isOneNumber)))))))))))
set_option maxRecDepth 20000 in
theorem tb_X1_gather : ∀ w ∈ v_X1_gather, w ∈ lw_tbl := mem_c (List.mem_of_getElem? (i := 506) (by decide +kernel)) (mem_app (mem_r [195, 78, 425, 507, 393, 85, 394, 186, 154, 158, 161, 196, 197, 508, 396, 397] (by decide +kernel)) (mem_app wt_1_in (mem_app wt_0_in tb_X4_isIn)))
set_option maxRecDepth 20000 in
theorem tb_X1_passRead : ∀ w ∈ v_X1_passRead, w ∈ lw_tbl := mem_c (List.mem_of_getElem? (i := 502) (by decide +kernel)) (mem_app (mem_r [435, 437, 6, 80, 444, 446, 7, 452, 454, 8, 186, 132, 141, 135, 138, 503, 505, 10, 195, 196, 197, 372, 333, 334, 81] (by decide +kernel)) (mem_app wt_1_in (mem_app wt_0_in (mem_app tb_X1_mayMiss (mem_app tb_X1_useThrows (mem_app tb_X1_narrowPlace (mem_app tb_X1_gather tb_X0_setSpan)))))))
set_option maxRecDepth 20000 in
theorem tb_J6_bitCount_0f7a4 : ∀ w ∈ v_J6_bitCount_0f7a4, w ∈ lw_tbl := mem_c (List.mem_of_getElem? (i := 519) (by decide +kernel)) (mem_app (mem_r [520, 521, 522] (by decide +kernel)) mem_n)
set_option maxRecDepth 20000 in
theorem tb_X1_copyThrows : ∀ w ∈ v_X1_copyThrows, w ∈ lw_tbl := mem_c (List.mem_of_getElem? (i := 516) (by decide +kernel)) (mem_app (mem_r [186, 141, 448, 449, 450, 81, 135, 415, 417, 4, 80, 385, 386, 138, 439, 440, 441, 517, 518, 87] (by decide +kernel)) (mem_app wt_1_in (mem_app wt_0_in (mem_app tb_X0_lanesOf (mem_app tb_X1_nullBit (mem_app tb_X1_bitIf (mem_app tb_X0_someMayHaveFewer tb_J6_bitCount_0f7a4)))))))
set_option maxRecDepth 20000 in
theorem tb_X1_firstSite : ∀ w ∈ v_X1_firstSite, w ∈ lw_tbl := mem_c (List.mem_of_getElem? (i := 526) (by decide +kernel)) (mem_app (mem_r [78, 425] (by decide +kernel)) tb_X4_isIn)
set_option maxRecDepth 20000 in
theorem tb_X1_joinCopy : ∀ w ∈ v_X1_joinCopy, w ∈ lw_tbl := mem_c (List.mem_of_getElem? (i := 534) (by decide +kernel)) (mem_app (mem_r [186, 138, 141, 135, 503, 505, 10, 80, 195, 78, 425, 154, 495, 496, 85, 497, 196, 197, 498, 404, 405, 81] (by decide +kernel)) (mem_app wt_1_in (mem_app wt_0_in (mem_app tb_X1_gather (mem_app tb_X4_isIn tb_X0_putSpan)))))
set_option maxRecDepth 20000 in
theorem tb_X0_movePlaces : ∀ w ∈ v_X0_movePlaces, w ∈ lw_tbl := mem_c (List.mem_of_getElem? (i := 530) (by decide +kernel)) (mem_app (mem_r [392, 393, 85, 394, 395, 396, 397, 156, 345, 347, 346, 84, 159] (by decide +kernel)) wt_0_in)
set_option maxRecDepth 20000 in
theorem tb_X1_passCopy : ∀ w ∈ v_X1_passCopy, w ∈ lw_tbl := mem_c (List.mem_of_getElem? (i := 512) (by decide +kernel)) (mem_app (mem_r [513, 515, 12, 80, 186, 141, 419, 420, 421, 81, 523, 388, 389, 390, 132, 524, 525, 464, 465, 86, 531, 533, 13, 470, 471, 472, 135, 527, 528, 529] (by decide +kernel)) (mem_app wt_1_in (mem_app wt_0_in (mem_app tb_X1_copyThrows (mem_app tb_X0_narrowReference (mem_app tb_X0_narrow (mem_app tb_X1_firstSite (mem_app tb_J13_bitCount_95d88 (mem_app tb_X1_joinCopy (mem_app tb_X0_isOneNumber tb_X0_movePlaces))))))))))
set_option maxRecDepth 20000 in
theorem tb_X1_passFill : ∀ w ∈ v_X1_passFill, w ∈ lw_tbl := mem_c (List.mem_of_getElem? (i := 538) (by decide +kernel)) (mem_app (mem_r [186, 135, 138, 141, 456, 457, 458, 81, 464, 465, 86, 474, 475, 476, 491, 492, 493, 78, 425, 154, 508, 396, 85, 397, 498, 404, 405, 444, 446, 7, 80, 439, 440, 441] (by decide +kernel)) (mem_app wt_1_in (mem_app wt_0_in (mem_app tb_X0_withLane (mem_app tb_J13_bitCount_95d88 (mem_app tb_X0_castLeast (mem_app tb_X0_castGreatest (mem_app tb_X4_isIn (mem_app tb_X0_putSpan (mem_app tb_X1_useThrows tb_X0_someMayHaveFewer))))))))))
set_option maxRecDepth 20000 in
theorem tb_X1_passLength : ∀ w ∈ v_X1_passLength, w ∈ lw_tbl := mem_c (List.mem_of_getElem? (i := 542) (by decide +kernel)) (mem_app (mem_r [415, 417, 4, 80, 186, 141, 419, 420, 421, 81, 132, 78, 425, 151, 508, 396, 85, 397, 460, 461, 462, 372, 333, 334] (by decide +kernel)) (mem_app wt_1_in (mem_app wt_0_in (mem_app tb_X1_nullBit (mem_app tb_X0_narrowReference (mem_app tb_X4_isIn (mem_app tb_X0_longestOf tb_X0_setSpan)))))))
set_option maxRecDepth 20000 in
theorem tb_X1_pass : ∀ w ∈ v_X1_pass, w ∈ lw_tbl := mem_c (List.mem_of_getElem? (i := 355) (by decide +kernel)) (mem_app (mem_r [356, 357, 358, 79, 348, 349, 350, 360, 361, 362, 364, 365, 366, 368, 369, 370, 337, 338, 339, 186, 372, 333, 334, 81, 135, 138, 373, 374, 375, 381, 383, 2, 80, 407, 408, 409, 141, 144, 411, 413, 3, 431, 433, 5, 499, 501, 9, 509, 511, 11, 535, 537, 14, 539, 541, 15] (by decide +kernel)) (mem_app wt_1_in (mem_app wt_0_in (mem_app tb_X3_a (mem_app tb_X3_b (mem_app tb_X3_c (mem_app tb_X3_d (mem_app tb_X3_e (mem_app tb_X3_kindOf (mem_app tb_X0_setSpan (mem_app tb_X0_setOutcome (mem_app tb_X1_passNew (mem_app tb_X0_setReference (mem_app tb_X1_passClone (mem_app tb_X1_passWrite (mem_app tb_X1_passRead (mem_app tb_X1_passCopy (mem_app tb_X1_passFill tb_X1_passLength))))))))))))))))))
set_option maxRecDepth 20000 in
theorem tb_X1_follow : ∀ w ∈ v_X1_follow, w ∈ lw_tbl := mem_c (List.mem_of_getElem? (i := 327) (by decide +kernel)) (mem_app (mem_r [189, 186, 328, 329, 330, 81, 336, 317, 318, 79, 191, 193, 104, 132, 188, 543, 544, 545, 337, 338, 339, 341, 342, 343, 348, 349, 350, 352, 354, 1, 80] (by decide +kernel)) (mem_app wt_1_in (mem_app wt_3_in (mem_app wt_0_in (mem_app tb_X0_begin (mem_app tb_X3_hasAct (mem_app tb_X0_joinWith (mem_app tb_X3_kindOf (mem_app tb_X0_takeOver (mem_app tb_X3_b tb_X1_pass))))))))))
set_option maxRecDepth 20000 in
theorem tb_X4_reached : ∀ w ∈ v_X4_reached, w ∈ lw_tbl := mem_c (List.mem_of_getElem? (i := 323) (by decide +kernel)) (mem_app (mem_r [261, 316, 317, 318, 79, 262, 324, 325, 326, 80, 192] (by decide +kernel)) (mem_app wt_4_in (mem_app wt_1_in (mem_app tb_X3_hasAct tb_X1_follow))))
set_option maxRecDepth 20000 in
theorem tb_X5_joinPlace : ∀ w ∈ v_X5_joinPlace, w ∈ lw_tbl := mem_c (List.mem_of_getElem? (i := 919) (by decide +kernel)) (mem_app (mem_r [774, 775] (by decide +kernel)) wt_5_in)
set_option maxRecDepth 20000 in
theorem tb_X5_copySite : ∀ w ∈ v_X5_copySite, w ∈ lw_tbl := mem_c (List.mem_of_getElem? (i := 911) (by decide +kernel)) (mem_app (mem_r [770, 771, 772, 773, 774, 775] (by decide +kernel)) wt_5_in)
set_option maxRecDepth 20000 in
theorem tb_X5_joinSite : ∀ w ∈ v_X5_joinSite, w ∈ lw_tbl := mem_c (List.mem_of_getElem? (i := 915) (by decide +kernel)) (mem_app (mem_r [770, 771, 772, 773, 774, 775, 916, 918, 40, 83, 908, 910, 38] (by decide +kernel)) (mem_app wt_5_in (mem_app tb_X5_joinPlace tb_X5_copySite)))
set_option maxRecDepth 20000 in
theorem tb_X5_copyBank10 : ∀ w ∈ v_X5_copyBank10, w ∈ lw_tbl := mem_c (List.mem_of_getElem? (i := 907) (by decide +kernel)) (mem_app (mem_r [765, 766, 767, 768, 769, 908, 910, 38, 83] (by decide +kernel)) (mem_app wt_5_in tb_X5_copySite))
set_option maxRecDepth 20000 in
theorem tb_X5_join : ∀ w ∈ v_X5_join, w ∈ lw_tbl := mem_c (List.mem_of_getElem? (i := 903) (by decide +kernel)) (mem_app (mem_r [765, 766, 767, 768, 769, 912, 914, 39, 83, 904, 906, 37] (by decide +kernel)) (mem_app wt_5_in (mem_app tb_X5_joinSite tb_X5_copyBank10)))
set_option maxRecDepth 20000 in
theorem tb_X5_setSpan : ∀ w ∈ v_X5_setSpan, w ∈ lw_tbl := mem_c (List.mem_of_getElem? (i := 927) (by decide +kernel)) (mem_app (mem_r [928, 766, 767, 929] (by decide +kernel)) wt_5_in)
set_option maxRecDepth 20000 in
theorem tb_X5_mark : ∀ w ∈ v_X5_mark, w ∈ lw_tbl := mem_c (List.mem_of_getElem? (i := 937) (by decide +kernel)) (mem_app (mem_r [777] (by decide +kernel)) wt_5_in)
set_option maxRecDepth 20000 in
theorem tb_X5_narrow : ∀ w ∈ v_X5_narrow, w ∈ lw_tbl := mem_c (List.mem_of_getElem? (i := 942) (by decide +kernel)) (mem_app (mem_r [766, 767, 765] (by decide +kernel)) wt_5_in)
set_option maxRecDepth 20000 in
theorem tb_X5_mean : ∀ w ∈ v_X5_mean, w ∈ lw_tbl := mem_c (List.mem_of_getElem? (i := 946) (by decide +kernel)) (mem_app (mem_r [768, 769] (by decide +kernel)) wt_5_in)
set_option maxRecDepth 20000 in
theorem tb_X5_made : ∀ w ∈ v_X5_made, w ∈ lw_tbl := mem_c (List.mem_of_getElem? (i := 933) (by decide +kernel)) (mem_app (mem_r [761, 766, 934, 936, 44, 83, 767, 938, 939, 941, 45, 765, 770, 771, 760, 772, 773, 774, 775, 759, 943, 945, 46] (by decide +kernel)) (mem_app wt_5_in (mem_app tb_X5_mark (mem_app tb_X5_narrow tb_X5_mean))))
set_option maxRecDepth 20000 in
theorem tb_X5_use : ∀ w ∈ v_X5_use, w ∈ lw_tbl := mem_c (List.mem_of_getElem? (i := 954) (by decide +kernel)) (mem_app (mem_r [769, 765, 768] (by decide +kernel)) wt_5_in)
set_option maxRecDepth 20000 in
theorem tb_X5_has : ∀ w ∈ v_X5_has, w ∈ lw_tbl := mem_c (List.mem_of_getElem? (i := 958) (by decide +kernel)) (mem_app (mem_r [768] (by decide +kernel)) wt_5_in)
set_option maxRecDepth 20000 in
theorem tb_X5_cloned : ∀ w ∈ v_X5_cloned, w ∈ lw_tbl := mem_c (List.mem_of_getElem? (i := 950) (by decide +kernel)) (mem_app (mem_r [760, 769, 934, 936, 44, 83, 951, 953, 48, 765, 770, 955, 957, 49, 912, 914, 39, 759, 943, 945, 46] (by decide +kernel)) (mem_app wt_5_in (mem_app tb_X5_mark (mem_app tb_X5_use (mem_app tb_X5_has (mem_app tb_X5_joinSite tb_X5_mean))))))
set_option maxRecDepth 20000 in
theorem tb_X5_lanesOf : ∀ w ∈ v_X5_lanesOf, w ∈ lw_tbl := mem_c (List.mem_of_getElem? (i := 970) (by decide +kernel)) (mem_app (mem_r [955, 957, 49, 83, 771] (by decide +kernel)) (mem_app wt_5_in tb_X5_has))
set_option maxRecDepth 20000 in
theorem tb_X5_leastLength : ∀ w ∈ v_X5_leastLength, w ∈ lw_tbl := mem_c (List.mem_of_getElem? (i := 974) (by decide +kernel)) (mem_app (mem_r [975, 955, 957, 49, 83, 772] (by decide +kernel)) (mem_app wt_5_in tb_X5_has))
set_option maxRecDepth 20000 in
theorem tb_X5_mostLength : ∀ w ∈ v_X5_mostLength, w ∈ lw_tbl := mem_c (List.mem_of_getElem? (i := 980) (by decide +kernel)) (mem_app (mem_r [955, 957, 49, 83, 773] (by decide +kernel)) (mem_app wt_5_in tb_X5_has))
set_option maxRecDepth 20000 in
theorem tb_X5_usePlace : ∀ w ∈ v_X5_usePlace, w ∈ lw_tbl := mem_c (List.mem_of_getElem? (i := 966) (by decide +kernel)) (mem_app (mem_r [769, 934, 936, 44, 83, 967, 969, 52, 766, 768, 767, 971, 973, 53, 955, 957, 49, 771, 976, 765, 977, 979, 54, 939, 941, 45] (by decide +kernel)) (mem_app wt_5_in (mem_app tb_X5_mark (mem_app tb_X5_lanesOf (mem_app tb_X5_leastLength (mem_app tb_X5_has (mem_app tb_X5_mostLength tb_X5_narrow)))))))
set_option maxRecDepth 20000 in
theorem tb_X5_laneLow : ∀ w ∈ v_X5_laneLow, w ∈ lw_tbl := mem_c (List.mem_of_getElem? (i := 986) (by decide +kernel)) (mem_app (mem_r [928, 987] (by decide +kernel)) mem_n)
set_option maxRecDepth 20000 in
theorem tb_X5_laneHigh : ∀ w ∈ v_X5_laneHigh, w ∈ lw_tbl := mem_c (List.mem_of_getElem? (i := 990) (by decide +kernel)) (mem_app (mem_r [929, 992, 991] (by decide +kernel)) mem_n)
set_option maxRecDepth 20000 in
theorem tb_X5_castLow : ∀ w ∈ v_X5_castLow, w ∈ lw_tbl := mem_c (List.mem_of_getElem? (i := 983) (by decide +kernel)) (mem_app (mem_r [984, 985, 83, 988, 989] (by decide +kernel)) (mem_app tb_X5_laneLow tb_X5_laneHigh))
set_option maxRecDepth 20000 in
theorem tb_X5_castHigh : ∀ w ∈ v_X5_castHigh, w ∈ lw_tbl := mem_c (List.mem_of_getElem? (i := 995) (by decide +kernel)) (mem_app (mem_r [984, 985, 83, 988, 989] (by decide +kernel)) (mem_app tb_X5_laneLow tb_X5_laneHigh))
set_option maxRecDepth 20000 in
theorem tb_X5_only : ∀ w ∈ v_X5_only, w ∈ lw_tbl := mem_c (List.mem_of_getElem? (i := 999) (by decide +kernel)) (mem_app (mem_r [955, 957, 49, 83] (by decide +kernel)) tb_X5_has)
set_option maxRecDepth 20000 in
theorem tb_X5_written : ∀ w ∈ v_X5_written, w ∈ lw_tbl := mem_c (List.mem_of_getElem? (i := 962) (by decide +kernel)) (mem_app (mem_r [759, 760, 761, 762, 963, 965, 51, 83, 765, 766, 767, 981, 982, 993, 994, 996, 998, 55, 955, 957, 49, 773, 916, 918, 40, 774, 775] (by decide +kernel)) (mem_app wt_5_in (mem_app tb_X5_usePlace (mem_app tb_X5_castLow (mem_app tb_X5_castHigh (mem_app tb_X5_only (mem_app tb_X5_has tb_X5_joinPlace)))))))
set_option maxRecDepth 20000 in
theorem tb_X5_gather : ∀ w ∈ v_X5_gather, w ∈ lw_tbl := mem_c (List.mem_of_getElem? (i := 1007) (by decide +kernel)) (mem_app (mem_r [789, 790, 955, 957, 49, 83, 773, 774, 775] (by decide +kernel)) (mem_app wt_5_in tb_X5_has))
set_option maxRecDepth 20000 in
theorem tb_X5_read : ∀ w ∈ v_X5_read, w ∈ lw_tbl := mem_c (List.mem_of_getElem? (i := 1003) (by decide +kernel)) (mem_app (mem_r [760, 762, 761, 963, 965, 51, 83, 765, 766, 767, 1004, 1006, 57, 759, 789, 790, 924, 926, 42] (by decide +kernel)) (mem_app wt_5_in (mem_app tb_X5_usePlace (mem_app tb_X5_gather tb_X5_setSpan))))
set_option maxRecDepth 20000 in
theorem tb_X5_strong : ∀ w ∈ v_X5_strong, w ∈ lw_tbl := mem_c (List.mem_of_getElem? (i := 1015) (by decide +kernel)) (mem_app (mem_r [791, 774, 792, 775, 938] (by decide +kernel)) wt_5_in)
set_option maxRecDepth 20000 in
theorem tb_X5_moved : ∀ w ∈ v_X5_moved, w ∈ lw_tbl := mem_c (List.mem_of_getElem? (i := 1011) (by decide +kernel)) (mem_app (mem_r [759, 760, 761, 762, 763, 769, 934, 936, 44, 83, 967, 969, 52, 768, 767, 971, 973, 53, 766, 951, 953, 48, 929, 939, 941, 45, 765, 996, 998, 55, 1012, 1014, 59, 975, 1004, 1006, 57, 789, 790, 955, 957, 49, 773, 916, 918, 40] (by decide +kernel)) (mem_app wt_5_in (mem_app tb_X5_mark (mem_app tb_X5_lanesOf (mem_app tb_X5_leastLength (mem_app tb_X5_use (mem_app tb_X5_narrow (mem_app tb_X5_only (mem_app tb_X5_strong (mem_app tb_X5_gather (mem_app tb_X5_has tb_X5_joinPlace)))))))))))
set_option maxRecDepth 20000 in
theorem tb_X5_filled : ∀ w ∈ v_X5_filled, w ∈ lw_tbl := mem_c (List.mem_of_getElem? (i := 1019) (by decide +kernel)) (mem_app (mem_r [759, 760, 761, 762, 763, 766, 767, 769, 934, 936, 44, 83, 967, 969, 52, 768, 971, 973, 53, 981, 982, 993, 994, 996, 998, 55, 955, 957, 49, 771, 938, 773, 916, 918, 40, 774, 775] (by decide +kernel)) (mem_app wt_5_in (mem_app tb_X5_mark (mem_app tb_X5_lanesOf (mem_app tb_X5_leastLength (mem_app tb_X5_castLow (mem_app tb_X5_castHigh (mem_app tb_X5_only (mem_app tb_X5_has tb_X5_joinPlace)))))))))
set_option maxRecDepth 20000 in
theorem tb_X5_measured : ∀ w ∈ v_X5_measured, w ∈ lw_tbl := mem_c (List.mem_of_getElem? (i := 1023) (by decide +kernel)) (mem_app (mem_r [760, 769, 934, 936, 44, 83, 951, 953, 48, 765, 759, 971, 973, 53, 977, 979, 54, 924, 926, 42] (by decide +kernel)) (mem_app wt_5_in (mem_app tb_X5_mark (mem_app tb_X5_use (mem_app tb_X5_leastLength (mem_app tb_X5_mostLength tb_X5_setSpan))))))
set_option maxRecDepth 20000 in
theorem tb_X5_step : ∀ w ∈ v_X5_step, w ∈ lw_tbl := mem_c (List.mem_of_getElem? (i := 923) (by decide +kernel)) (mem_app (mem_r [759, 760, 761, 758, 924, 926, 42, 83, 766, 767, 930, 932, 43, 768, 769, 947, 949, 47, 959, 961, 50, 1000, 1002, 56, 1008, 1010, 58, 1016, 1018, 60, 1020, 1022, 61] (by decide +kernel)) (mem_app wt_5_in (mem_app tb_X5_setSpan (mem_app tb_X5_made (mem_app tb_X5_cloned (mem_app tb_X5_written (mem_app tb_X5_read (mem_app tb_X5_moved (mem_app tb_X5_filled tb_X5_measured)))))))))
set_option maxRecDepth 20000 in
theorem tb_X5_copyBank01 : ∀ w ∈ v_X5_copyBank01, w ∈ lw_tbl := mem_c (List.mem_of_getElem? (i := 907) (by decide +kernel)) (mem_app (mem_r [765, 766, 767, 768, 769, 908, 910, 38, 83] (by decide +kernel)) (mem_app wt_5_in tb_X5_copySite))
set_option maxRecDepth 20000 in
theorem tb_X5_flow : ∀ w ∈ v_X5_flow, w ∈ lw_tbl := mem_c (List.mem_of_getElem? (i := 899) (by decide +kernel)) (mem_app (mem_r [765, 766, 767, 768, 769, 770, 776, 777, 757, 900, 902, 36, 83, 764, 758, 920, 922, 41, 904, 906, 37, 760] (by decide +kernel)) (mem_app wt_5_in (mem_app tb_X5_join (mem_app tb_X5_step tb_X5_copyBank01))))
set_option maxRecDepth 20000 in
theorem tb_X5_reached : ∀ w ∈ v_X5_reached, w ∈ lw_tbl := mem_c (List.mem_of_getElem? (i := 895) (by decide +kernel)) (mem_app (mem_r [757, 896, 898, 35, 83, 776] (by decide +kernel)) (mem_app wt_5_in tb_X5_flow))
set_option maxRecDepth 20000 in
theorem tb_X4_throwsAt : ∀ w ∈ v_X4_throwsAt, w ∈ lw_tbl := mem_c (List.mem_of_getElem? (i := 552) (by decide +kernel)) (mem_app (mem_r [261, 316, 317, 318, 79, 262, 324, 325, 326, 80, 194] (by decide +kernel)) (mem_app wt_4_in (mem_app wt_1_in (mem_app tb_X3_hasAct tb_X1_follow))))
set_option maxRecDepth 20000 in
theorem tb_X5_throwsAt : ∀ w ∈ v_X5_throwsAt, w ∈ lw_tbl := mem_c (List.mem_of_getElem? (i := 1027) (by decide +kernel)) (mem_app (mem_r [757, 896, 898, 35, 83, 777] (by decide +kernel)) (mem_app wt_5_in tb_X5_flow))
set_option maxRecDepth 20000 in
theorem tb_X4_ends : ∀ w ∈ v_X4_ends, w ∈ lw_tbl := mem_c (List.mem_of_getElem? (i := 556) (by decide +kernel)) (mem_app (mem_r [262, 261, 324, 325, 326, 80, 187, 133] (by decide +kernel)) (mem_app wt_4_in (mem_app wt_1_in (mem_app wt_0_in tb_X1_follow))))
set_option maxRecDepth 20000 in
theorem tb_X5_ends : ∀ w ∈ v_X5_ends, w ∈ lw_tbl := mem_c (List.mem_of_getElem? (i := 1031) (by decide +kernel)) (mem_app (mem_r [896, 898, 35, 83, 765] (by decide +kernel)) (mem_app wt_5_in tb_X5_flow))
set_option maxRecDepth 20000 in
theorem tb_X4_refuse : ∀ w ∈ v_X4_refuse, w ∈ lw_tbl := mem_c (List.mem_of_getElem? (i := 565) (by decide +kernel)) (mem_app (mem_r [264] (by decide +kernel)) wt_4_in)
set_option maxRecDepth 20000 in
theorem tb_X4_tell : ∀ w ∈ v_X4_tell, w ∈ lw_tbl := mem_c (List.mem_of_getElem? (i := 569) (by decide +kernel)) (mem_app (mem_r [264] (by decide +kernel)) wt_4_in)
set_option maxRecDepth 20000 in
theorem tb_X4_variable : ∀ w ∈ v_X4_variable, w ∈ lw_tbl := mem_c (List.mem_of_getElem? (i := 560) (by decide +kernel)) (mem_app (mem_r [561, 295, 78, 562, 564, 16, 262, 261, 324, 325, 326, 80, 187, 133, 139, 136, 566, 568, 17] (by decide +kernel)) (mem_app wt_4_in (mem_app wt_1_in (mem_app wt_0_in (mem_app tb_X4_isVariable (mem_app tb_X4_refuse (mem_app tb_X1_follow tb_X4_tell)))))))
set_option maxRecDepth 20000 in
theorem tb_X5_refuse : ∀ w ∈ v_X5_refuse, w ∈ lw_tbl := mem_c (List.mem_of_getElem? (i := 1039) (by decide +kernel)) (mem_app (mem_r [778] (by decide +kernel)) wt_5_in)
set_option maxRecDepth 20000 in
theorem tb_X5_tell : ∀ w ∈ v_X5_tell, w ∈ lw_tbl := mem_c (List.mem_of_getElem? (i := 1043) (by decide +kernel)) (mem_app (mem_r [778] (by decide +kernel)) wt_5_in)
set_option maxRecDepth 20000 in
theorem tb_X5_variable : ∀ w ∈ v_X5_variable, w ∈ lw_tbl := mem_c (List.mem_of_getElem? (i := 1035) (by decide +kernel)) (mem_app (mem_r [877, 878, 83, 1036, 1038, 62, 896, 898, 35, 765, 767, 766, 1040, 1042, 63] (by decide +kernel)) (mem_app wt_5_in (mem_app tb_X5_isName (mem_app tb_X5_refuse (mem_app tb_X5_flow tb_X5_tell)))))
set_option maxRecDepth 20000 in
theorem tb_X4_reference : ∀ w ∈ v_X4_reference, w ∈ lw_tbl := mem_c (List.mem_of_getElem? (i := 573) (by decide +kernel)) (mem_app (mem_r [574, 303, 78, 262, 261, 324, 325, 326, 80, 187, 133, 142, 575, 465, 86, 145] (by decide +kernel)) (mem_app wt_4_in (mem_app wt_1_in (mem_app wt_0_in (mem_app tb_X4_isReference (mem_app tb_X1_follow tb_J13_bitCount_95d88))))))
set_option maxRecDepth 20000 in
theorem tb_X5_reference : ∀ w ∈ v_X5_reference, w ∈ lw_tbl := mem_c (List.mem_of_getElem? (i := 1047) (by decide +kernel)) (mem_app (mem_r [877, 878, 83, 896, 898, 35, 765, 955, 957, 49, 769] (by decide +kernel)) (mem_app wt_5_in (mem_app tb_X5_isName (mem_app tb_X5_flow tb_X5_has))))
set_option maxRecDepth 20000 in
theorem tb_X4_means : ∀ w ∈ v_X4_means, w ∈ lw_tbl := mem_c (List.mem_of_getElem? (i := 579) (by decide +kernel)) (mem_app (mem_r [574, 303, 78, 261, 316, 317, 318, 79, 262, 324, 325, 326, 80, 187, 133, 142, 580, 425] (by decide +kernel)) (mem_app wt_4_in (mem_app wt_1_in (mem_app wt_0_in (mem_app tb_X4_isReference (mem_app tb_X3_hasAct (mem_app tb_X1_follow tb_X4_isIn)))))))
set_option maxRecDepth 20000 in
theorem tb_X5_means : ∀ w ∈ v_X5_means, w ∈ lw_tbl := mem_c (List.mem_of_getElem? (i := 1051) (by decide +kernel)) (mem_app (mem_r [877, 878, 83, 757, 896, 898, 35, 765, 955, 957, 49] (by decide +kernel)) (mem_app wt_5_in (mem_app tb_X5_isName (mem_app tb_X5_flow tb_X5_has))))
set_option maxRecDepth 20000 in
theorem tb_X0_areAlike : ∀ w ∈ v_X0_areAlike, w ∈ lw_tbl := mem_c (List.mem_of_getElem? (i := 596) (by decide +kernel)) (mem_app (mem_r [156, 159] (by decide +kernel)) wt_0_in)
set_option maxRecDepth 20000 in
theorem tb_X0_beginsSegment : ∀ w ∈ v_X0_beginsSegment, w ∈ lw_tbl := mem_c (List.mem_of_getElem? (i := 592) (by decide +kernel)) (mem_app (mem_r [593, 594, 595, 81] (by decide +kernel)) tb_X0_areAlike)
set_option maxRecDepth 20000 in
theorem tb_X0_countSegments : ∀ w ∈ v_X0_countSegments, w ∈ lw_tbl := mem_c (List.mem_of_getElem? (i := 588) (by decide +kernel)) (mem_app (mem_r [153, 589, 590, 591, 81] (by decide +kernel)) (mem_app wt_0_in tb_X0_beginsSegment))
set_option maxRecDepth 20000 in
theorem tb_X0_isSorted : ∀ w ∈ v_X0_isSorted, w ∈ lw_tbl := mem_c (List.mem_of_getElem? (i := 600) (by decide +kernel)) (mem_app (mem_r [153, 159, 156] (by decide +kernel)) wt_0_in)
set_option maxRecDepth 20000 in
theorem tb_X4_array : ∀ w ∈ v_X4_array, w ∈ lw_tbl := mem_c (List.mem_of_getElem? (i := 584) (by decide +kernel)) (mem_app (mem_r [261, 316, 317, 318, 79, 262, 324, 325, 326, 80, 187, 133, 147, 149, 152, 155, 585, 586, 587, 81, 597, 598, 599] (by decide +kernel)) (mem_app wt_4_in (mem_app wt_1_in (mem_app wt_0_in (mem_app tb_X3_hasAct (mem_app tb_X1_follow (mem_app tb_X0_countSegments tb_X0_isSorted)))))))
set_option maxRecDepth 20000 in
theorem tb_X5_barred : ∀ w ∈ v_X5_barred, w ∈ lw_tbl := mem_c (List.mem_of_getElem? (i := 1059) (by decide +kernel)) (mem_app (mem_r [896, 898, 35, 83, 765, 770] (by decide +kernel)) (mem_app wt_5_in tb_X5_flow))
set_option maxRecDepth 20000 in
theorem tb_X5_isSorted : ∀ w ∈ v_X5_isSorted, w ∈ lw_tbl := mem_c (List.mem_of_getElem? (i := 1071) (by decide +kernel)) (mem_app (mem_r [773, 775, 774] (by decide +kernel)) wt_5_in)
set_option maxRecDepth 20000 in
theorem tb_X5_isLike : ∀ w ∈ v_X5_isLike, w ∈ lw_tbl := mem_c (List.mem_of_getElem? (i := 1067) (by decide +kernel)) (mem_app (mem_r [774, 775] (by decide +kernel)) wt_5_in)
set_option maxRecDepth 20000 in
theorem tb_X5_segments : ∀ w ∈ v_X5_segments, w ∈ lw_tbl := mem_c (List.mem_of_getElem? (i := 1063) (by decide +kernel)) (mem_app (mem_r [773, 1064, 1066, 66, 83] (by decide +kernel)) (mem_app wt_5_in tb_X5_isLike))
set_option maxRecDepth 20000 in
theorem tb_X5_array : ∀ w ∈ v_X5_array, w ∈ lw_tbl := mem_c (List.mem_of_getElem? (i := 1055) (by decide +kernel)) (mem_app (mem_r [757, 1056, 1058, 64, 83, 1068, 1070, 67, 1060, 1062, 65, 773, 772, 771] (by decide +kernel)) (mem_app wt_5_in (mem_app tb_X5_barred (mem_app tb_X5_isSorted tb_X5_segments))))
set_option maxRecDepth 20000 in
theorem tb_X0_firstOfSegment : ∀ w ∈ v_X0_firstOfSegment, w ∈ lw_tbl := mem_c (List.mem_of_getElem? (i := 608) (by decide +kernel)) (mem_app (mem_r [153, 589, 590, 591, 81] (by decide +kernel)) (mem_app wt_0_in tb_X0_beginsSegment))
set_option maxRecDepth 20000 in
theorem tb_X0_behindSegment : ∀ w ∈ v_X0_behindSegment, w ∈ lw_tbl := mem_c (List.mem_of_getElem? (i := 612) (by decide +kernel)) (mem_app (mem_r [153, 589, 590, 591, 81] (by decide +kernel)) (mem_app wt_0_in tb_X0_beginsSegment))
set_option maxRecDepth 20000 in
theorem tb_X4_segment : ∀ w ∈ v_X4_segment, w ∈ lw_tbl := mem_c (List.mem_of_getElem? (i := 604) (by decide +kernel)) (mem_app (mem_r [261, 316, 317, 318, 79, 562, 564, 16, 78, 262, 324, 325, 326, 80, 187, 133, 147, 605, 606, 607, 81, 566, 568, 17, 609, 610, 611, 157, 160] (by decide +kernel)) (mem_app wt_4_in (mem_app wt_1_in (mem_app wt_0_in (mem_app tb_X3_hasAct (mem_app tb_X4_refuse (mem_app tb_X1_follow (mem_app tb_X0_firstOfSegment (mem_app tb_X4_tell tb_X0_behindSegment)))))))))
set_option maxRecDepth 20000 in
theorem tb_X5_segment : ∀ w ∈ v_X5_segment, w ∈ lw_tbl := mem_c (List.mem_of_getElem? (i := 1075) (by decide +kernel)) (mem_app (mem_r [1036, 1038, 62, 83, 757, 1056, 1058, 64, 1060, 1062, 65, 1064, 1066, 66, 773, 775, 774, 1040, 1042, 63] (by decide +kernel)) (mem_app wt_5_in (mem_app tb_X5_refuse (mem_app tb_X5_barred (mem_app tb_X5_segments (mem_app tb_X5_isLike tb_X5_tell))))))
set_option maxRecDepth 20000 in
theorem tb_X4_status : ∀ w ∈ v_X4_status, w ∈ lw_tbl := mem_c (List.mem_of_getElem? (i := 616) (by decide +kernel)) (mem_app (mem_r [264] (by decide +kernel)) wt_4_in)
set_option maxRecDepth 20000 in
theorem tb_X5_status : ∀ w ∈ v_X5_status, w ∈ lw_tbl := mem_c (List.mem_of_getElem? (i := 1079) (by decide +kernel)) (mem_app (mem_r [778] (by decide +kernel)) wt_5_in)
set_option maxRecDepth 20000 in
theorem tb_X2_draw : ∀ w ∈ v_X2_draw, w ∈ lw_tbl := mem_c (List.mem_of_getElem? (i := 634) (by decide +kernel)) (mem_app (mem_r [241, 635, 636, 637] (by decide +kernel)) wt_2_in)
set_option maxRecDepth 20000 in
theorem tb_X2_drawFrom : ∀ w ∈ v_X2_drawFrom, w ∈ lw_tbl := mem_c (List.mem_of_getElem? (i := 649) (by decide +kernel)) (mem_app (mem_r [631, 633, 19, 82] (by decide +kernel)) tb_X2_draw)
set_option maxRecDepth 20000 in
theorem tb_X2_doNew : ∀ w ∈ v_X2_doNew, w ∈ lw_tbl := mem_c (List.mem_of_getElem? (i := 653) (by decide +kernel)) (mem_app (mem_r [235, 237, 239, 233] (by decide +kernel)) wt_2_in)
set_option maxRecDepth 20000 in
theorem tb_X2_drawIsEven : ∀ w ∈ v_X2_drawIsEven, w ∈ lw_tbl := mem_c (List.mem_of_getElem? (i := 630) (by decide +kernel)) (mem_app (mem_r [631, 633, 19, 82] (by decide +kernel)) tb_X2_draw)
set_option maxRecDepth 20000 in
theorem tb_X2_doClone : ∀ w ∈ v_X2_doClone, w ∈ lw_tbl := mem_c (List.mem_of_getElem? (i := 657) (by decide +kernel)) (mem_app (mem_r [235, 237, 239, 658, 347, 346, 84, 233] (by decide +kernel)) wt_2_in)
set_option maxRecDepth 20000 in
theorem tb_X2_placeProblem : ∀ w ∈ v_X2_placeProblem, w ∈ lw_tbl := mem_c (List.mem_of_getElem? (i := 666) (by decide +kernel)) (mem_app (mem_r [235, 237] (by decide +kernel)) wt_2_in)
set_option maxRecDepth 20000 in
theorem tb_X2_castTo : ∀ w ∈ v_X2_castTo, w ∈ lw_tbl := mem_c (List.mem_of_getElem? (i := 669) (by decide +kernel)) (mem_app (mem_n) mem_n)
set_option maxRecDepth 20000 in
theorem tb_X2_doWrite : ∀ w ∈ v_X2_doWrite, w ∈ lw_tbl := mem_c (List.mem_of_getElem? (i := 662) (by decide +kernel)) (mem_app (mem_r [663, 665, 25, 82, 239, 667, 668] (by decide +kernel)) (mem_app wt_2_in (mem_app tb_X2_placeProblem tb_X2_castTo)))
set_option maxRecDepth 20000 in
theorem tb_X2_doRead : ∀ w ∈ v_X2_doRead, w ∈ lw_tbl := mem_c (List.mem_of_getElem? (i := 673) (by decide +kernel)) (mem_app (mem_r [663, 665, 25, 82, 231, 239] (by decide +kernel)) (mem_app wt_2_in tb_X2_placeProblem))
set_option maxRecDepth 20000 in
theorem tb_X2_doCopy : ∀ w ∈ v_X2_doCopy, w ∈ lw_tbl := mem_c (List.mem_of_getElem? (i := 677) (by decide +kernel)) (mem_app (mem_r [235, 237, 239, 658, 347, 346, 84] (by decide +kernel)) wt_2_in)
set_option maxRecDepth 20000 in
theorem tb_X2_doFill : ∀ w ∈ v_X2_doFill, w ∈ lw_tbl := mem_c (List.mem_of_getElem? (i := 681) (by decide +kernel)) (mem_app (mem_r [659, 661, 24, 82] (by decide +kernel)) tb_X2_doWrite)
set_option maxRecDepth 20000 in
theorem tb_X2_doLength : ∀ w ∈ v_X2_doLength, w ∈ lw_tbl := mem_c (List.mem_of_getElem? (i := 685) (by decide +kernel)) (mem_app (mem_r [231, 237] (by decide +kernel)) wt_2_in)
set_option maxRecDepth 20000 in
theorem tb_X2_doAct : ∀ w ∈ v_X2_doAct, w ∈ lw_tbl := mem_c (List.mem_of_getElem? (i := 641) (by decide +kernel)) (mem_app (mem_r [642, 357, 358, 79, 626, 349, 350, 643, 361, 362, 644, 365, 366, 645, 369, 370, 625, 338, 339, 231, 646, 648, 21, 82, 650, 652, 22, 233, 627, 629, 18, 654, 656, 23, 659, 661, 24, 670, 672, 26, 674, 676, 27, 678, 680, 28, 682, 684, 29] (by decide +kernel)) (mem_app wt_2_in (mem_app tb_X3_a (mem_app tb_X3_b (mem_app tb_X3_c (mem_app tb_X3_d (mem_app tb_X3_e (mem_app tb_X3_kindOf (mem_app tb_X2_drawFrom (mem_app tb_X2_doNew (mem_app tb_X2_drawIsEven (mem_app tb_X2_doClone (mem_app tb_X2_doWrite (mem_app tb_X2_doRead (mem_app tb_X2_doCopy (mem_app tb_X2_doFill tb_X2_doLength))))))))))))))))
set_option maxRecDepth 20000 in
theorem tb_X2_perform : ∀ w ∈ v_X2_perform, w ∈ lw_tbl := mem_c (List.mem_of_getElem? (i := 624) (by decide +kernel)) (mem_app (mem_r [221, 222, 223, 82, 225, 241, 109, 227, 105, 686, 393, 85, 394, 638, 640, 20, 229, 625, 338, 339, 79, 626, 349, 350, 627, 629, 18] (by decide +kernel)) (mem_app wt_2_in (mem_app wt_3_in (mem_app tb_X2_forget (mem_app tb_X2_doAct (mem_app tb_X3_kindOf (mem_app tb_X3_b tb_X2_drawIsEven)))))))
set_option maxRecDepth 20000 in
theorem tb_X4_run : ∀ w ∈ v_X4_run, w ∈ lw_tbl := mem_c (List.mem_of_getElem? (i := 620) (by decide +kernel)) (mem_app (mem_r [263, 261, 621, 622, 623, 82, 228] (by decide +kernel)) (mem_app wt_4_in (mem_app wt_2_in tb_X2_perform)))
set_option maxRecDepth 20000 in
theorem tb_X5_draw : ∀ w ∈ v_X5_draw, w ∈ lw_tbl := mem_c (List.mem_of_getElem? (i := 1087) (by decide +kernel)) (mem_app (mem_r [788, 1088, 1089, 1090] (by decide +kernel)) wt_5_in)
set_option maxRecDepth 20000 in
theorem tb_X5_fail : ∀ w ∈ v_X5_fail, w ∈ lw_tbl := mem_c (List.mem_of_getElem? (i := 1098) (by decide +kernel)) (mem_app (mem_r [780, 781] (by decide +kernel)) wt_5_in)
set_option maxRecDepth 20000 in
theorem tb_X5_newArray : ∀ w ∈ v_X5_newArray, w ∈ lw_tbl := mem_c (List.mem_of_getElem? (i := 1102) (by decide +kernel)) (mem_app (mem_r [784, 785, 786, 783] (by decide +kernel)) wt_5_in)
set_option maxRecDepth 20000 in
theorem tb_X5_workClone : ∀ w ∈ v_X5_workClone, w ∈ lw_tbl := mem_c (List.mem_of_getElem? (i := 1106) (by decide +kernel)) (mem_app (mem_r [783, 760, 759, 784, 785, 1099, 1101, 71, 83, 786, 1095, 1097, 70] (by decide +kernel)) (mem_app wt_5_in (mem_app tb_X5_newArray tb_X5_fail)))
set_option maxRecDepth 20000 in
theorem tb_X5_isPlace : ∀ w ∈ v_X5_isPlace, w ∈ lw_tbl := mem_c (List.mem_of_getElem? (i := 1110) (by decide +kernel)) (mem_app (mem_r [783, 784, 1095, 1097, 70, 83, 785] (by decide +kernel)) (mem_app wt_5_in tb_X5_fail))
set_option maxRecDepth 20000 in
theorem tb_X5_cast : ∀ w ∈ v_X5_cast, w ∈ lw_tbl := mem_c (List.mem_of_getElem? (i := 1113) (by decide +kernel)) (mem_app (mem_r [1114] (by decide +kernel)) mem_n)
set_option maxRecDepth 20000 in
theorem tb_X5_workCopy : ∀ w ∈ v_X5_workCopy, w ∈ lw_tbl := mem_c (List.mem_of_getElem? (i := 1118) (by decide +kernel)) (mem_app (mem_r [783, 759, 761, 782, 760, 762, 763, 1095, 1097, 70, 83, 784, 785, 787, 786] (by decide +kernel)) (mem_app wt_5_in tb_X5_fail))
set_option maxRecDepth 20000 in
theorem tb_X5_workFill : ∀ w ∈ v_X5_workFill, w ∈ lw_tbl := mem_c (List.mem_of_getElem? (i := 1122) (by decide +kernel)) (mem_app (mem_r [759, 760, 782, 761, 762, 780, 1107, 1109, 73, 83, 786, 783, 763, 1111, 1112] (by decide +kernel)) (mem_app wt_5_in (mem_app tb_X5_isPlace tb_X5_cast)))
set_option maxRecDepth 20000 in
theorem tb_X5_work : ∀ w ∈ v_X5_work, w ∈ lw_tbl := mem_c (List.mem_of_getElem? (i := 1094) (by decide +kernel)) (mem_app (mem_r [759, 760, 761, 762, 758, 782, 1084, 1086, 68, 83, 1095, 1097, 70, 1099, 1101, 71, 783, 1103, 1105, 72, 1107, 1109, 73, 786, 1111, 1112, 1115, 1117, 74, 1119, 1121, 75, 785] (by decide +kernel)) (mem_app wt_5_in (mem_app tb_X5_draw (mem_app tb_X5_fail (mem_app tb_X5_newArray (mem_app tb_X5_workClone (mem_app tb_X5_isPlace (mem_app tb_X5_cast (mem_app tb_X5_workCopy tb_X5_workFill)))))))))
set_option maxRecDepth 20000 in
theorem tb_X5_run : ∀ w ∈ v_X5_run, w ∈ lw_tbl := mem_c (List.mem_of_getElem? (i := 1083) (by decide +kernel)) (mem_app (mem_r [753, 755, 34, 83, 779, 788, 757, 780, 764, 758, 1091, 1093, 69, 760, 1084, 1086, 68] (by decide +kernel)) (mem_app wt_5_in (mem_app tb_X5_forget (mem_app tb_X5_work tb_X5_draw))))
set_option maxRecDepth 20000 in
theorem tb_X4_where : ∀ w ∈ v_X4_where, w ∈ lw_tbl := mem_c (List.mem_of_getElem? (i := 690) (by decide +kernel)) (mem_app (mem_r [263, 230] (by decide +kernel)) (mem_app wt_4_in wt_2_in))
set_option maxRecDepth 20000 in
theorem tb_X5_where : ∀ w ∈ v_X5_where, w ∈ lw_tbl := mem_c (List.mem_of_getElem? (i := 1126) (by decide +kernel)) (mem_app (mem_r [781] (by decide +kernel)) wt_5_in)
set_option maxRecDepth 20000 in
theorem tb_X4_value : ∀ w ∈ v_X4_value, w ∈ lw_tbl := mem_c (List.mem_of_getElem? (i := 694) (by decide +kernel)) (mem_app (mem_r [561, 295, 78, 263, 232] (by decide +kernel)) (mem_app wt_4_in (mem_app wt_2_in tb_X4_isVariable)))
set_option maxRecDepth 20000 in
theorem tb_X5_value : ∀ w ∈ v_X5_value, w ∈ lw_tbl := mem_c (List.mem_of_getElem? (i := 1130) (by decide +kernel)) (mem_app (mem_r [877, 878, 83, 782] (by decide +kernel)) (mem_app wt_5_in tb_X5_isName))
set_option maxRecDepth 20000 in
theorem tb_X4_place : ∀ w ∈ v_X4_place, w ∈ lw_tbl := mem_c (List.mem_of_getElem? (i := 698) (by decide +kernel)) (mem_app (mem_r [574, 303, 78, 263, 234, 238, 240] (by decide +kernel)) (mem_app wt_4_in (mem_app wt_2_in tb_X4_isReference)))
set_option maxRecDepth 20000 in
theorem tb_X5_place : ∀ w ∈ v_X5_place, w ∈ lw_tbl := mem_c (List.mem_of_getElem? (i := 1134) (by decide +kernel)) (mem_app (mem_r [877, 878, 83, 783, 785, 786] (by decide +kernel)) (mem_app wt_5_in tb_X5_isName))
set_option maxRecDepth 20000 in
theorem tb_X4_length : ∀ w ∈ v_X4_length, w ∈ lw_tbl := mem_c (List.mem_of_getElem? (i := 702) (by decide +kernel)) (mem_app (mem_r [574, 303, 78, 263, 234, 238] (by decide +kernel)) (mem_app wt_4_in (mem_app wt_2_in tb_X4_isReference)))
set_option maxRecDepth 20000 in
theorem tb_X5_length : ∀ w ∈ v_X5_length, w ∈ lw_tbl := mem_c (List.mem_of_getElem? (i := 1138) (by decide +kernel)) (mem_app (mem_r [877, 878, 83, 783, 785] (by decide +kernel)) (mem_app wt_5_in tb_X5_isName))
set_option maxRecDepth 20000 in
theorem tb_X4_same : ∀ w ∈ v_X4_same, w ∈ lw_tbl := mem_c (List.mem_of_getElem? (i := 706) (by decide +kernel)) (mem_app (mem_r [574, 303, 78, 263, 226, 234] (by decide +kernel)) (mem_app wt_4_in (mem_app wt_2_in tb_X4_isReference)))
set_option maxRecDepth 20000 in
theorem tb_X5_same : ∀ w ∈ v_X5_same, w ∈ lw_tbl := mem_c (List.mem_of_getElem? (i := 1142) (by decide +kernel)) (mem_app (mem_r [877, 878, 83, 779, 783] (by decide +kernel)) (mem_app wt_5_in tb_X5_isName))
set_option maxRecDepth 20000 in
theorem tb_X4_throwHolds : ∀ w ∈ v_X4_throwHolds, w ∈ lw_tbl := mem_c (List.mem_of_getElem? (i := 726) (by decide +kernel)) (mem_app (mem_r [263, 230, 261, 316, 317, 318, 79, 262, 192, 194, 228] (by decide +kernel)) (mem_app wt_4_in (mem_app wt_2_in (mem_app wt_1_in tb_X3_hasAct))))
set_option maxRecDepth 20000 in
theorem tb_X4_arrayHolds : ∀ w ∈ v_X4_arrayHolds, w ∈ lw_tbl := mem_c (List.mem_of_getElem? (i := 722) (by decide +kernel)) (mem_app (mem_r [262, 187, 263, 238, 152, 155, 149, 236, 240, 157, 160] (by decide +kernel)) (mem_app wt_4_in (mem_app wt_1_in (mem_app wt_2_in wt_0_in))))
set_option maxRecDepth 20000 in
theorem tb_X4_referenceHolds : ∀ w ∈ v_X4_referenceHolds, w ∈ lw_tbl := mem_c (List.mem_of_getElem? (i := 718) (by decide +kernel)) (mem_app (mem_r [263, 234, 262, 187, 142, 580, 425, 78, 147, 719, 721, 32, 145] (by decide +kernel)) (mem_app wt_4_in (mem_app wt_2_in (mem_app wt_1_in (mem_app wt_0_in (mem_app tb_X4_isIn tb_X4_arrayHolds))))))
set_option maxRecDepth 20000 in
theorem tb_X4_endHolds : ∀ w ∈ v_X4_endHolds, w ∈ lw_tbl := mem_c (List.mem_of_getElem? (i := 714) (by decide +kernel)) (mem_app (mem_r [262, 187, 133, 263, 232, 136, 139, 715, 717, 31, 78] (by decide +kernel)) (mem_app wt_4_in (mem_app wt_1_in (mem_app wt_0_in (mem_app wt_2_in tb_X4_referenceHolds)))))
set_option maxRecDepth 20000 in
theorem tb_X4_holds : ∀ w ∈ v_X4_holds, w ∈ lw_tbl := mem_c (List.mem_of_getElem? (i := 710) (by decide +kernel)) (mem_app (mem_r [262, 261, 324, 325, 326, 80, 263, 621, 622, 623, 82, 228, 723, 725, 33, 78, 711, 713, 30] (by decide +kernel)) (mem_app wt_4_in (mem_app wt_2_in (mem_app tb_X1_follow (mem_app tb_X2_perform (mem_app tb_X4_throwHolds tb_X4_endHolds))))))
set_option maxRecDepth 20000 in
theorem tb_X5_isSo : ∀ w ∈ v_X5_isSo, w ∈ lw_tbl := mem_c (List.mem_of_getElem? (i := 1151) (by decide +kernel)) (mem_app (mem_r [783, 955, 957, 49, 83, 771, 784, 785, 772, 773, 786, 774, 775, 769] (by decide +kernel)) (mem_app wt_5_in tb_X5_has))
set_option maxRecDepth 20000 in
theorem tb_X5_holds : ∀ w ∈ v_X5_holds, w ∈ lw_tbl := mem_c (List.mem_of_getElem? (i := 1146) (by decide +kernel)) (mem_app (mem_r [1147, 1081, 1082, 83, 896, 898, 35, 765, 782, 766, 767, 1148, 1150, 76, 776, 781, 777] (by decide +kernel)) (mem_app wt_5_in (mem_app tb_X5_run (mem_app tb_X5_flow tb_X5_isSo))))
set_option maxRecDepth 20000 in
theorem tb_X3_countKept : ∀ w ∈ v_X3_countKept, w ∈ lw_tbl := mem_c (List.mem_of_getElem? (i := 734) (by decide +kernel)) (mem_app (mem_r [107, 103] (by decide +kernel)) wt_3_in)
set_option maxRecDepth 20000 in
theorem tb_X1_countReached : ∀ w ∈ v_X1_countReached, w ∈ lw_tbl := mem_c (List.mem_of_getElem? (i := 738) (by decide +kernel)) (mem_app (mem_r [191] (by decide +kernel)) wt_1_in)
set_option maxRecDepth 20000 in
theorem tb_X1_countThrowing : ∀ w ∈ v_X1_countThrowing, w ∈ lw_tbl := mem_c (List.mem_of_getElem? (i := 742) (by decide +kernel)) (mem_app (mem_r [193] (by decide +kernel)) wt_1_in)
set_option maxRecDepth 20000 in
theorem tb_X0_countKnown : ∀ w ∈ v_X0_countKnown, w ∈ lw_tbl := mem_c (List.mem_of_getElem? (i := 746) (by decide +kernel)) (mem_app (mem_r [146] (by decide +kernel)) wt_0_in)
set_option maxRecDepth 20000 in
theorem tb_X4_told : ∀ w ∈ v_X4_told, w ∈ lw_tbl := mem_c (List.mem_of_getElem? (i := 730) (by decide +kernel)) (mem_app (mem_r [262, 261, 324, 325, 326, 80, 108, 731, 732, 733, 79, 735, 736, 737, 739, 740, 741, 187, 133, 743, 744, 745, 81] (by decide +kernel)) (mem_app wt_4_in (mem_app wt_3_in (mem_app wt_1_in (mem_app wt_0_in (mem_app tb_X1_follow (mem_app tb_X3_countKept (mem_app tb_X1_countReached (mem_app tb_X1_countThrowing tb_X0_countKnown)))))))))
set_option maxRecDepth 20000 in
theorem tb_X5_told : ∀ w ∈ v_X5_told, w ∈ lw_tbl := mem_c (List.mem_of_getElem? (i := 1155) (by decide +kernel)) (mem_app (mem_r [896, 898, 35, 83, 757, 765, 770, 777, 776, 764] (by decide +kernel)) (mem_app wt_5_in tb_X5_flow))
set_option maxRecDepth 20000 in
theorem tw_X4_init : ∀ w ∈ w_X4_init, w ∈ lw_tbl := mem_r [92, 93, 94, 95, 96, 97, 79, 100, 101, 117, 102, 118, 103, 107, 99, 261, 119, 120, 80, 123, 124, 125, 126, 81, 129, 130, 131, 134, 137, 185, 140, 143, 146, 148, 150, 153, 156, 159, 128, 186, 188, 189, 191, 193, 195, 196, 197, 122, 262, 215, 216, 82, 219, 220, 225, 227, 229, 231, 233, 235, 237, 239, 241, 221, 222, 223, 224, 217, 218, 263, 264, 110, 112, 114, 265, 267, 269, 271, 198, 200, 202, 204, 206, 208, 210, 212, 162, 164, 166, 168, 170, 172, 174, 176, 178, 180, 182, 242, 244, 246, 248, 250, 252, 254, 256, 258] (by decide +kernel)
set_option maxRecDepth 20000 in
theorem gw_X4_init : gdL w_X4_init := gdW (by decide +kernel)
set_option maxRecDepth 20000 in
theorem tw_X5_init : ∀ w ∈ w_X5_init, w ∈ lw_tbl := mem_r [751, 752, 94, 95, 117, 758, 759, 760, 761, 762, 763, 118, 764, 765, 185, 766, 767, 768, 769, 770, 771, 772, 773, 774, 775, 776, 777, 782, 783, 784, 785, 786, 787, 791, 792, 753, 755, 34, 83, 756, 779, 780, 781, 793, 795, 797, 799, 801, 803, 805, 807, 809, 811, 813, 815, 817, 819, 821, 823, 825, 827, 829, 831, 833, 835, 837, 839, 841, 843, 845, 847, 849, 851, 853, 855, 857, 859, 861, 863] (by decide +kernel)
set_option maxRecDepth 20000 in
theorem gw_X5_init : gdL w_X5_init := gdW (by decide +kernel)
