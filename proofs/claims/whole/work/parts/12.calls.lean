/-! the words of each call -/
set_option maxRecDepth 20000 in
theorem cV_J0_335 : gV RJ0 335 yJ0_coder_7d493 cJ0_coder_7d493 1 (some .byte) 0 := by decide +kernel
set_option maxRecDepth 20000 in
theorem cV_J0_492 : gV RJ0 492 yJ0_isLatin1_aae02 cJ0_isLatin1_aae02 1 (some .boolean) 0 := by decide +kernel
set_option maxRecDepth 20000 in
theorem cS_J0_495 : gS RJ0 495 yJ1_charAt_3b067 cJ1_charAt_3b067 2 (some .char) 2 := by decide +kernel
set_option maxRecDepth 20000 in
theorem cS_J0_498 : gS RJ0 498 yJ2_charAt_3b067 cJ2_charAt_3b067 2 (some .char) 2 := by decide +kernel
set_option maxRecDepth 20000 in
theorem cS_J0_1059 : gS RJ0 1059 yJ3_checkIndex_8e157 cJ3_checkIndex_8e157 3 (some .int) 3 := by decide +kernel
set_option maxRecDepth 20000 in
theorem cS_J1_9 : gS RJ1 9 yJ0_checkIndex_df160 cJ0_checkIndex_df160 2 none 2 := by decide +kernel
set_option maxRecDepth 20000 in
theorem cS_J15_105 : gS RJ15 105 yJ3_checkIndex_8e157 cJ3_checkIndex_8e157 3 (some .int) 3 := by decide +kernel
set_option maxRecDepth 20000 in
theorem cS_J2_48 : gS RJ2 48 yJ2_length_9d52b cJ2_length_9d52b 1 (some .int) 1 := by decide +kernel
set_option maxRecDepth 20000 in
theorem cS_J2_67 : gS RJ2 67 yJ2_checkIndex_2214a cJ2_checkIndex_2214a 2 none 2 := by decide +kernel
set_option maxRecDepth 20000 in
theorem cS_J2_71 : gS RJ2 71 yJ2_getChar_3b067 cJ2_getChar_3b067 2 (some .char) 2 := by decide +kernel
set_option maxRecDepth 20000 in
theorem cS_J2_414 : gS RJ2 414 yJ0_checkIndex_df160 cJ0_checkIndex_df160 2 none 2 := by decide +kernel
set_option maxRecDepth 20000 in
theorem cS_J7_300 : gS RJ7 300 yJ7_copyOf_6403c cJ7_copyOf_6403c 4 (some (.array (.object "java/lang/Object"))) 3 := by decide +kernel
set_option maxRecDepth 20000 in
theorem cS_J8_201 : gS RJ8 201 yJ8_hugeLength_7cf53 cJ8_hugeLength_7cf53 3 (some .int) 2 := by decide +kernel
set_option maxRecDepth 20000 in
theorem cI_Jx4a65c_1 : gI RJx4a65c 1 yJxc12de_init_da8c8 cJxc12de_init_da8c8 1 0 := by decide +kernel
set_option maxRecDepth 20000 in
theorem cS_Jx4a65c_66 : gS RJx4a65c 66 yJ7_copyOf_1904c cJ7_copyOf_1904c 2 (some (.array (.object "java/lang/Object"))) 2 := by decide +kernel
set_option maxRecDepth 20000 in
theorem cV_Jx4a65c_69 : gV RJx4a65c 69 yJx4a65c_grow_92f84 cJx4a65c_grow_92f84 4 (some (.array (.object "java/lang/Object"))) 1 := by decide +kernel
set_option maxRecDepth 20000 in
theorem cS_Jx4a65c_73 : gS RJx4a65c 73 yJ8_newLength_cabcc cJ8_newLength_cabcc 4 (some .int) 3 := by decide +kernel
set_option maxRecDepth 20000 in
theorem cS_Jx4a65c_118 : gS RJx4a65c 118 yJ15_checkIndex_7cf53 cJ15_checkIndex_7cf53 2 (some .int) 2 := by decide +kernel
set_option maxRecDepth 20000 in
theorem cV_Jx4a65c_123 : gV RJx4a65c 123 yJx4a65c_elementData_915e3 cJx4a65c_elementData_915e3 2 (some (.object "java/lang/Object")) 1 := by decide +kernel
set_option maxRecDepth 20000 in
theorem cV_Jx4a65c_129 : gV RJx4a65c 129 yJx4a65c_grow_d5877 cJx4a65c_grow_d5877 1 (some (.array (.object "java/lang/Object"))) 0 := by decide +kernel
set_option maxRecDepth 20000 in
theorem cV_Jx4a65c_131 : gV RJx4a65c 131 yJx4a65c_add_72be8 cJx4a65c_add_72be8 4 none 3 := by decide +kernel
set_option maxRecDepth 20000 in
theorem cI_Jxc12de_1 : gI RJxc12de 1 yJxa1e45_init_da8c8 cJxa1e45_init_da8c8 1 0 := by decide +kernel
set_option maxRecDepth 20000 in
theorem cI_L_9 : gI RL 9 yX9_init cX9_init 1 0 := by decide +kernel
set_option maxRecDepth 20000 in
theorem cI_L_12 : gI RL 12 yX10_init cX10_init 2 0 := by decide +kernel
set_option maxRecDepth 20000 in
theorem cV_L_13 : gV RL 13 yX9_say cX9_say 9 (some .int) 7 := by decide +kernel
set_option maxRecDepth 20000 in
theorem cV_L_17 : gV RL 17 yX10_say cX10_say 8 (some .int) 7 := by decide +kernel
set_option maxRecDepth 20000 in
theorem cV_L_18 : gV RL 18 yX9_feed cX9_feed 6 (some .int) 5 := by decide +kernel
set_option maxRecDepth 20000 in
theorem cV_L_22 : gV RL 22 yX10_feed cX10_feed 8 (some .int) 5 := by decide +kernel
set_option maxRecDepth 20000 in
theorem cV_L_23 : gV RL 23 yX9_end cX9_end 2 (some .boolean) 1 := by decide +kernel
set_option maxRecDepth 20000 in
theorem cV_L_27 : gV RL 27 yX10_end cX10_end 2 (some .boolean) 1 := by decide +kernel
set_option maxRecDepth 20000 in
theorem cV_L_28 : gV RL 28 yX9_rules cX9_rules 2 (some .int) 0 := by decide +kernel
set_option maxRecDepth 20000 in
theorem cV_L_32 : gV RL 32 yX10_rules cX10_rules 3 (some .int) 0 := by decide +kernel
set_option maxRecDepth 20000 in
theorem cV_L_33 : gV RL 33 yX9_fault cX9_fault 2 (some .int) 1 := by decide +kernel
set_option maxRecDepth 20000 in
theorem cV_L_37 : gV RL 37 yX10_fault cX10_fault 2 (some .int) 1 := by decide +kernel
set_option maxRecDepth 20000 in
theorem cV_L_38 : gV RL 38 yX9_look cX9_look 2 (some .int) 1 := by decide +kernel
set_option maxRecDepth 20000 in
theorem cV_L_41 : gV RL 41 yX10_look cX10_look 2 (some .int) 1 := by decide +kernel
set_option maxRecDepth 20000 in
theorem cV_L_42 : gV RL 42 yX9_said cX9_said 4 (some .int) 2 := by decide +kernel
set_option maxRecDepth 20000 in
theorem cV_L_46 : gV RL 46 yX10_said cX10_said 5 (some .int) 2 := by decide +kernel
set_option maxRecDepth 20000 in
theorem cV_L_47 : gV RL 47 yX9_paper cX9_paper 2 (some .int) 1 := by decide +kernel
set_option maxRecDepth 20000 in
theorem cV_L_50 : gV RL 50 yX10_paper cX10_paper 2 (some .int) 1 := by decide +kernel
set_option maxRecDepth 20000 in
theorem cV_L_51 : gV RL 51 yX9_straight cX9_straight 7 (some .int) 1 := by decide +kernel
set_option maxRecDepth 20000 in
theorem cV_L_54 : gV RL 54 yX10_straight cX10_straight 4 (some .int) 1 := by decide +kernel
set_option maxRecDepth 20000 in
theorem cV_L_55 : gV RL 55 yX9_mow cX9_mow 7 (some .boolean) 5 := by decide +kernel
set_option maxRecDepth 20000 in
theorem cV_L_59 : gV RL 59 yX10_mow cX10_mow 6 (some .boolean) 5 := by decide +kernel
set_option maxRecDepth 20000 in
theorem cV_L_60 : gV RL 60 yX9_protest cX9_protest 3 (some .boolean) 2 := by decide +kernel
set_option maxRecDepth 20000 in
theorem cV_L_64 : gV RL 64 yX10_protest cX10_protest 3 (some .boolean) 2 := by decide +kernel
set_option maxRecDepth 20000 in
theorem cV_L_65 : gV RL 65 yX9_mowed cX9_mowed 5 (some .int) 3 := by decide +kernel
set_option maxRecDepth 20000 in
theorem cV_L_69 : gV RL 69 yX10_mowed cX10_mowed 4 (some .int) 3 := by decide +kernel
set_option maxRecDepth 20000 in
theorem cV_L_70 : gV RL 70 yX9_spells cX9_spells 3 (some .int) 2 := by decide +kernel
set_option maxRecDepth 20000 in
theorem cV_L_73 : gV RL 73 yX10_spells_ cX10_spells_ 3 (some .int) 2 := by decide +kernel
set_option maxRecDepth 20000 in
theorem cV_L_74 : gV RL 74 yX9_line cX9_line 2 (some .int) 1 := by decide +kernel
set_option maxRecDepth 20000 in
theorem cV_L_77 : gV RL 77 yX10_line cX10_line 2 (some .int) 1 := by decide +kernel
set_option maxRecDepth 20000 in
theorem cV_L_78 : gV RL 78 yX9_quarrel cX9_quarrel 10 (some .boolean) 8 := by decide +kernel
set_option maxRecDepth 20000 in
theorem cV_L_82 : gV RL 82 yX10_quarrel cX10_quarrel 9 (some .boolean) 8 := by decide +kernel
set_option maxRecDepth 20000 in
theorem cV_L_83 : gV RL 83 yX9_split cX9_split 2 (some .int) 1 := by decide +kernel
set_option maxRecDepth 20000 in
theorem cV_L_86 : gV RL 86 yX10_split cX10_split 7 (some .int) 1 := by decide +kernel
set_option maxRecDepth 20000 in
theorem cV_X0_19 : gV RX0 19 yX0_reset cX0_reset 2 none 0 := by decide +kernel
set_option maxRecDepth 20000 in
theorem cS_X0_22 : gS RX0 22 yJ7_fill_53178 cJ7_fill_53178 4 none 2 := by decide +kernel
set_option maxRecDepth 20000 in
theorem cV_X1_37 : gV RX1 37 yX0_reset cX0_reset 2 none 0 := by decide +kernel
set_option maxRecDepth 20000 in
theorem cV_X1_42 : gV RX1 42 yX1_advance cX1_advance 1 none 0 := by decide +kernel
set_option maxRecDepth 20000 in
theorem cV_X1_45 : gV RX1 45 yX1_readLine cX1_readLine 5 none 1 := by decide +kernel
set_option maxRecDepth 20000 in
theorem cV_X1_49 : gV RX1 49 yX1_demand cX1_demand 3 none 2 := by decide +kernel
set_option maxRecDepth 20000 in
theorem cV_X1_53 : gV RX1 53 yX1_kindHere cX1_kindHere 1 (some .int) 0 := by decide +kernel
set_option maxRecDepth 20000 in
theorem cV_X1_57 : gV RX1 57 yX1_numberHere cX1_numberHere 2 (some .int) 1 := by decide +kernel
set_option maxRecDepth 20000 in
theorem cS_X1_61 : gS RX1 61 yX1_enact cX1_enact 5 none 4 := by decide +kernel
set_option maxRecDepth 20000 in
theorem cS_X1_65 : gS RX1 65 yX1_fits cX1_fits 2 (some .boolean) 2 := by decide +kernel
set_option maxRecDepth 20000 in
theorem cS_X1_95 : gS RX1 95 yX1_isBlank cX1_isBlank 1 (some .boolean) 1 := by decide +kernel
set_option maxRecDepth 20000 in
theorem cS_X1_99 : gS RX1 99 yX1_isLetter cX1_isLetter 1 (some .boolean) 1 := by decide +kernel
set_option maxRecDepth 20000 in
theorem cV_X1_102 : gV RX1 102 yX1_scanWord cX1_scanWord 2 none 0 := by decide +kernel
set_option maxRecDepth 20000 in
theorem cS_X1_105 : gS RX1 105 yX1_isDigit cX1_isDigit 1 (some .boolean) 1 := by decide +kernel
set_option maxRecDepth 20000 in
theorem cV_X1_108 : gV RX1 108 yX1_scanNumber cX1_scanNumber 2 none 0 := by decide +kernel
set_option maxRecDepth 20000 in
theorem cS_X1_111 : gS RX1 111 yX1_keyword cX1_keyword 1 (some (.object "java/lang/String")) 1 := by decide +kernel
set_option maxRecDepth 20000 in
theorem cV_X1_115 : gV RX1 115 yX1_isSpelled cX1_isSpelled 3 (some .boolean) 1 := by decide +kernel
set_option maxRecDepth 20000 in
theorem cV_X1_119 : gV RX1 119 yJ0_length_8abf5 cJ0_length_8abf5 1 (some .int) 0 := by decide +kernel
set_option maxRecDepth 20000 in
theorem cV_X1_123 : gV RX1 123 yJ0_charAt_5068e cJ0_charAt_5068e 2 (some .char) 1 := by decide +kernel
set_option maxRecDepth 20000 in
theorem cS_X10_90 : gS RX10 90 yX10_isIn cX10_isIn 3 (some .boolean) 3 := by decide +kernel
set_option maxRecDepth 20000 in
theorem cS_X10_94 : gS RX10 94 yX10_isStation cX10_isStation 1 (some .boolean) 1 := by decide +kernel
set_option maxRecDepth 20000 in
theorem cS_X10_98 : gS RX10 98 yX10_isSpan cX10_isSpan 2 (some .boolean) 2 := by decide +kernel
set_option maxRecDepth 20000 in
theorem cS_X10_102 : gS RX10 102 yX10_isFoot cX10_isFoot 1 (some .boolean) 1 := by decide +kernel
set_option maxRecDepth 20000 in
theorem cS_X10_105 : gS RX10 105 yX10_isYear cX10_isYear 1 (some .boolean) 1 := by decide +kernel
set_option maxRecDepth 20000 in
theorem cV_X10_139 : gV RX10 139 yX10_see cX10_see 2 (some .int) 1 := by decide +kernel
set_option maxRecDepth 20000 in
theorem cS_X10_149 : gS RX10 149 yX10_isLetter cX10_isLetter 1 (some .boolean) 1 := by decide +kernel
set_option maxRecDepth 20000 in
theorem cS_X10_152 : gS RX10 152 yX10_word cX10_word 2 (some .int) 1 := by decide +kernel
set_option maxRecDepth 20000 in
theorem cS_X10_156 : gS RX10 156 yX10_isDigit cX10_isDigit 1 (some .boolean) 1 := by decide +kernel
set_option maxRecDepth 20000 in
theorem cV_X10_168 : gV RX10 168 yX10_bad cX10_bad 2 (some .boolean) 1 := by decide +kernel
set_option maxRecDepth 20000 in
theorem cV_X10_174 : gV RX10 174 yX10_next0 cX10_next0 5 none 0 := by decide +kernel
set_option maxRecDepth 20000 in
theorem cV_X10_177 : gV RX10 177 yX10_aKind cX10_aKind 1 (some .boolean) 0 := by decide +kernel
set_option maxRecDepth 20000 in
theorem cV_X10_181 : gV RX10 181 yX10_aNumber cX10_aNumber 3 (some .boolean) 2 := by decide +kernel
set_option maxRecDepth 20000 in
theorem cV_X10_184 : gV RX10 184 yX10_aLine cX10_aLine 2 (some .boolean) 0 := by decide +kernel
set_option maxRecDepth 20000 in
theorem cV_X10_193 : gV RX10 193 yX10_tells cX10_tells 4 none 3 := by decide +kernel
set_option maxRecDepth 20000 in
theorem cV_X10_200 : gV RX10 200 yX10_moved cX10_moved 4 (some .int) 2 := by decide +kernel
set_option maxRecDepth 20000 in
theorem cV_X10_204 : gV RX10 204 yX10_counts cX10_counts 5 (some .boolean) 2 := by decide +kernel
set_option maxRecDepth 20000 in
theorem cS_X10_207 : gS RX10 207 yX10_abs cX10_abs 1 (some .int) 1 := by decide +kernel
set_option maxRecDepth 20000 in
theorem cV_X10_210 : gV RX10 210 yX10_costAt cX10_costAt 7 (some .int) 2 := by decide +kernel
set_option maxRecDepth 20000 in
theorem cV_X10_213 : gV RX10 213 yX10_onFrom cX10_onFrom 3 (some .int) 2 := by decide +kernel
set_option maxRecDepth 20000 in
theorem cV_X10_216 : gV RX10 216 yX10_lines cX10_lines 6 none 0 := by decide +kernel
set_option maxRecDepth 20000 in
theorem cV_X10_221 : gV RX10 221 yX10_isProtested cX10_isProtested 5 (some .boolean) 2 := by decide +kernel
set_option maxRecDepth 20000 in
theorem cV_X10_224 : gV RX10 224 yX10_mowedIn cX10_mowedIn 6 (some .int) 3 := by decide +kernel
set_option maxRecDepth 20000 in
theorem cV_X10_234 : gV RX10 234 yX10_goes cX10_goes 9 none 3 := by decide +kernel
set_option maxRecDepth 20000 in
theorem cV_X10_237 : gV RX10 237 yX10_spells cX10_spells 4 none 1 := by decide +kernel
set_option maxRecDepth 20000 in
theorem cV_X10_269 : gV RX10 269 yX10_gain cX10_gain 4 (some .int) 1 := by decide +kernel
set_option maxRecDepth 20000 in
theorem cV_X2_37 : gV RX2 37 yX2_noteYear cX2_noteYear 5 none 1 := by decide +kernel
set_option maxRecDepth 20000 in
theorem cS_X3_24 : gS RX3 24 yJ7_fill_53178 cJ7_fill_53178 4 none 2 := by decide +kernel
set_option maxRecDepth 20000 in
theorem cS_X3_35 : gS RX3 35 yX3_bendTowards cX3_bendTowards 4 none 3 := by decide +kernel
set_option maxRecDepth 20000 in
theorem cS_X3_39 : gS RX3 39 yX3_addMisses cX3_addMisses 10 none 4 := by decide +kernel
set_option maxRecDepth 20000 in
theorem cV_X3_43 : gV RX3 43 yX3_chooseFeet cX3_chooseFeet 3 none 1 := by decide +kernel
set_option maxRecDepth 20000 in
theorem cV_X3_59 : gV RX3 59 yJx4a65c_size_8abf5 cJx4a65c_size_8abf5 1 (some .int) 0 := by decide +kernel
set_option maxRecDepth 20000 in
theorem cV_X3_65 : gV RX3 65 yJx4a65c_get_915e3 cJx4a65c_get_915e3 2 (some (.object "java/lang/Object")) 1 := by decide +kernel
set_option maxRecDepth 20000 in
theorem cV_X3_71 : gV RX3 71 yX6_countsAt cX6_countsAt 6 (some .boolean) 3 := by decide +kernel
set_option maxRecDepth 20000 in
theorem cV_X3_84 : gV RX3 84 yX6_counted cX6_counted 4 (some .int) 2 := by decide +kernel
set_option maxRecDepth 20000 in
theorem cS_X3_95 : gS RX3 95 yX3_cheapest cX3_cheapest 5 (some .int) 3 := by decide +kernel
set_option maxRecDepth 20000 in
theorem cS_X3_99 : gS RX3 99 yX3_priceOf cX3_priceOf 4 (some .int) 4 := by decide +kernel
set_option maxRecDepth 20000 in
theorem cV_X4_22 : gV RX4 22 yX4_isTold cX4_isTold 4 (some .boolean) 2 := by decide +kernel
set_option maxRecDepth 20000 in
theorem cV_X5_48 : gV RX5 48 yX5_gainOf cX5_gainOf 4 (some .int) 2 := by decide +kernel
set_option maxRecDepth 20000 in
theorem cV_X6_47 : gV RX6 47 yX6_has cX6_has 2 (some .boolean) 1 := by decide +kernel
set_option maxRecDepth 20000 in
theorem cV_X6_55 : gV RX6 55 yJx4a65c_size_8abf5 cJx4a65c_size_8abf5 1 (some .int) 0 := by decide +kernel
set_option maxRecDepth 20000 in
theorem cV_X6_61 : gV RX6 61 yJx4a65c_get_915e3 cJx4a65c_get_915e3 2 (some (.object "java/lang/Object")) 1 := by decide +kernel
set_option maxRecDepth 20000 in
theorem cS_X8_38 : gS RX8 38 yJ7_fill_53178 cJ7_fill_53178 4 none 2 := by decide +kernel
set_option maxRecDepth 20000 in
theorem cV_X8_49 : gV RX8 49 yX8_extendRun cX8_extendRun 9 none 4 := by decide +kernel
set_option maxRecDepth 20000 in
theorem cV_X8_53 : gV RX8 53 yX8_nearest cX8_nearest 6 (some .int) 3 := by decide +kernel
set_option maxRecDepth 20000 in
theorem cV_X8_60 : gV RX8 60 yX8_moveLine cX8_moveLine 4 none 3 := by decide +kernel
set_option maxRecDepth 20000 in
theorem cV_X8_64 : gV RX8 64 yX2_reachOf cX2_reachOf 5 (some .int) 3 := by decide +kernel
set_option maxRecDepth 20000 in
theorem cS_X8_67 : gS RX8 67 yX8_isBeyond cX8_isBeyond 3 (some .boolean) 3 := by decide +kernel
set_option maxRecDepth 20000 in
theorem cV_X8_71 : gV RX8 71 yX4_isTold cX4_isTold 4 (some .boolean) 2 := by decide +kernel
set_option maxRecDepth 20000 in
theorem cI_X9_9 : gI RX9 9 yJx4a65c_init_da8c8 cJx4a65c_init_da8c8 1 0 := by decide +kernel
set_option maxRecDepth 20000 in
theorem cI_X9_25 : gI RX9 25 yX1_init cX1_init 2 1 := by decide +kernel
set_option maxRecDepth 20000 in
theorem cI_X9_55 : gI RX9 55 yX8_init cX8_init 3 2 := by decide +kernel
set_option maxRecDepth 20000 in
theorem cI_X9_71 : gI RX9 71 yX0_init cX0_init 1 0 := by decide +kernel
set_option maxRecDepth 20000 in
theorem cS_X9_83 : gS RX9 83 yX9_below cX9_below 2 (some .boolean) 2 := by decide +kernel
set_option maxRecDepth 20000 in
theorem cS_X9_87 : gS RX9 87 yX9_isStretch cX9_isStretch 3 (some .boolean) 3 := by decide +kernel
set_option maxRecDepth 20000 in
theorem cV_X9_91 : gV RX9 91 yJx4a65c_size_8abf5 cJx4a65c_size_8abf5 1 (some .int) 0 := by decide +kernel
set_option maxRecDepth 20000 in
theorem cI_X9_97 : gI RX9 97 yX6_init cX6_init 8 7 := by decide +kernel
set_option maxRecDepth 20000 in
theorem cV_X9_100 : gV RX9 100 yJx4a65c_add_9ea2d cJx4a65c_add_9ea2d 2 (some .boolean) 1 := by decide +kernel
set_option maxRecDepth 20000 in
theorem cV_X9_108 : gV RX9 108 yX7_append cX7_append 3 none 1 := by decide +kernel
set_option maxRecDepth 20000 in
theorem cV_X9_112 : gV RX9 112 yX7_cut cX7_cut 2 (some .boolean) 1 := by decide +kernel
set_option maxRecDepth 20000 in
theorem cV_X9_116 : gV RX9 116 yX1_read cX1_read 3 none 1 := by decide +kernel
set_option maxRecDepth 20000 in
theorem cV_X9_141 : gV RX9 141 yX9_lookAtKinds cX9_lookAtKinds 2 (some .int) 1 := by decide +kernel
set_option maxRecDepth 20000 in
theorem cV_X9_153 : gV RX9 153 yJx4a65c_get_915e3 cJx4a65c_get_915e3 2 (some (.object "java/lang/Object")) 1 := by decide +kernel
set_option maxRecDepth 20000 in
theorem cV_X9_163 : gV RX9 163 yX6_counted cX6_counted 4 (some .int) 2 := by decide +kernel
set_option maxRecDepth 20000 in
theorem cV_X9_173 : gV RX9 173 yX9_stationsOf cX9_stationsOf 4 (some .int) 1 := by decide +kernel
set_option maxRecDepth 20000 in
theorem cV_X9_183 : gV RX9 183 yX6_countsAt cX6_countsAt 6 (some .boolean) 3 := by decide +kernel
set_option maxRecDepth 20000 in
theorem cV_X9_187 : gV RX9 187 yX9_drawPaperLine cX9_drawPaperLine 1 none 0 := by decide +kernel
set_option maxRecDepth 20000 in
theorem cV_X9_196 : gV RX9 196 yX3_draw cX3_draw 5 none 2 := by decide +kernel
set_option maxRecDepth 20000 in
theorem cS_X9_200 : gS RX9 200 yJ6_bitCount_0f7a4 cJ6_bitCount_0f7a4 1 (some .int) 1 := by decide +kernel
set_option maxRecDepth 20000 in
theorem cS_X9_205 : gS RX9 205 yX9_missOf cX9_missOf 3 (some .int) 3 := by decide +kernel
set_option maxRecDepth 20000 in
theorem cV_X9_209 : gV RX9 209 yX2_tell cX2_tell 6 (some .boolean) 5 := by decide +kernel
set_option maxRecDepth 20000 in
theorem cV_X9_213 : gV RX9 213 yX4_tell cX4_tell 3 (some .boolean) 2 := by decide +kernel
set_option maxRecDepth 20000 in
theorem cV_X9_215 : gV RX9 215 yX2_reachOf cX2_reachOf 5 (some .int) 3 := by decide +kernel
set_option maxRecDepth 20000 in
theorem cV_X9_218 : gV RX9 218 yX9_drawTrueLine cX9_drawTrueLine 2 none 1 := by decide +kernel
set_option maxRecDepth 20000 in
theorem cV_X9_230 : gV RX9 230 yX8_draw cX8_draw 6 none 3 := by decide +kernel
set_option maxRecDepth 20000 in
theorem cS_X9_233 : gS RX9 233 yX5_isParty cX5_isParty 3 (some .boolean) 3 := by decide +kernel
set_option maxRecDepth 20000 in
theorem cV_X9_236 : gV RX9 236 yX5_open cX5_open 3 none 2 := by decide +kernel
set_option maxRecDepth 20000 in
theorem cV_X9_240 : gV RX9 240 yX5_setParty cX5_setParty 5 none 4 := by decide +kernel
set_option maxRecDepth 20000 in
theorem cV_X9_244 : gV RX9 244 yX5_judge cX5_judge 4 none 0 := by decide +kernel
