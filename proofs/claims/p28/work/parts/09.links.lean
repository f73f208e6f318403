theorem fl_X4_9 : gFl RX4 9 4 0 := ⟨_, _, _, rfl, wu_X4, by decide, wf_X4_9⟩
theorem fl_X5_86 : gFl RX5 86 4 0 := ⟨_, _, _, rfl, wu_X4, by decide, wf_X5_86⟩
theorem fl_X7_88 : gFl RX7 88 4 0 := ⟨_, _, _, rfl, wu_X4, by decide, wf_X7_88⟩
theorem fl_X1_51 : gFl RX1 51 4 0 := ⟨_, _, _, rfl, wu_X4, by decide, wf_X1_51⟩
theorem fl_X4_15 : gFl RX4 15 4 1 := ⟨_, _, _, rfl, wu_X4, by decide, wf_X4_15⟩
theorem fl_X5_72 : gFl RX5 72 4 1 := ⟨_, _, _, rfl, wu_X4, by decide, wf_X5_72⟩
theorem fl_X7_91 : gFl RX7 91 4 1 := ⟨_, _, _, rfl, wu_X4, by decide, wf_X7_91⟩
theorem fl_X4_18 : gFl RX4 18 4 2 := ⟨_, _, _, rfl, wu_X4, by decide, wf_X4_18⟩
theorem fl_X7_100 : gFl RX7 100 4 2 := ⟨_, _, _, rfl, wu_X4, by decide, wf_X7_100⟩
theorem fl_X5_106 : gFl RX5 106 4 2 := ⟨_, _, _, rfl, wu_X4, by decide, wf_X5_106⟩
theorem fl_X4_21 : gFl RX4 21 4 3 := ⟨_, _, _, rfl, wu_X4, by decide, wf_X4_21⟩
theorem fl_X7_112 : gFl RX7 112 4 3 := ⟨_, _, _, rfl, wu_X4, by decide, wf_X7_112⟩
theorem fl_X7_34 : gFl RX7 34 4 4 := ⟨_, _, _, rfl, wu_X4, by decide, wf_X7_34⟩
theorem fp_X7_34 : gFp RX7 34 4 4 .int := ⟨_, _, _, tyX4, rfl, wu_X4, by decide, wf_X7_34, tyX4_ok, nmX4, rfl, by decide +kernel⟩
theorem fl_X4_28 : gFl RX4 28 4 4 := ⟨_, _, _, rfl, wu_X4, by decide, wf_X4_28⟩
theorem fp_X4_28 : gFp RX4 28 4 4 .int := ⟨_, _, _, tyX4, rfl, wu_X4, by decide, wf_X4_28, tyX4_ok, nmX4, rfl, by decide +kernel⟩
theorem fl_X5_75 : gFl RX5 75 4 4 := ⟨_, _, _, rfl, wu_X4, by decide, wf_X5_75⟩
theorem fp_X5_75 : gFp RX5 75 4 4 .int := ⟨_, _, _, tyX4, rfl, wu_X4, by decide, wf_X5_75, tyX4_ok, nmX4, rfl, by decide +kernel⟩
theorem fl_X2_9 : gFl RX2 9 2 0 := ⟨_, _, _, rfl, wu_X2, by decide, wf_X2_9⟩
theorem fl_X7_128 : gFl RX7 128 2 0 := ⟨_, _, _, rfl, wu_X2, by decide, wf_X7_128⟩
theorem fl_X2_15 : gFl RX2 15 2 1 := ⟨_, _, _, rfl, wu_X2, by decide, wf_X2_15⟩
theorem fl_X7_115 : gFl RX7 115 2 1 := ⟨_, _, _, rfl, wu_X2, by decide, wf_X7_115⟩
theorem fl_X5_115 : gFl RX5 115 2 1 := ⟨_, _, _, rfl, wu_X2, by decide, wf_X5_115⟩
theorem fl_X2_18 : gFl RX2 18 2 2 := ⟨_, _, _, rfl, wu_X2, by decide, wf_X2_18⟩
theorem fl_X5_118 : gFl RX5 118 2 2 := ⟨_, _, _, rfl, wu_X2, by decide, wf_X5_118⟩
theorem fl_X2_21 : gFl RX2 21 2 3 := ⟨_, _, _, rfl, wu_X2, by decide, wf_X2_21⟩
theorem fl_X5_170 : gFl RX5 170 2 3 := ⟨_, _, _, rfl, wu_X2, by decide, wf_X5_170⟩
theorem fl_X7_237 : gFl RX7 237 2 3 := ⟨_, _, _, rfl, wu_X2, by decide, wf_X7_237⟩
theorem fl_X2_24 : gFl RX2 24 2 4 := ⟨_, _, _, rfl, wu_X2, by decide, wf_X2_24⟩
theorem fl_X7_121 : gFl RX7 121 2 4 := ⟨_, _, _, rfl, wu_X2, by decide, wf_X7_121⟩
theorem fl_X5_178 : gFl RX5 178 2 4 := ⟨_, _, _, rfl, wu_X2, by decide, wf_X5_178⟩
theorem fl_X2_27 : gFl RX2 27 2 5 := ⟨_, _, _, rfl, wu_X2, by decide, wf_X2_27⟩
theorem fl_X5_181 : gFl RX5 181 2 5 := ⟨_, _, _, rfl, wu_X2, by decide, wf_X5_181⟩
theorem fl_X7_240 : gFl RX7 240 2 5 := ⟨_, _, _, rfl, wu_X2, by decide, wf_X7_240⟩
theorem fl_X2_38 : gFl RX2 38 2 6 := ⟨_, _, _, rfl, wu_X2, by decide, wf_X2_38⟩
theorem fp_X2_38 : gFp RX2 38 2 6 .int := ⟨_, _, _, tyX2, rfl, wu_X2, by decide, wf_X2_38, tyX2_ok, nmX2, rfl, by decide +kernel⟩
theorem fl_X7_70 : gFl RX7 70 2 6 := ⟨_, _, _, rfl, wu_X2, by decide, wf_X7_70⟩
theorem fp_X7_70 : gFp RX7 70 2 6 .int := ⟨_, _, _, tyX2, rfl, wu_X2, by decide, wf_X7_70, tyX2_ok, nmX2, rfl, by decide +kernel⟩
theorem fl_X5_173 : gFl RX5 173 2 6 := ⟨_, _, _, rfl, wu_X2, by decide, wf_X5_173⟩
theorem fp_X5_173 : gFp RX5 173 2 6 .int := ⟨_, _, _, tyX2, rfl, wu_X2, by decide, wf_X5_173, tyX2_ok, nmX2, rfl, by decide +kernel⟩
theorem fl_X2_30 : gFl RX2 30 2 7 := ⟨_, _, _, rfl, wu_X2, by decide, wf_X2_30⟩
theorem fp_X2_30 : gFp RX2 30 2 7 .int := ⟨_, _, _, tyX2, rfl, wu_X2, by decide, wf_X2_30, tyX2_ok, nmX2, rfl, by decide +kernel⟩
theorem fl_X7_130 : gFl RX7 130 2 7 := ⟨_, _, _, rfl, wu_X2, by decide, wf_X7_130⟩
theorem fp_X7_130 : gFp RX7 130 2 7 .int := ⟨_, _, _, tyX2, rfl, wu_X2, by decide, wf_X7_130, tyX2_ok, nmX2, rfl, by decide +kernel⟩
theorem fl_X5_167 : gFl RX5 167 2 7 := ⟨_, _, _, rfl, wu_X2, by decide, wf_X5_167⟩
theorem fp_X5_167 : gFp RX5 167 2 7 .int := ⟨_, _, _, tyX2, rfl, wu_X2, by decide, wf_X5_167, tyX2_ok, nmX2, rfl, by decide +kernel⟩
theorem fl_X0_9 : gFl RX0 9 0 0 := ⟨_, _, _, rfl, wu_X0, by decide, wf_X0_9⟩
theorem fl_X5_121 : gFl RX5 121 0 0 := ⟨_, _, _, rfl, wu_X0, by decide, wf_X5_121⟩
theorem fl_X7_164 : gFl RX7 164 0 0 := ⟨_, _, _, rfl, wu_X0, by decide, wf_X7_164⟩
theorem fl_X0_19 : gFl RX0 19 0 1 := ⟨_, _, _, rfl, wu_X0, by decide, wf_X0_19⟩
theorem fp_X0_19 : gFp RX0 19 0 1 .boolean := ⟨_, _, _, tyX0, rfl, wu_X0, by decide, wf_X0_19, tyX0_ok, nmX0, rfl, by decide +kernel⟩
theorem fl_X5_89 : gFl RX5 89 0 1 := ⟨_, _, _, rfl, wu_X0, by decide, wf_X5_89⟩
theorem fp_X5_89 : gFp RX5 89 0 1 .boolean := ⟨_, _, _, tyX0, rfl, wu_X0, by decide, wf_X5_89, tyX0_ok, nmX0, rfl, by decide +kernel⟩
theorem fl_X7_136 : gFl RX7 136 0 1 := ⟨_, _, _, rfl, wu_X0, by decide, wf_X7_136⟩
theorem fp_X7_136 : gFp RX7 136 0 1 .boolean := ⟨_, _, _, tyX0, rfl, wu_X0, by decide, wf_X7_136, tyX0_ok, nmX0, rfl, by decide +kernel⟩
theorem fl_X0_23 : gFl RX0 23 0 2 := ⟨_, _, _, rfl, wu_X0, by decide, wf_X0_23⟩
theorem fp_X0_23 : gFp RX0 23 0 2 .boolean := ⟨_, _, _, tyX0, rfl, wu_X0, by decide, wf_X0_23, tyX0_ok, nmX0, rfl, by decide +kernel⟩
theorem fl_X5_93 : gFl RX5 93 0 2 := ⟨_, _, _, rfl, wu_X0, by decide, wf_X5_93⟩
theorem fp_X5_93 : gFp RX5 93 0 2 .boolean := ⟨_, _, _, tyX0, rfl, wu_X0, by decide, wf_X5_93, tyX0_ok, nmX0, rfl, by decide +kernel⟩
theorem fl_X0_26 : gFl RX0 26 0 3 := ⟨_, _, _, rfl, wu_X0, by decide, wf_X0_26⟩
theorem fp_X0_26 : gFp RX0 26 0 3 .int := ⟨_, _, _, tyX0, rfl, wu_X0, by decide, wf_X0_26, tyX0_ok, nmX0, rfl, by decide +kernel⟩
theorem fl_X7_56 : gFl RX7 56 0 3 := ⟨_, _, _, rfl, wu_X0, by decide, wf_X7_56⟩
theorem fp_X7_56 : gFp RX7 56 0 3 .int := ⟨_, _, _, tyX0, rfl, wu_X0, by decide, wf_X7_56, tyX0_ok, nmX0, rfl, by decide +kernel⟩
theorem fl_X5_96 : gFl RX5 96 0 3 := ⟨_, _, _, rfl, wu_X0, by decide, wf_X5_96⟩
theorem fp_X5_96 : gFp RX5 96 0 3 .int := ⟨_, _, _, tyX0, rfl, wu_X0, by decide, wf_X5_96, tyX0_ok, nmX0, rfl, by decide +kernel⟩
theorem fl_X0_30 : gFl RX0 30 0 4 := ⟨_, _, _, rfl, wu_X0, by decide, wf_X0_30⟩
theorem fp_X0_30 : gFp RX0 30 0 4 .int := ⟨_, _, _, tyX0, rfl, wu_X0, by decide, wf_X0_30, tyX0_ok, nmX0, rfl, by decide +kernel⟩
theorem fl_X5_99 : gFl RX5 99 0 4 := ⟨_, _, _, rfl, wu_X0, by decide, wf_X5_99⟩
theorem fp_X5_99 : gFp RX5 99 0 4 .int := ⟨_, _, _, tyX0, rfl, wu_X0, by decide, wf_X5_99, tyX0_ok, nmX0, rfl, by decide +kernel⟩
theorem fl_X7_152 : gFl RX7 152 0 4 := ⟨_, _, _, rfl, wu_X0, by decide, wf_X7_152⟩
theorem fp_X7_152 : gFp RX7 152 0 4 .int := ⟨_, _, _, tyX0, rfl, wu_X0, by decide, wf_X7_152, tyX0_ok, nmX0, rfl, by decide +kernel⟩
theorem fl_X1_9 : gFl RX1 9 1 0 := ⟨_, _, _, rfl, wu_X1, by decide, wf_X1_9⟩
theorem fl_X7_182 : gFl RX7 182 1 0 := ⟨_, _, _, rfl, wu_X1, by decide, wf_X7_182⟩
theorem fl_X1_15 : gFl RX1 15 1 1 := ⟨_, _, _, rfl, wu_X1, by decide, wf_X1_15⟩
theorem fl_X5_153 : gFl RX5 153 1 1 := ⟨_, _, _, rfl, wu_X1, by decide, wf_X5_153⟩
theorem fl_X7_185 : gFl RX7 185 1 1 := ⟨_, _, _, rfl, wu_X1, by decide, wf_X7_185⟩
theorem fl_X1_18 : gFl RX1 18 1 2 := ⟨_, _, _, rfl, wu_X1, by decide, wf_X1_18⟩
theorem fl_X7_188 : gFl RX7 188 1 2 := ⟨_, _, _, rfl, wu_X1, by decide, wf_X7_188⟩
theorem fl_X1_21 : gFl RX1 21 1 3 := ⟨_, _, _, rfl, wu_X1, by decide, wf_X1_21⟩
theorem fl_X7_191 : gFl RX7 191 1 3 := ⟨_, _, _, rfl, wu_X1, by decide, wf_X7_191⟩
theorem fl_X1_24 : gFl RX1 24 1 4 := ⟨_, _, _, rfl, wu_X1, by decide, wf_X1_24⟩
theorem fl_X5_187 : gFl RX5 187 1 4 := ⟨_, _, _, rfl, wu_X1, by decide, wf_X5_187⟩
theorem fl_X7_194 : gFl RX7 194 1 4 := ⟨_, _, _, rfl, wu_X1, by decide, wf_X7_194⟩
theorem fl_X1_27 : gFl RX1 27 1 5 := ⟨_, _, _, rfl, wu_X1, by decide, wf_X1_27⟩
theorem fl_X7_200 : gFl RX7 200 1 5 := ⟨_, _, _, rfl, wu_X1, by decide, wf_X7_200⟩
theorem fl_X1_30 : gFl RX1 30 1 6 := ⟨_, _, _, rfl, wu_X1, by decide, wf_X1_30⟩
theorem fl_X7_206 : gFl RX7 206 1 6 := ⟨_, _, _, rfl, wu_X1, by decide, wf_X7_206⟩
theorem fl_X1_33 : gFl RX1 33 1 7 := ⟨_, _, _, rfl, wu_X1, by decide, wf_X1_33⟩
theorem fl_X1_40 : gFl RX1 40 1 8 := ⟨_, _, _, rfl, wu_X1, by decide, wf_X1_40⟩
theorem fp_X1_40 : gFp RX1 40 1 8 .int := ⟨_, _, _, tyX1, rfl, wu_X1, by decide, wf_X1_40, tyX1_ok, nmX1, rfl, by decide +kernel⟩
theorem fl_X5_102 : gFl RX5 102 1 8 := ⟨_, _, _, rfl, wu_X1, by decide, wf_X5_102⟩
theorem fp_X5_102 : gFp RX5 102 1 8 .int := ⟨_, _, _, tyX1, rfl, wu_X1, by decide, wf_X5_102, tyX1_ok, nmX1, rfl, by decide +kernel⟩
theorem fl_X7_140 : gFl RX7 140 1 8 := ⟨_, _, _, rfl, wu_X1, by decide, wf_X7_140⟩
theorem fp_X7_140 : gFp RX7 140 1 8 .int := ⟨_, _, _, tyX1, rfl, wu_X1, by decide, wf_X7_140, tyX1_ok, nmX1, rfl, by decide +kernel⟩
theorem fl_X1_44 : gFl RX1 44 1 9 := ⟨_, _, _, rfl, wu_X1, by decide, wf_X1_44⟩
theorem fp_X1_44 : gFp RX1 44 1 9 .int := ⟨_, _, _, tyX1, rfl, wu_X1, by decide, wf_X1_44, tyX1_ok, nmX1, rfl, by decide +kernel⟩
theorem fl_X5_103 : gFl RX5 103 1 9 := ⟨_, _, _, rfl, wu_X1, by decide, wf_X5_103⟩
theorem fp_X5_103 : gFp RX5 103 1 9 .int := ⟨_, _, _, tyX1, rfl, wu_X1, by decide, wf_X5_103, tyX1_ok, nmX1, rfl, by decide +kernel⟩
theorem fl_X5_12 : gFl RX5 12 5 0 := ⟨_, _, _, rfl, wu_X5, by decide, wf_X5_12⟩
theorem fl_X7_30 : gFl RX7 30 5 0 := ⟨_, _, _, rfl, wu_X5, by decide, wf_X7_30⟩
theorem fl_X5_21 : gFl RX5 21 5 1 := ⟨_, _, _, rfl, wu_X5, by decide, wf_X5_21⟩
theorem fl_X7_61 : gFl RX7 61 5 1 := ⟨_, _, _, rfl, wu_X5, by decide, wf_X7_61⟩
theorem fl_X5_28 : gFl RX5 28 5 2 := ⟨_, _, _, rfl, wu_X5, by decide, wf_X5_28⟩
theorem fl_X7_52 : gFl RX7 52 5 2 := ⟨_, _, _, rfl, wu_X5, by decide, wf_X7_52⟩
theorem fl_X5_35 : gFl RX5 35 5 3 := ⟨_, _, _, rfl, wu_X5, by decide, wf_X5_35⟩
theorem fl_X7_103 : gFl RX7 103 5 3 := ⟨_, _, _, rfl, wu_X5, by decide, wf_X7_103⟩
theorem fl_X5_48 : gFl RX5 48 5 4 := ⟨_, _, _, rfl, wu_X5, by decide, wf_X5_48⟩
theorem fl_X7_82 : gFl RX7 82 5 4 := ⟨_, _, _, rfl, wu_X5, by decide, wf_X7_82⟩
theorem fl_X5_68 : gFl RX5 68 5 5 := ⟨_, _, _, rfl, wu_X5, by decide, wf_X5_68⟩
theorem fp_X5_68 : gFp RX5 68 5 5 .int := ⟨_, _, _, tyX5, rfl, wu_X5, by decide, wf_X5_68, tyX5_ok, nmX5, rfl, by decide +kernel⟩
theorem fl_X7_133 : gFl RX7 133 5 5 := ⟨_, _, _, rfl, wu_X5, by decide, wf_X7_133⟩
theorem fp_X7_133 : gFp RX7 133 5 5 .int := ⟨_, _, _, tyX5, rfl, wu_X5, by decide, wf_X7_133, tyX5_ok, nmX5, rfl, by decide +kernel⟩
theorem fl_X3_11 : gFl RX3 11 3 0 := ⟨_, _, _, rfl, wu_X3, by decide, wf_X3_11⟩
theorem fl_X3_18 : gFl RX3 18 3 1 := ⟨_, _, _, rfl, wu_X3, by decide, wf_X3_18⟩
theorem fp_X3_18 : gFp RX3 18 3 1 .int := ⟨_, _, _, tyX3, rfl, wu_X3, by decide, wf_X3_18, tyX3_ok, nmX3, rfl, by decide +kernel⟩
theorem fl_X3_22 : gFl RX3 22 3 2 := ⟨_, _, _, rfl, wu_X3, by decide, wf_X3_22⟩
theorem fp_X3_22 : gFp RX3 22 3 2 .int := ⟨_, _, _, tyX3, rfl, wu_X3, by decide, wf_X3_22, tyX3_ok, nmX3, rfl, by decide +kernel⟩
theorem fl_X7_148 : gFl RX7 148 3 2 := ⟨_, _, _, rfl, wu_X3, by decide, wf_X7_148⟩
theorem fp_X7_148 : gFp RX7 148 3 2 .int := ⟨_, _, _, tyX3, rfl, wu_X3, by decide, wf_X7_148, tyX3_ok, nmX3, rfl, by decide +kernel⟩
theorem fl_X6_9 : gFl RX6 9 6 0 := ⟨_, _, _, rfl, wu_X6, by decide, wf_X6_9⟩
theorem fl_X6_15 : gFl RX6 15 6 1 := ⟨_, _, _, rfl, wu_X6, by decide, wf_X6_15⟩
theorem fp_X6_15 : gFp RX6 15 6 1 .int := ⟨_, _, _, tyX6, rfl, wu_X6, by decide, wf_X6_15, tyX6_ok, nmX6, rfl, by decide +kernel⟩
theorem fl_X7_149 : gFl RX7 149 6 1 := ⟨_, _, _, rfl, wu_X6, by decide, wf_X7_149⟩
theorem fp_X7_149 : gFp RX7 149 6 1 .int := ⟨_, _, _, tyX6, rfl, wu_X6, by decide, wf_X7_149, tyX6_ok, nmX6, rfl, by decide +kernel⟩
theorem fl_X6_19 : gFl RX6 19 6 2 := ⟨_, _, _, rfl, wu_X6, by decide, wf_X6_19⟩
theorem fp_X6_19 : gFp RX6 19 6 2 .int := ⟨_, _, _, tyX6, rfl, wu_X6, by decide, wf_X6_19, tyX6_ok, nmX6, rfl, by decide +kernel⟩
theorem fl_X7_252 : gFl RX7 252 6 2 := ⟨_, _, _, rfl, wu_X6, by decide, wf_X7_252⟩
theorem fp_X7_252 : gFp RX7 252 6 2 .int := ⟨_, _, _, tyX6, rfl, wu_X6, by decide, wf_X7_252, tyX6_ok, nmX6, rfl, by decide +kernel⟩
theorem fl_X6_22 : gFl RX6 22 6 3 := ⟨_, _, _, rfl, wu_X6, by decide, wf_X6_22⟩
theorem fp_X6_22 : gFp RX6 22 6 3 .int := ⟨_, _, _, tyX6, rfl, wu_X6, by decide, wf_X6_22, tyX6_ok, nmX6, rfl, by decide +kernel⟩
theorem fl_X6_32 : gFl RX6 32 6 4 := ⟨_, _, _, rfl, wu_X6, by decide, wf_X6_32⟩
theorem fp_X6_32 : gFp RX6 32 6 4 .int := ⟨_, _, _, tyX6, rfl, wu_X6, by decide, wf_X6_32, tyX6_ok, nmX6, rfl, by decide +kernel⟩
theorem fl_X7_262 : gFl RX7 262 6 4 := ⟨_, _, _, rfl, wu_X6, by decide, wf_X7_262⟩
theorem fp_X7_262 : gFp RX7 262 6 4 .int := ⟨_, _, _, tyX6, rfl, wu_X6, by decide, wf_X7_262, tyX6_ok, nmX6, rfl, by decide +kernel⟩
theorem fl_X6_39 : gFl RX6 39 6 5 := ⟨_, _, _, rfl, wu_X6, by decide, wf_X6_39⟩
theorem fp_X6_39 : gFp RX6 39 6 5 .int := ⟨_, _, _, tyX6, rfl, wu_X6, by decide, wf_X6_39, tyX6_ok, nmX6, rfl, by decide +kernel⟩
theorem fl_X7_265 : gFl RX7 265 6 5 := ⟨_, _, _, rfl, wu_X6, by decide, wf_X7_265⟩
theorem fp_X7_265 : gFp RX7 265 6 5 .int := ⟨_, _, _, tyX6, rfl, wu_X6, by decide, wf_X7_265, tyX6_ok, nmX6, rfl, by decide +kernel⟩
theorem fl_X6_42 : gFl RX6 42 6 6 := ⟨_, _, _, rfl, wu_X6, by decide, wf_X6_42⟩
theorem fp_X6_42 : gFp RX6 42 6 6 .int := ⟨_, _, _, tyX6, rfl, wu_X6, by decide, wf_X6_42, tyX6_ok, nmX6, rfl, by decide +kernel⟩
theorem fl_X7_267 : gFl RX7 267 6 6 := ⟨_, _, _, rfl, wu_X6, by decide, wf_X7_267⟩
theorem fp_X7_267 : gFp RX7 267 6 6 .int := ⟨_, _, _, tyX6, rfl, wu_X6, by decide, wf_X7_267, tyX6_ok, nmX6, rfl, by decide +kernel⟩
theorem fl_X7_10 : gFl RX7 10 7 0 := ⟨_, _, _, rfl, wu_X7, by decide, wf_X7_10⟩
theorem fl_X7_19 : gFl RX7 19 7 1 := ⟨_, _, _, rfl, wu_X7, by decide, wf_X7_19⟩
theorem fl_X7_26 : gFl RX7 26 7 2 := ⟨_, _, _, rfl, wu_X7, by decide, wf_X7_26⟩
abbrev k_X7_init : gK := (yX7_init, cX7_init, 1, none, 4, 90)
abbrev k_X5_init : gK := (yX5_init, cX5_init, 1, none, 2, 49)
abbrev k_X4_init : gK := (yX4_init, cX4_init, 1, none, 1, 29)
abbrev k_X2_init : gK := (yX2_init, cX2_init, 1, none, 1, 29)
abbrev k_X0_init : gK := (yX0_init, cX0_init, 1, none, 1, 29)
abbrev k_X1_init : gK := (yX1_init, cX1_init, 1, none, 1, 29)
abbrev k_X3_init : gK := (yX3_init, cX3_init, 2, none, 3, 69)
abbrev k_X6_init : gK := (yX6_init, cX6_init, 1, none, 1, 29)
abbrev k_X7_count : gK := (yX7_count, cX7_count, 2, (some .int), 3, 64)
theorem kf_X7_count : gFactV k_X7_count 1 7 := ⟨⟨wc_X7_count, wi_X7, ⟨by decide, by decide⟩, by decide +kernel⟩, wm_X7_count, wl_X7_count, _, _, rfl⟩
abbrev k_X1_pending : gK := (yX1_pending, cX1_pending, 3, (some .int), 0, 0)
theorem kf_X1_pending : gFactV k_X1_pending 0 1 := ⟨⟨wc_X1_pending, wi_X1, ⟨by decide, by decide⟩, by decide +kernel⟩, wm_X1_pending, wl_X1_pending, _, _, rfl⟩
abbrev k_X5_activeWeight : gK := (yX5_activeWeight, cX5_activeWeight, 1, (some .int), 2, 44)
theorem kf_X5_activeWeight : gFactV k_X5_activeWeight 0 5 := ⟨⟨wc_X5_activeWeight, wi_X5, ⟨by decide, by decide⟩, by decide +kernel⟩, wm_X5_activeWeight, wl_X5_activeWeight, _, _, rfl⟩
abbrev k_X5_activeWeightIn : gK := (yX5_activeWeightIn, cX5_activeWeightIn, 4, (some .int), 1, 21)
theorem kf_X5_activeWeightIn : gFactV k_X5_activeWeightIn 1 5 := ⟨⟨wc_X5_activeWeightIn, wi_X5, ⟨by decide, by decide⟩, by decide +kernel⟩, wm_X5_activeWeightIn, wl_X5_activeWeightIn, _, _, rfl⟩
abbrev k_X5_isLapsed : gK := (yX5_isLapsed, cX5_isLapsed, 2, (some .boolean), 0, 0)
theorem kf_X5_isLapsed : gFactV k_X5_isLapsed 1 5 := ⟨⟨wc_X5_isLapsed, wi_X5, ⟨by decide, by decide⟩, by decide +kernel⟩, wm_X5_isLapsed, wl_X5_isLapsed, _, _, rfl⟩
abbrev k_X7_undo : gK := (yX7_undo, cX7_undo, 1, (some .int), 5, 113)
theorem kf_X7_undo : gFactV k_X7_undo 0 7 := ⟨⟨wc_X7_undo, wi_X7, ⟨by decide, by decide⟩, by decide +kernel⟩, wm_X7_undo, wl_X7_undo, _, _, rfl⟩
abbrev k_X3_restore : gK := (yX3_restore, cX3_restore, 2, none, 4, 92)
theorem kf_X3_restore : gFactV k_X3_restore 1 3 := ⟨⟨wc_X3_restore, wi_X3, ⟨by decide, by decide⟩, by decide +kernel⟩, wm_X3_restore, wl_X3_restore, _, _, rfl⟩
abbrev k_X5_copyFrom : gK := (yX5_copyFrom, cX5_copyFrom, 2, none, 3, 71)
theorem kf_X5_copyFrom : gFactV k_X5_copyFrom 1 5 := ⟨⟨wc_X5_copyFrom, wi_X5, ⟨by decide, by decide⟩, by decide +kernel⟩, wm_X5_copyFrom, wl_X5_copyFrom, _, _, rfl⟩
abbrev k_X4_copyFrom : gK := (yX4_copyFrom, cX4_copyFrom, 2, none, 2, 50)
theorem kf_X4_copyFrom : gFactV k_X4_copyFrom 1 4 := ⟨⟨wc_X4_copyFrom, wi_X4, ⟨by decide, by decide⟩, by decide +kernel⟩, wm_X4_copyFrom, wl_X4_copyFrom, _, _, rfl⟩
abbrev k_X7_copyAll : gK := (yX7_copyAll, cX7_copyAll, 2, none, 1, 29)
theorem kf_X7_copyAll : gFactS k_X7_copyAll 2 := ⟨⟨wc_X7_copyAll, wi_X7, ⟨by decide, by decide⟩, by decide +kernel⟩, ws_X7_copyAll⟩
abbrev k_J9_min_7cf53 : gK := (yJ9_min_7cf53, cJ9_min_7cf53, 2, (some .int), 0, 0)
theorem kf_J9_min_7cf53 : gFactS k_J9_min_7cf53 2 := ⟨⟨wc_J9_min_7cf53, wi_J9, ⟨by decide, by decide⟩, by decide +kernel⟩, ws_J9_min_7cf53⟩
abbrev k_X2_copyFrom : gK := (yX2_copyFrom, cX2_copyFrom, 2, none, 2, 50)
theorem kf_X2_copyFrom : gFactV k_X2_copyFrom 1 2 := ⟨⟨wc_X2_copyFrom, wi_X2, ⟨by decide, by decide⟩, by decide +kernel⟩, wm_X2_copyFrom, wl_X2_copyFrom, _, _, rfl⟩
abbrev k_X0_copyFrom : gK := (yX0_copyFrom, cX0_copyFrom, 2, none, 2, 50)
theorem kf_X0_copyFrom : gFactV k_X0_copyFrom 1 0 := ⟨⟨wc_X0_copyFrom, wi_X0, ⟨by decide, by decide⟩, by decide +kernel⟩, wm_X0_copyFrom, wl_X0_copyFrom, _, _, rfl⟩
abbrev k_X1_copyFrom : gK := (yX1_copyFrom, cX1_copyFrom, 2, none, 2, 50)
theorem kf_X1_copyFrom : gFactV k_X1_copyFrom 1 1 := ⟨⟨wc_X1_copyFrom, wi_X1, ⟨by decide, by decide⟩, by decide +kernel⟩, wm_X1_copyFrom, wl_X1_copyFrom, _, _, rfl⟩
abbrev k_L_cell : gK := (yL_cell, cL_cell, 3, (some .int), 0, 0)
theorem kf_L_cell : gFactS k_L_cell 2 := ⟨⟨wc_L_cell, wi_L, ⟨by decide, by decide⟩, by decide +kernel⟩, ws_L_cell⟩
abbrev k_L_low : gK := (yL_low, cL_low, 2, (some .int), 0, 0)
theorem kf_L_low : gFactS k_L_low 2 := ⟨⟨wc_L_low, wi_L, ⟨by decide, by decide⟩, by decide +kernel⟩, ws_L_low⟩
abbrev k_L_print : gK := (yL_print, cL_print, 5, (some .long), 4, 91)
theorem kf_L_print : gFactS k_L_print 1 := ⟨⟨wc_L_print, wi_L, ⟨by decide, by decide⟩, by decide +kernel⟩, ws_L_print⟩
abbrev k_X7_tally : gK := (yX7_tally, cX7_tally, 2, (some .int), 3, 66)
theorem kf_X7_tally : gFactV k_X7_tally 1 7 := ⟨⟨wc_X7_tally, wi_X7, ⟨by decide, by decide⟩, by decide +kernel⟩, wm_X7_tally, wl_X7_tally, _, _, rfl⟩
abbrev k_X5_countVotes : gK := (yX5_countVotes, cX5_countVotes, 3, none, 2, 44)
theorem kf_X5_countVotes : gFactV k_X5_countVotes 0 5 := ⟨⟨wc_X5_countVotes, wi_X5, ⟨by decide, by decide⟩, by decide +kernel⟩, wm_X5_countVotes, wl_X5_countVotes, _, _, rfl⟩
abbrev k_J7_fill_53178 : gK := (yJ7_fill_53178, cJ7_fill_53178, 4, none, 0, 0)
theorem kf_J7_fill_53178 : gFactS k_J7_fill_53178 2 := ⟨⟨wc_J7_fill_53178, wi_J7, ⟨by decide, by decide⟩, by decide +kernel⟩, ws_J7_fill_53178⟩
abbrev k_X4_hasVoted : gK := (yX4_hasVoted, cX4_hasVoted, 2, (some .boolean), 0, 0)
theorem kf_X4_hasVoted : gFactV k_X4_hasVoted 1 4 := ⟨⟨wc_X4_hasVoted, wi_X4, ⟨by decide, by decide⟩, by decide +kernel⟩, wm_X4_hasVoted, wl_X4_hasVoted, _, _, rfl⟩
abbrev k_X5_sumFor : gK := (yX5_sumFor, cX5_sumFor, 3, (some .int), 1, 22)
theorem kf_X5_sumFor : gFactV k_X5_sumFor 1 5 := ⟨⟨wc_X5_sumFor, wi_X5, ⟨by decide, by decide⟩, by decide +kernel⟩, wm_X5_sumFor, wl_X5_sumFor, _, _, rfl⟩
abbrev k_X1_hasTechnicalOf : gK := (yX1_hasTechnicalOf, cX1_hasTechnicalOf, 3, (some .boolean), 0, 0)
theorem kf_X1_hasTechnicalOf : gFactV k_X1_hasTechnicalOf 1 1 := ⟨⟨wc_X1_hasTechnicalOf, wi_X1, ⟨by decide, by decide⟩, by decide +kernel⟩, wm_X1_hasTechnicalOf, wl_X1_hasTechnicalOf, _, _, rfl⟩
abbrev k_X5_isCarriedBy : gK := (yX5_isCarriedBy, cX5_isCarriedBy, 3, (some .boolean), 0, 0)
theorem kf_X5_isCarriedBy : gFactV k_X5_isCarriedBy 1 5 := ⟨⟨wc_X5_isCarriedBy, wi_X5, ⟨by decide, by decide⟩, by decide +kernel⟩, wm_X5_isCarriedBy, wl_X5_isCarriedBy, _, _, rfl⟩
abbrev k_X7_member : gK := (yX7_member, cX7_member, 3, (some .int), 1, 23)
theorem kf_X7_member : gFactV k_X7_member 2 7 := ⟨⟨wc_X7_member, wi_X7, ⟨by decide, by decide⟩, by decide +kernel⟩, wm_X7_member, wl_X7_member, _, _, rfl⟩
abbrev k_X4_has : gK := (yX4_has, cX4_has, 2, (some .boolean), 0, 0)
theorem kf_X4_has : gFactV k_X4_has 1 4 := ⟨⟨wc_X4_has, wi_X4, ⟨by decide, by decide⟩, by decide +kernel⟩, wm_X4_has, wl_X4_has, _, _, rfl⟩
abbrev k_X1_numberOf : gK := (yX1_numberOf, cX1_numberOf, 4, (some .int), 0, 0)
theorem kf_X1_numberOf : gFactV k_X1_numberOf 1 1 := ⟨⟨wc_X1_numberOf, wi_X1, ⟨by decide, by decide⟩, by decide +kernel⟩, wm_X1_numberOf, wl_X1_numberOf, _, _, rfl⟩
abbrev k_X7_clause : gK := (yX7_clause, cX7_clause, 2, (some .int), 0, 0)
theorem kf_X7_clause : gFactV k_X7_clause 1 7 := ⟨⟨wc_X7_clause, wi_X7, ⟨by decide, by decide⟩, by decide +kernel⟩, wm_X7_clause, wl_X7_clause, _, _, rfl⟩
abbrev k_X7_value : gK := (yX7_value, cX7_value, 3, (some .int), 1, 22)
theorem kf_X7_value : gFactV k_X7_value 1 7 := ⟨⟨wc_X7_value, wi_X7, ⟨by decide, by decide⟩, by decide +kernel⟩, wm_X7_value, wl_X7_value, _, _, rfl⟩
abbrev k_X2_find : gK := (yX2_find, cX2_find, 3, (some .int), 0, 0)
theorem kf_X2_find : gFactV k_X2_find 1 2 := ⟨⟨wc_X2_find, wi_X2, ⟨by decide, by decide⟩, by decide +kernel⟩, wm_X2_find, wl_X2_find, _, _, rfl⟩
abbrev k_X7_told : gK := (yX7_told, cX7_told, 3, (some .int), 1, 21)
theorem kf_X7_told : gFactV k_X7_told 2 7 := ⟨⟨wc_X7_told, wi_X7, ⟨by decide, by decide⟩, by decide +kernel⟩, wm_X7_told, wl_X7_told, _, _, rfl⟩
abbrev k_X1_has : gK := (yX1_has, cX1_has, 2, (some .boolean), 0, 0)
theorem kf_X1_has : gFactV k_X1_has 1 1 := ⟨⟨wc_X1_has, wi_X1, ⟨by decide, by decide⟩, by decide +kernel⟩, wm_X1_has, wl_X1_has, _, _, rfl⟩
abbrev k_X1_isResolved : gK := (yX1_isResolved, cX1_isResolved, 2, (some .boolean), 0, 0)
theorem kf_X1_isResolved : gFactV k_X1_isResolved 1 1 := ⟨⟨wc_X1_isResolved, wi_X1, ⟨by decide, by decide⟩, by decide +kernel⟩, wm_X1_isResolved, wl_X1_isResolved, _, _, rfl⟩
abbrev k_X1_gaveValue : gK := (yX1_gaveValue, cX1_gaveValue, 2, (some .boolean), 0, 0)
theorem kf_X1_gaveValue : gFactV k_X1_gaveValue 1 1 := ⟨⟨wc_X1_gaveValue, wi_X1, ⟨by decide, by decide⟩, by decide +kernel⟩, wm_X1_gaveValue, wl_X1_gaveValue, _, _, rfl⟩
abbrev k_X7_changes : gK := (yX7_changes, cX7_changes, 2, (some .int), 3, 66)
theorem kf_X7_changes : gFactV k_X7_changes 1 7 := ⟨⟨wc_X7_changes, wi_X7, ⟨by decide, by decide⟩, by decide +kernel⟩, wm_X7_changes, wl_X7_changes, _, _, rfl⟩
abbrev k_X2_hasEdition : gK := (yX2_hasEdition, cX2_hasEdition, 2, (some .boolean), 0, 0)
theorem kf_X2_hasEdition : gFactV k_X2_hasEdition 1 2 := ⟨⟨wc_X2_hasEdition, wi_X2, ⟨by decide, by decide⟩, by decide +kernel⟩, wm_X2_hasEdition, wl_X2_hasEdition, _, _, rfl⟩
abbrev k_X2_changesOf : gK := (yX2_changesOf, cX2_changesOf, 4, (some .int), 2, 43)
theorem kf_X2_changesOf : gFactV k_X2_changesOf 1 2 := ⟨⟨wc_X2_changesOf, wi_X2, ⟨by decide, by decide⟩, by decide +kernel⟩, wm_X2_changesOf, wl_X2_changesOf, _, _, rfl⟩
abbrev k_X2_differs : gK := (yX2_differs, cX2_differs, 3, (some .boolean), 1, 21)
theorem kf_X2_differs : gFactV k_X2_differs 2 2 := ⟨⟨wc_X2_differs, wi_X2, ⟨by decide, by decide⟩, by decide +kernel⟩, wm_X2_differs, wl_X2_differs, _, _, rfl⟩
abbrev k_X2_slot : gK := (yX2_slot, cX2_slot, 2, (some .int), 0, 0)
theorem kf_X2_slot : gFactS k_X2_slot 2 := ⟨⟨wc_X2_slot, wi_X2, ⟨by decide, by decide⟩, by decide +kernel⟩, ws_X2_slot⟩
abbrev k_X7_change : gK := (yX7_change, cX7_change, 5, (some .int), 3, 67)
theorem kf_X7_change : gFactV k_X7_change 3 7 := ⟨⟨wc_X7_change, wi_X7, ⟨by decide, by decide⟩, by decide +kernel⟩, wm_X7_change, wl_X7_change, _, _, rfl⟩
abbrev k_X2_placeOfChange : gK := (yX2_placeOfChange, cX2_placeOfChange, 5, (some .int), 2, 43)
theorem kf_X2_placeOfChange : gFactV k_X2_placeOfChange 2 2 := ⟨⟨wc_X2_placeOfChange, wi_X2, ⟨by decide, by decide⟩, by decide +kernel⟩, wm_X2_placeOfChange, wl_X2_placeOfChange, _, _, rfl⟩
abbrev k_X7_next : gK := (yX7_next, cX7_next, 2, (some .int), 2, 46)
theorem kf_X7_next : gFactV k_X7_next 0 7 := ⟨⟨wc_X7_next, wi_X7, ⟨by decide, by decide⟩, by decide +kernel⟩, wm_X7_next, wl_X7_next, _, _, rfl⟩
abbrev k_X1_firstPending : gK := (yX1_firstPending, cX1_firstPending, 4, (some .int), 1, 23)
theorem kf_X1_firstPending : gFactV k_X1_firstPending 1 1 := ⟨⟨wc_X1_firstPending, wi_X1, ⟨by decide, by decide⟩, by decide +kernel⟩, wm_X1_firstPending, wl_X1_firstPending, _, _, rfl⟩
abbrev k_X1_isAhead : gK := (yX1_isAhead, cX1_isAhead, 4, (some .boolean), 0, 0)
theorem kf_X1_isAhead : gFactV k_X1_isAhead 3 1 := ⟨⟨wc_X1_isAhead, wi_X1, ⟨by decide, by decide⟩, by decide +kernel⟩, wm_X1_isAhead, wl_X1_isAhead, _, _, rfl⟩
abbrev k_L_refused : gK := (yL_refused, cL_refused, 7, (some .boolean), 6, 138)
theorem kf_L_refused : gFactS k_L_refused 1 := ⟨⟨wc_L_refused, wi_L, ⟨by decide, by decide⟩, by decide +kernel⟩, ws_L_refused⟩
abbrev k_X7_addMember : gK := (yX7_addMember, cX7_addMember, 2, (some .int), 5, 113)
theorem kf_X7_addMember : gFactV k_X7_addMember 1 7 := ⟨⟨wc_X7_addMember, wi_X7, ⟨by decide, by decide⟩, by decide +kernel⟩, wm_X7_addMember, wl_X7_addMember, _, _, rfl⟩
abbrev k_X3_keep : gK := (yX3_keep, cX3_keep, 2, none, 4, 92)
theorem kf_X3_keep : gFactV k_X3_keep 1 3 := ⟨⟨wc_X3_keep, wi_X3, ⟨by decide, by decide⟩, by decide +kernel⟩, wm_X3_keep, wl_X3_keep, _, _, rfl⟩
abbrev k_X4_append : gK := (yX4_append, cX4_append, 2, (some .int), 0, 0)
theorem kf_X4_append : gFactV k_X4_append 1 4 := ⟨⟨wc_X4_append, wi_X4, ⟨by decide, by decide⟩, by decide +kernel⟩, wm_X4_append, wl_X4_append, _, _, rfl⟩
abbrev k_X7_addClause : gK := (yX7_addClause, cX7_addClause, 3, (some .int), 5, 113)
theorem kf_X7_addClause : gFactV k_X7_addClause 2 7 := ⟨⟨wc_X7_addClause, wi_X7, ⟨by decide, by decide⟩, by decide +kernel⟩, wm_X7_addClause, wl_X7_addClause, _, _, rfl⟩
abbrev k_X7_isValue : gK := (yX7_isValue, cX7_isValue, 1, (some .boolean), 0, 0)
theorem kf_X7_isValue : gFactS k_X7_isValue 1 := ⟨⟨wc_X7_isValue, wi_X7, ⟨by decide, by decide⟩, by decide +kernel⟩, ws_X7_isValue⟩
abbrev k_X2_insert : gK := (yX2_insert, cX2_insert, 4, none, 1, 21)
theorem kf_X2_insert : gFactV k_X2_insert 2 2 := ⟨⟨wc_X2_insert, wi_X2, ⟨by decide, by decide⟩, by decide +kernel⟩, wm_X2_insert, wl_X2_insert, _, _, rfl⟩
abbrev k_X7_set : gK := (yX7_set, cX7_set, 4, (some .int), 5, 113)
theorem kf_X7_set : gFactV k_X7_set 2 7 := ⟨⟨wc_X7_set, wi_X7, ⟨by decide, by decide⟩, by decide +kernel⟩, wm_X7_set, wl_X7_set, _, _, rfl⟩
abbrev k_X7_valueIn : gK := (yX7_valueIn, cX7_valueIn, 4, (some .int), 1, 22)
theorem kf_X7_valueIn : gFactV k_X7_valueIn 2 7 := ⟨⟨wc_X7_valueIn, wi_X7, ⟨by decide, by decide⟩, by decide +kernel⟩, wm_X7_valueIn, wl_X7_valueIn, _, _, rfl⟩
abbrev k_X7_vote : gK := (yX7_vote, cX7_vote, 3, (some .int), 5, 113)
theorem kf_X7_vote : gFactV k_X7_vote 2 7 := ⟨⟨wc_X7_vote, wi_X7, ⟨by decide, by decide⟩, by decide +kernel⟩, wm_X7_vote, wl_X7_vote, _, _, rfl⟩
abbrev k_X4_voters : gK := (yX4_voters, cX4_voters, 3, (some .int), 1, 21)
theorem kf_X4_voters : gFactV k_X4_voters 0 4 := ⟨⟨wc_X4_voters, wi_X4, ⟨by decide, by decide⟩, by decide +kernel⟩, wm_X4_voters, wl_X4_voters, _, _, rfl⟩
abbrev k_X7_pass : gK := (yX7_pass, cX7_pass, 2, (some .int), 5, 113)
theorem kf_X7_pass : gFactV k_X7_pass 1 7 := ⟨⟨wc_X7_pass, wi_X7, ⟨by decide, by decide⟩, by decide +kernel⟩, wm_X7_pass, wl_X7_pass, _, _, rfl⟩
abbrev k_X5_endBallot : gK := (yX5_endBallot, cX5_endBallot, 1, none, 3, 66)
theorem kf_X5_endBallot : gFactV k_X5_endBallot 0 5 := ⟨⟨wc_X5_endBallot, wi_X5, ⟨by decide, by decide⟩, by decide +kernel⟩, wm_X5_endBallot, wl_X5_endBallot, _, _, rfl⟩
abbrev k_X4_noteMisses : gK := (yX4_noteMisses, cX4_noteMisses, 2, none, 1, 21)
theorem kf_X4_noteMisses : gFactV k_X4_noteMisses 0 4 := ⟨⟨wc_X4_noteMisses, wi_X4, ⟨by decide, by decide⟩, by decide +kernel⟩, wm_X4_noteMisses, wl_X4_noteMisses, _, _, rfl⟩
abbrev k_X1_makeAllPending : gK := (yX1_makeAllPending, cX1_makeAllPending, 2, none, 0, 0)
theorem kf_X1_makeAllPending : gFactV k_X1_makeAllPending 0 1 := ⟨⟨wc_X1_makeAllPending, wi_X1, ⟨by decide, by decide⟩, by decide +kernel⟩, wm_X1_makeAllPending, wl_X1_makeAllPending, _, _, rfl⟩
abbrev k_X7_comment : gK := (yX7_comment, cX7_comment, 6, (some .int), 5, 113)
theorem kf_X7_comment : gFactV k_X7_comment 4 7 := ⟨⟨wc_X7_comment, wi_X7, ⟨by decide, by decide⟩, by decide +kernel⟩, wm_X7_comment, wl_X7_comment, _, _, rfl⟩
abbrev k_X1_append : gK := (yX1_append, cX1_append, 5, (some .int), 0, 0)
theorem kf_X1_append : gFactV k_X1_append 4 1 := ⟨⟨wc_X1_append, wi_X1, ⟨by decide, by decide⟩, by decide +kernel⟩, wm_X1_append, wl_X1_append, _, _, rfl⟩
abbrev k_X7_resolve : gK := (yX7_resolve, cX7_resolve, 5, (some .int), 5, 113)
theorem kf_X7_resolve : gFactV k_X7_resolve 2 7 := ⟨⟨wc_X7_resolve, wi_X7, ⟨by decide, by decide⟩, by decide +kernel⟩, wm_X7_resolve, wl_X7_resolve, _, _, rfl⟩
abbrev k_X2_canGet : gK := (yX2_canGet, cX2_canGet, 3, (some .boolean), 0, 0)
theorem kf_X2_canGet : gFactV k_X2_canGet 2 2 := ⟨⟨wc_X2_canGet, wi_X2, ⟨by decide, by decide⟩, by decide +kernel⟩, wm_X2_canGet, wl_X2_canGet, _, _, rfl⟩
abbrev k_X5_settle : gK := (yX5_settle, cX5_settle, 4, none, 3, 68)
theorem kf_X5_settle : gFactV k_X5_settle 3 5 := ⟨⟨wc_X5_settle, wi_X5, ⟨by decide, by decide⟩, by decide +kernel⟩, wm_X5_settle, wl_X5_settle, _, _, rfl⟩
abbrev k_X1_resolveAs : gK := (yX1_resolveAs, cX1_resolveAs, 5, none, 0, 0)
theorem kf_X1_resolveAs : gFactV k_X1_resolveAs 4 1 := ⟨⟨wc_X1_resolveAs, wi_X1, ⟨by decide, by decide⟩, by decide +kernel⟩, wm_X1_resolveAs, wl_X1_resolveAs, _, _, rfl⟩
abbrev k_X2_isChanged : gK := (yX2_isChanged, cX2_isChanged, 2, (some .boolean), 1, 21)
theorem kf_X2_isChanged : gFactV k_X2_isChanged 0 2 := ⟨⟨wc_X2_isChanged, wi_X2, ⟨by decide, by decide⟩, by decide +kernel⟩, wm_X2_isChanged, wl_X2_isChanged, _, _, rfl⟩
abbrev k_X5_bringEdition : gK := (yX5_bringEdition, cX5_bringEdition, 4, none, 2, 45)
theorem kf_X5_bringEdition : gFactV k_X5_bringEdition 0 5 := ⟨⟨wc_X5_bringEdition, wi_X5, ⟨by decide, by decide⟩, by decide +kernel⟩, wm_X5_bringEdition, wl_X5_bringEdition, _, _, rfl⟩
abbrev k_X1_firstBehind : gK := (yX1_firstBehind, cX1_firstBehind, 5, (some .int), 1, 21)
theorem kf_X1_firstBehind : gFactV k_X1_firstBehind 2 1 := ⟨⟨wc_X1_firstBehind, wi_X1, ⟨by decide, by decide⟩, by decide +kernel⟩, wm_X1_firstBehind, wl_X1_firstBehind, _, _, rfl⟩
abbrev k_X7_appeal : gK := (yX7_appeal, cX7_appeal, 4, (some .int), 5, 113)
theorem kf_X7_appeal : gFactV k_X7_appeal 3 7 := ⟨⟨wc_X7_appeal, wi_X7, ⟨by decide, by decide⟩, by decide +kernel⟩, wm_X7_appeal, wl_X7_appeal, _, _, rfl⟩
abbrev k_X4_isSet : gK := (yX4_isSet, cX4_isSet, 2, (some .boolean), 0, 0)
theorem kf_X4_isSet : gFactV k_X4_isSet 1 4 := ⟨⟨wc_X4_isSet, wi_X4, ⟨by decide, by decide⟩, by decide +kernel⟩, wm_X4_isSet, wl_X4_isSet, _, _, rfl⟩
abbrev k_X5_reopen : gK := (yX5_reopen, cX5_reopen, 4, none, 2, 45)
theorem kf_X5_reopen : gFactV k_X5_reopen 1 5 := ⟨⟨wc_X5_reopen, wi_X5, ⟨by decide, by decide⟩, by decide +kernel⟩, wm_X5_reopen, wl_X5_reopen, _, _, rfl⟩
abbrev k_X7_type : gK := (yX7_type, cX7_type, 2, (some .int), 1, 21)
theorem kf_X7_type : gFactV k_X7_type 1 7 := ⟨⟨wc_X7_type, wi_X7, ⟨by decide, by decide⟩, by decide +kernel⟩, wm_X7_type, wl_X7_type, _, _, rfl⟩
abbrev k_X6_append : gK := (yX6_append, cX6_append, 2, none, 0, 0)
theorem kf_X6_append : gFactV k_X6_append 1 6 := ⟨⟨wc_X6_append, wi_X6, ⟨by decide, by decide⟩, by decide +kernel⟩, wm_X6_append, wl_X6_append, _, _, rfl⟩
abbrev k_X7_fault : gK := (yX7_fault, cX7_fault, 3, (some .int), 4, 91)
theorem kf_X7_fault : gFactV k_X7_fault 1 7 := ⟨⟨wc_X7_fault, wi_X7, ⟨by decide, by decide⟩, by decide +kernel⟩, wm_X7_fault, wl_X7_fault, _, _, rfl⟩
abbrev k_X7_firstFault : gK := (yX7_firstFault, cX7_firstFault, 4, (some .int), 3, 68)
theorem kf_X7_firstFault : gFactV k_X7_firstFault 0 7 := ⟨⟨wc_X7_firstFault, wi_X7, ⟨by decide, by decide⟩, by decide +kernel⟩, wm_X7_firstFault, wl_X7_firstFault, _, _, rfl⟩
abbrev k_X6_rewind : gK := (yX6_rewind, cX6_rewind, 1, none, 0, 0)
theorem kf_X6_rewind : gFactV k_X6_rewind 0 6 := ⟨⟨wc_X6_rewind, wi_X6, ⟨by decide, by decide⟩, by decide +kernel⟩, wm_X6_rewind, wl_X6_rewind, _, _, rfl⟩
abbrev k_X6_isAtEnd : gK := (yX6_isAtEnd, cX6_isAtEnd, 1, (some .boolean), 0, 0)
theorem kf_X6_isAtEnd : gFactV k_X6_isAtEnd 0 6 := ⟨⟨wc_X6_isAtEnd, wi_X6, ⟨by decide, by decide⟩, by decide +kernel⟩, wm_X6_isAtEnd, wl_X6_isAtEnd, _, _, rfl⟩
abbrev k_X6_readComment : gK := (yX6_readComment, cX6_readComment, 4, (some .boolean), 2, 45)
theorem kf_X6_readComment : gFactV k_X6_readComment 0 6 := ⟨⟨wc_X6_readComment, wi_X6, ⟨by decide, by decide⟩, by decide +kernel⟩, wm_X6_readComment, wl_X6_readComment, _, _, rfl⟩
abbrev k_X6_digitsAt : gK := (yX6_digitsAt, cX6_digitsAt, 5, (some .int), 1, 21)
theorem kf_X6_digitsAt : gFactV k_X6_digitsAt 2 6 := ⟨⟨wc_X6_digitsAt, wi_X6, ⟨by decide, by decide⟩, by decide +kernel⟩, wm_X6_digitsAt, wl_X6_digitsAt, _, _, rfl⟩
abbrev k_X6_signAt : gK := (yX6_signAt, cX6_signAt, 2, (some .char), 0, 0)
theorem kf_X6_signAt : gFactV k_X6_signAt 1 6 := ⟨⟨wc_X6_signAt, wi_X6, ⟨by decide, by decide⟩, by decide +kernel⟩, wm_X6_signAt, wl_X6_signAt, _, _, rfl⟩
abbrev k_X6_numberAt : gK := (yX6_numberAt, cX6_numberAt, 5, (some .int), 1, 21)
theorem kf_X6_numberAt : gFactV k_X6_numberAt 2 6 := ⟨⟨wc_X6_numberAt, wi_X6, ⟨by decide, by decide⟩, by decide +kernel⟩, wm_X6_numberAt, wl_X6_numberAt, _, _, rfl⟩
abbrev k_X7_enter : gK := (yX7_enter, cX7_enter, 5, (some .int), 5, 113)
theorem kf_X7_enter : gFactV k_X7_enter 1 7 := ⟨⟨wc_X7_enter, wi_X7, ⟨by decide, by decide⟩, by decide +kernel⟩, wm_X7_enter, wl_X7_enter, _, _, rfl⟩
abbrev k_X7_lacking : gK := (yX7_lacking, cX7_lacking, 6, (some .int), 3, 66)
theorem kf_X7_lacking : gFactV k_X7_lacking 0 7 := ⟨⟨wc_X7_lacking, wi_X7, ⟨by decide, by decide⟩, by decide +kernel⟩, wm_X7_lacking, wl_X7_lacking, _, _, rfl⟩
abbrev k_X7_dividedUp : gK := (yX7_dividedUp, cX7_dividedUp, 2, (some .int), 0, 0)
theorem kf_X7_dividedUp : gFactS k_X7_dividedUp 2 := ⟨⟨wc_X7_dividedUp, wi_X7, ⟨by decide, by decide⟩, by decide +kernel⟩, ws_X7_dividedUp⟩
abbrev k_J9_max_7cf53 : gK := (yJ9_max_7cf53, cJ9_max_7cf53, 2, (some .int), 0, 0)
theorem kf_J9_max_7cf53 : gFactS k_J9_max_7cf53 2 := ⟨⟨wc_J9_max_7cf53, wi_J9, ⟨by decide, by decide⟩, by decide +kernel⟩, ws_J9_max_7cf53⟩
abbrev k_X7_open : gK := (yX7_open, cX7_open, 1, (some .int), 5, 113)
theorem kf_X7_open : gFactV k_X7_open 0 7 := ⟨⟨wc_X7_open, wi_X7, ⟨by decide, by decide⟩, by decide +kernel⟩, wm_X7_open, wl_X7_open, _, _, rfl⟩
abbrev k_X5_openBallot : gK := (yX5_openBallot, cX5_openBallot, 1, none, 2, 50)
theorem kf_X5_openBallot : gFactV k_X5_openBallot 0 5 := ⟨⟨wc_X5_openBallot, wi_X5, ⟨by decide, by decide⟩, by decide +kernel⟩, wm_X5_openBallot, wl_X5_openBallot, _, _, rfl⟩
abbrev k_L_areMembers : gK := (yL_areMembers, cL_areMembers, 6, (some .boolean), 4, 85)
theorem kf_L_areMembers : gFactS k_L_areMembers 1 := ⟨⟨wc_L_areMembers, wi_L, ⟨by decide, by decide⟩, by decide +kernel⟩, ws_L_areMembers⟩
abbrev k_L_areVotes : gK := (yL_areVotes, cL_areVotes, 11, (some .boolean), 4, 91)
theorem kf_L_areVotes : gFactS k_L_areVotes 1 := ⟨⟨wc_L_areVotes, wi_L, ⟨by decide, by decide⟩, by decide +kernel⟩, ws_L_areVotes⟩
abbrev k_L_areComments : gK := (yL_areComments, cL_areComments, 9, (some .boolean), 4, 85)
theorem kf_L_areComments : gFactS k_L_areComments 1 := ⟨⟨wc_L_areComments, wi_L, ⟨by decide, by decide⟩, by decide +kernel⟩, ws_L_areComments⟩
abbrev k_L_areEditions : gK := (yL_areEditions, cL_areEditions, 10, (some .boolean), 4, 91)
theorem kf_L_areEditions : gFactS k_L_areEditions 1 := ⟨⟨wc_L_areEditions, wi_L, ⟨by decide, by decide⟩, by decide +kernel⟩, ws_L_areEditions⟩
abbrev k_L_isAppealed : gK := (yL_isAppealed, cL_isAppealed, 13, (some .boolean), 6, 136)
theorem kf_L_isAppealed : gFactS k_L_isAppealed 2 := ⟨⟨wc_L_isAppealed, wi_L, ⟨by decide, by decide⟩, by decide +kernel⟩, ws_L_isAppealed⟩
abbrev k_L_acts : gK := (yL_acts, cL_acts, 6, (some .int), 6, 138)
theorem kf_L_acts : gFactS k_L_acts 3 := ⟨⟨wc_L_acts, wi_L, ⟨by decide, by decide⟩, by decide +kernel⟩, ws_L_acts⟩
theorem ic_m1 : Int32.ofInt (-1) = (-1) := by decide
theorem ic_0 : Int32.ofInt 0 = nI 0 := by decide
theorem ic_1 : Int32.ofInt 1 = nI 1 := by decide
theorem ic_2 : Int32.ofInt 2 = nI 2 := by decide
theorem ic_3 : Int32.ofInt 3 = nI 3 := by decide
theorem ic_4 : Int32.ofInt 4 = nI 4 := by decide
theorem ic_5 : Int32.ofInt 5 = nI 5 := by decide
theorem bc_m5 : (Int8.ofInt (-5)).toInt32 = (-5) := by decide
theorem bc_m4 : (Int8.ofInt (-4)).toInt32 = (-4) := by decide
theorem bc_m3 : (Int8.ofInt (-3)).toInt32 = (-3) := by decide
theorem bc_m2 : (Int8.ofInt (-2)).toInt32 = (-2) := by decide
theorem bc_6 : (Int8.ofInt 6).toInt32 = nI 6 := by decide
theorem bc_7 : (Int8.ofInt 7).toInt32 = nI 7 := by decide
theorem bc_8 : (Int8.ofInt 8).toInt32 = nI 8 := by decide
theorem bc_9 : (Int8.ofInt 9).toInt32 = nI 9 := by decide
theorem bc_10 : (Int8.ofInt 10).toInt32 = nI 10 := by decide
theorem bc_11 : (Int8.ofInt 11).toInt32 = nI 11 := by decide
theorem bc_12 : (Int8.ofInt 12).toInt32 = nI 12 := by decide
theorem bc_13 : (Int8.ofInt 13).toInt32 = nI 13 := by decide
theorem bc_14 : (Int8.ofInt 14).toInt32 = nI 14 := by decide
theorem bc_15 : (Int8.ofInt 15).toInt32 = nI 15 := by decide
theorem bc_16 : (Int8.ofInt 16).toInt32 = nI 16 := by decide
theorem bc_17 : (Int8.ofInt 17).toInt32 = nI 17 := by decide
theorem bc_20 : (Int8.ofInt 20).toInt32 = nI 20 := by decide
theorem bc_21 : (Int8.ofInt 21).toInt32 = nI 21 := by decide
theorem bc_23 : (Int8.ofInt 23).toInt32 = nI 23 := by decide
theorem bc_24 : (Int8.ofInt 24).toInt32 = nI 24 := by decide
theorem bc_25 : (Int8.ofInt 25).toInt32 = nI 25 := by decide
theorem bc_26 : (Int8.ofInt 26).toInt32 = nI 26 := by decide
theorem bc_30 : (Int8.ofInt 30).toInt32 = nI 30 := by decide
theorem bc_32 : (Int8.ofInt 32).toInt32 = nI 32 := by decide
theorem bc_40 : (Int8.ofInt 40).toInt32 = nI 40 := by decide
theorem bc_48 : (Int8.ofInt 48).toInt32 = nI 48 := by decide
theorem bc_57 : (Int8.ofInt 57).toInt32 = nI 57 := by decide
theorem bc_59 : (Int8.ofInt 59).toInt32 = nI 59 := by decide
theorem bc_61 : (Int8.ofInt 61).toInt32 = nI 61 := by decide
theorem bc_80 : (Int8.ofInt 80).toInt32 = nI 80 := by decide
theorem bc_99 : (Int8.ofInt 99).toInt32 = nI 99 := by decide
theorem bc_100 : (Int8.ofInt 100).toInt32 = nI 100 := by decide
theorem bc_101 : (Int8.ofInt 101).toInt32 = nI 101 := by decide
theorem bc_116 : (Int8.ofInt 116).toInt32 = nI 116 := by decide
theorem bc_126 : (Int8.ofInt 126).toInt32 = nI 126 := by decide
theorem bc_127 : (Int8.ofInt 127).toInt32 = nI 127 := by decide
theorem sc_240 : (Int16.ofInt 240).toInt32 = nI 240 := by decide
theorem sc_300 : (Int16.ofInt 300).toInt32 = nI 300 := by decide
theorem sc_365 : (Int16.ofInt 365).toInt32 = nI 365 := by decide
theorem sc_400 : (Int16.ofInt 400).toInt32 = nI 400 := by decide
theorem sc_9999 : (Int16.ofInt 9999).toInt32 = nI 9999 := by decide
theorem sc_10000 : (Int16.ofInt 10000).toInt32 = nI 10000 := by decide
def gB (b : Bool) : Int32 := if b then nI 1 else nI 0
theorem gB_01 (b : Bool) : gB b = 0 ∨ gB b = 1 := by cases b <;> first | exact Or.inl rfl | exact Or.inr rfl
theorem gB_0 {b : Bool} : gB b = 0 ↔ b = false := by cases b <;> decide
theorem gB_1 {b : Bool} (h : b = true) : nI 1 = gB b := by subst h; rfl
theorem gB_n {b : Bool} (h : b = false) : nI 0 = gB b := by subst h; rfl
theorem g_if_eqB {X : gX} {E : gE} {cc : ByteArray} {own : String} {nL f lo : Nat} {M : gM} {pc n : Nat} {ls : gLs} {st : List Value} {Q : State → Prop} (hX : gOk X E cc own nL f lo) {x : Bool} {off : Int} {tgt : Nat} (hd : decode cc pc = .ok (.ifCond .eq off, 3)) (ht : (pc : Int) + off = (tgt : Int)) (hn : pc + 3 = n) (kt : x = false → gG X E M tgt ls st Q) (kf : x = true → gG X E M n ls st Q) : gG X E M pc ls (.int (gB x) :: st) Q :=
  g_if_eq hX hd ht hn (fun h => kt (gB_0.mp h)) (fun h => kf (by cases x with | true => rfl | false => exact absurd rfl h))
theorem g_if_neB {X : gX} {E : gE} {cc : ByteArray} {own : String} {nL f lo : Nat} {M : gM} {pc n : Nat} {ls : gLs} {st : List Value} {Q : State → Prop} (hX : gOk X E cc own nL f lo) {x : Bool} {off : Int} {tgt : Nat} (hd : decode cc pc = .ok (.ifCond .ne off, 3)) (ht : (pc : Int) + off = (tgt : Int)) (hn : pc + 3 = n) (kt : x = true → gG X E M tgt ls st Q) (kf : x = false → gG X E M n ls st Q) : gG X E M pc ls (.int (gB x) :: st) Q :=
  g_if_ne hX hd ht hn (fun h => kt (by cases x with | true => rfl | false => exact absurd rfl h)) (fun h => kf (gB_0.mp h))
/-- a loop that counts up -/
theorem up_loop (e : Nat) (P : Nat → Prop) (hend : P e) (hstep : ∀ k, k < e → P (k + 1) → P k) : ∀ k, k ≤ e → P k := by
  intro k hk
  obtain ⟨d, hd⟩ : ∃ d, d = e - k := ⟨_, rfl⟩
  induction d generalizing k with
  | zero =>
    have : k = e := by omega
    subst this; exact hend
  | succ d ih => exact hstep k (by omega) (ih (k + 1) (by omega) (by omega))
theorem gwk {X : gX} {E : gE} {M : gM} {pc : Nat} {ls : gLs} {st : List Value} {Q Q' : State → Prop} (h : gG X E M pc ls st Q) (e : Q = Q') : gG X E M pc ls st Q' := e ▸ h

