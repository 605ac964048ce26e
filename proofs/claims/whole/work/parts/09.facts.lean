theorem ff_X7_9 : gFld RX7 9 7 0 := ⟨_, rfl, by decide, lf_X7_9⟩
theorem fp_X7_9 : gPutF RX7 9 7 0 := ⟨_, rfl, by decide, lf_X7_9, rfl, rfl⟩
theorem ff_X10_99 : gFld RX10 99 7 1 := ⟨_, rfl, by decide, lf_X10_99⟩
theorem fp_X10_99 : gPut RX10 99 7 1 := ⟨_, rfl, by decide, lf_X10_99, rfl⟩
theorem ff_X7_15 : gFld RX7 15 7 1 := ⟨_, rfl, by decide, lf_X7_15⟩
theorem fp_X7_15 : gPut RX7 15 7 1 := ⟨_, rfl, by decide, lf_X7_15, rfl⟩
theorem ff_X9_21 : gFld RX9 21 7 2 := ⟨_, rfl, by decide, lf_X9_21⟩
theorem fp_X9_21 : gPut RX9 21 7 2 := ⟨_, rfl, by decide, lf_X9_21, rfl⟩
theorem ff_X3_22 : gFld RX3 22 7 2 := ⟨_, rfl, by decide, lf_X3_22⟩
theorem fp_X3_22 : gPut RX3 22 7 2 := ⟨_, rfl, by decide, lf_X3_22, rfl⟩
theorem ff_X7_19 : gFld RX7 19 7 2 := ⟨_, rfl, by decide, lf_X7_19⟩
theorem fp_X7_19 : gPut RX7 19 7 2 := ⟨_, rfl, by decide, lf_X7_19, rfl⟩
theorem ff_X8_59 : gFld RX8 59 7 2 := ⟨_, rfl, by decide, lf_X8_59⟩
theorem fp_X8_59 : gPut RX8 59 7 2 := ⟨_, rfl, by decide, lf_X8_59, rfl⟩
theorem ff_X9_61 : gFld RX9 61 7 3 := ⟨_, rfl, by decide, lf_X9_61⟩
theorem fp_X9_61 : gPut RX9 61 7 3 := ⟨_, rfl, by decide, lf_X9_61, rfl⟩
theorem ff_X7_30 : gFld RX7 30 7 3 := ⟨_, rfl, by decide, lf_X7_30⟩
theorem fp_X7_30 : gPut RX7 30 7 3 := ⟨_, rfl, by decide, lf_X7_30, rfl⟩
theorem ff_X3_98 : gFld RX3 98 7 3 := ⟨_, rfl, by decide, lf_X3_98⟩
theorem fp_X3_98 : gPut RX3 98 7 3 := ⟨_, rfl, by decide, lf_X3_98, rfl⟩
theorem ff_X8_112 : gFld RX8 112 7 3 := ⟨_, rfl, by decide, lf_X8_112⟩
theorem fp_X8_112 : gPut RX8 112 7 3 := ⟨_, rfl, by decide, lf_X8_112, rfl⟩
theorem ff_X8_9 : gFld RX8 9 8 0 := ⟨_, rfl, by decide, lf_X8_9⟩
theorem fp_X8_9 : gPutF RX8 9 8 0 := ⟨_, rfl, by decide, lf_X8_9, rfl, rfl⟩
theorem ff_X4_34 : gFld RX4 34 8 0 := ⟨_, rfl, by decide, lf_X4_34⟩
theorem ff_X8_15 : gFld RX8 15 8 1 := ⟨_, rfl, by decide, lf_X8_15⟩
theorem fp_X8_15 : gPutF RX8 15 8 1 := ⟨_, rfl, by decide, lf_X8_15, rfl, rfl⟩
theorem ff_X0_40 : gFld RX0 40 8 1 := ⟨_, rfl, by decide, lf_X0_40⟩
theorem ff_X10_168 : gFld RX10 168 8 1 := ⟨_, rfl, by decide, lf_X10_168⟩
theorem ff_X8_18 : gFld RX8 18 8 2 := ⟨_, rfl, by decide, lf_X8_18⟩
theorem fp_X8_18 : gPutF RX8 18 8 2 := ⟨_, rfl, by decide, lf_X8_18, rfl, rfl⟩
theorem ff_X10_172 : gFld RX10 172 8 2 := ⟨_, rfl, by decide, lf_X10_172⟩
theorem ff_X4_109 : gFld RX4 109 8 2 := ⟨_, rfl, by decide, lf_X4_109⟩
theorem ff_X8_21 : gFld RX8 21 8 3 := ⟨_, rfl, by decide, lf_X8_21⟩
theorem fp_X8_21 : gPutF RX8 21 8 3 := ⟨_, rfl, by decide, lf_X8_21, rfl, rfl⟩
theorem ff_X10_184 : gFld RX10 184 8 3 := ⟨_, rfl, by decide, lf_X10_184⟩
theorem ff_X8_24 : gFld RX8 24 8 4 := ⟨_, rfl, by decide, lf_X8_24⟩
theorem fp_X8_24 : gPutF RX8 24 8 4 := ⟨_, rfl, by decide, lf_X8_24, rfl, rfl⟩
theorem ff_X10_187 : gFld RX10 187 8 4 := ⟨_, rfl, by decide, lf_X10_187⟩
theorem ff_X4_77 : gFld RX4 77 8 4 := ⟨_, rfl, by decide, lf_X4_77⟩
theorem ff_X8_27 : gFld RX8 27 8 5 := ⟨_, rfl, by decide, lf_X8_27⟩
theorem fp_X8_27 : gPutF RX8 27 8 5 := ⟨_, rfl, by decide, lf_X8_27, rfl, rfl⟩
theorem ff_X10_190 : gFld RX10 190 8 5 := ⟨_, rfl, by decide, lf_X10_190⟩
theorem ff_X4_70 : gFld RX4 70 8 5 := ⟨_, rfl, by decide, lf_X4_70⟩
theorem ff_X8_30 : gFld RX8 30 8 6 := ⟨_, rfl, by decide, lf_X8_30⟩
theorem fp_X8_30 : gPutF RX8 30 8 6 := ⟨_, rfl, by decide, lf_X8_30, rfl, rfl⟩
theorem ff_X8_33 : gFld RX8 33 8 7 := ⟨_, rfl, by decide, lf_X8_33⟩
theorem fp_X8_33 : gPut RX8 33 8 7 := ⟨_, rfl, by decide, lf_X8_33, rfl⟩
theorem ff_X4_28 : gFld RX4 28 8 7 := ⟨_, rfl, by decide, lf_X4_28⟩
theorem fp_X4_28 : gPut RX4 28 8 7 := ⟨_, rfl, by decide, lf_X4_28, rfl⟩
theorem ff_X10_141 : gFld RX10 141 8 7 := ⟨_, rfl, by decide, lf_X10_141⟩
theorem fp_X10_141 : gPut RX10 141 8 7 := ⟨_, rfl, by decide, lf_X10_141, rfl⟩
theorem ff_X8_37 : gFld RX8 37 8 8 := ⟨_, rfl, by decide, lf_X8_37⟩
theorem fp_X8_37 : gPut RX8 37 8 8 := ⟨_, rfl, by decide, lf_X8_37, rfl⟩
theorem ff_X6_46 : gFld RX6 46 8 8 := ⟨_, rfl, by decide, lf_X6_46⟩
theorem fp_X6_46 : gPut RX6 46 8 8 := ⟨_, rfl, by decide, lf_X6_46, rfl⟩
theorem ff_X4_50 : gFld RX4 50 8 8 := ⟨_, rfl, by decide, lf_X4_50⟩
theorem fp_X4_50 : gPut RX4 50 8 8 := ⟨_, rfl, by decide, lf_X4_50, rfl⟩
theorem ff_X10_283 : gFld RX10 283 8 8 := ⟨_, rfl, by decide, lf_X10_283⟩
theorem fp_X10_283 : gPut RX10 283 8 8 := ⟨_, rfl, by decide, lf_X10_283, rfl⟩
theorem ff_X8_53 : gFld RX8 53 8 9 := ⟨_, rfl, by decide, lf_X8_53⟩
theorem fp_X8_53 : gPut RX8 53 8 9 := ⟨_, rfl, by decide, lf_X8_53, rfl⟩
theorem ff_X4_92 : gFld RX4 92 8 9 := ⟨_, rfl, by decide, lf_X4_92⟩
theorem fp_X4_92 : gPut RX4 92 8 9 := ⟨_, rfl, by decide, lf_X4_92, rfl⟩
theorem ff_X4_37 : gFld RX4 37 8 10 := ⟨_, rfl, by decide, lf_X4_37⟩
theorem fp_X4_37 : gPut RX4 37 8 10 := ⟨_, rfl, by decide, lf_X4_37, rfl⟩
theorem ff_X8_56 : gFld RX8 56 8 10 := ⟨_, rfl, by decide, lf_X8_56⟩
theorem fp_X8_56 : gPut RX8 56 8 10 := ⟨_, rfl, by decide, lf_X8_56, rfl⟩
theorem ff_X8_64 : gFld RX8 64 8 11 := ⟨_, rfl, by decide, lf_X8_64⟩
theorem fp_X8_64 : gPut RX8 64 8 11 := ⟨_, rfl, by decide, lf_X8_64, rfl⟩
theorem ff_X2_9 : gFld RX2 9 2 0 := ⟨_, rfl, by decide, lf_X2_9⟩
theorem fp_X2_9 : gPutF RX2 9 2 0 := ⟨_, rfl, by decide, lf_X2_9, rfl, rfl⟩
theorem ff_X2_15 : gFld RX2 15 2 1 := ⟨_, rfl, by decide, lf_X2_15⟩
theorem fp_X2_15 : gPutF RX2 15 2 1 := ⟨_, rfl, by decide, lf_X2_15, rfl, rfl⟩
theorem ff_X2_18 : gFld RX2 18 2 2 := ⟨_, rfl, by decide, lf_X2_18⟩
theorem fp_X2_18 : gPutF RX2 18 2 2 := ⟨_, rfl, by decide, lf_X2_18, rfl, rfl⟩
theorem ff_X2_21 : gFld RX2 21 2 3 := ⟨_, rfl, by decide, lf_X2_21⟩
theorem fp_X2_21 : gPutF RX2 21 2 3 := ⟨_, rfl, by decide, lf_X2_21, rfl, rfl⟩
theorem ff_X2_24 : gFld RX2 24 2 4 := ⟨_, rfl, by decide, lf_X2_24⟩
theorem fp_X2_24 : gPut RX2 24 2 4 := ⟨_, rfl, by decide, lf_X2_24, rfl⟩
theorem ff_X3_43 : gFld RX3 43 2 4 := ⟨_, rfl, by decide, lf_X3_43⟩
theorem fp_X3_43 : gPut RX3 43 2 4 := ⟨_, rfl, by decide, lf_X3_43, rfl⟩
theorem ff_X2_28 : gFld RX2 28 2 5 := ⟨_, rfl, by decide, lf_X2_28⟩
theorem fp_X2_28 : gPut RX2 28 2 5 := ⟨_, rfl, by decide, lf_X2_28, rfl⟩
theorem ff_X2_31 : gFld RX2 31 2 6 := ⟨_, rfl, by decide, lf_X2_31⟩
theorem fp_X2_31 : gPut RX2 31 2 6 := ⟨_, rfl, by decide, lf_X2_31, rfl⟩
theorem ff_X0_36 : gFld RX0 36 2 6 := ⟨_, rfl, by decide, lf_X0_36⟩
theorem fp_X0_36 : gPut RX0 36 2 6 := ⟨_, rfl, by decide, lf_X0_36, rfl⟩
theorem ff_X3_18 : gFld RX3 18 3 0 := ⟨_, rfl, by decide, lf_X3_18⟩
theorem fp_X3_18 : gPutF RX3 18 3 0 := ⟨_, rfl, by decide, lf_X3_18, rfl, rfl⟩
theorem ff_X3_12 : gFld RX3 12 3 1 := ⟨_, rfl, by decide, lf_X3_12⟩
theorem fp_X3_12 : gPut RX3 12 3 1 := ⟨_, rfl, by decide, lf_X3_12, rfl⟩
theorem ff_X0_25 : gFld RX0 25 0 0 := ⟨_, rfl, by decide, lf_X0_25⟩
theorem fp_X0_25 : gPutF RX0 25 0 0 := ⟨_, rfl, by decide, lf_X0_25, rfl, rfl⟩
theorem ff_X0_11 : gFld RX0 11 0 1 := ⟨_, rfl, by decide, lf_X0_11⟩
theorem fp_X0_11 : gPutF RX0 11 0 1 := ⟨_, rfl, by decide, lf_X0_11, rfl, rfl⟩
theorem ff_X0_17 : gFld RX0 17 0 2 := ⟨_, rfl, by decide, lf_X0_17⟩
theorem fp_X0_17 : gPutF RX0 17 0 2 := ⟨_, rfl, by decide, lf_X0_17, rfl, rfl⟩
theorem ff_X0_29 : gFld RX0 29 0 3 := ⟨_, rfl, by decide, lf_X0_29⟩
theorem fp_X0_29 : gPut RX0 29 0 3 := ⟨_, rfl, by decide, lf_X0_29, rfl⟩
theorem ff_X10_144 : gFld RX10 144 0 3 := ⟨_, rfl, by decide, lf_X10_144⟩
theorem fp_X10_144 : gPut RX10 144 0 3 := ⟨_, rfl, by decide, lf_X10_144, rfl⟩
theorem ff_X0_21 : gFld RX0 21 0 4 := ⟨_, rfl, by decide, lf_X0_21⟩
theorem fp_X0_21 : gPut RX0 21 0 4 := ⟨_, rfl, by decide, lf_X0_21, rfl⟩
theorem ff_X10_401 : gFld RX10 401 0 4 := ⟨_, rfl, by decide, lf_X10_401⟩
theorem fp_X10_401 : gPut RX10 401 0 4 := ⟨_, rfl, by decide, lf_X10_401, rfl⟩
theorem ff_X9_9 : gFld RX9 9 9 0 := ⟨_, rfl, by decide, lf_X9_9⟩
theorem fp_X9_9 : gPutF RX9 9 9 0 := ⟨_, rfl, by decide, lf_X9_9, rfl, rfl⟩
theorem ff_X10_302 : gFld RX10 302 9 0 := ⟨_, rfl, by decide, lf_X10_302⟩
theorem ff_X9_15 : gFld RX9 15 9 1 := ⟨_, rfl, by decide, lf_X9_15⟩
theorem fp_X9_15 : gPutF RX9 15 9 1 := ⟨_, rfl, by decide, lf_X9_15, rfl, rfl⟩
theorem ff_X10_305 : gFld RX10 305 9 1 := ⟨_, rfl, by decide, lf_X10_305⟩
theorem ff_X9_18 : gFld RX9 18 9 2 := ⟨_, rfl, by decide, lf_X9_18⟩
theorem fp_X9_18 : gPutF RX9 18 9 2 := ⟨_, rfl, by decide, lf_X9_18, rfl, rfl⟩
theorem ff_X10_307 : gFld RX10 307 9 2 := ⟨_, rfl, by decide, lf_X10_307⟩
theorem ff_X9_27 : gFld RX9 27 9 3 := ⟨_, rfl, by decide, lf_X9_27⟩
theorem fp_X9_27 : gPut RX9 27 9 3 := ⟨_, rfl, by decide, lf_X9_27, rfl⟩
theorem ff_X10_300 : gFld RX10 300 9 3 := ⟨_, rfl, by decide, lf_X10_300⟩
theorem fp_X10_300 : gPut RX10 300 9 3 := ⟨_, rfl, by decide, lf_X10_300, rfl⟩
theorem ff_X4_18 : gFld RX4 18 4 0 := ⟨_, rfl, by decide, lf_X4_18⟩
theorem fp_X4_18 : gPutF RX4 18 4 0 := ⟨_, rfl, by decide, lf_X4_18, rfl, rfl⟩
theorem ff_X4_11 : gFld RX4 11 4 1 := ⟨_, rfl, by decide, lf_X4_11⟩
theorem fp_X4_11 : gPutF RX4 11 4 1 := ⟨_, rfl, by decide, lf_X4_11, rfl, rfl⟩
theorem ff_X5_18 : gFld RX5 18 4 1 := ⟨_, rfl, by decide, lf_X5_18⟩
theorem ff_X4_15 : gFld RX4 15 4 2 := ⟨_, rfl, by decide, lf_X4_15⟩
theorem fp_X4_15 : gPutF RX4 15 4 2 := ⟨_, rfl, by decide, lf_X4_15, rfl, rfl⟩
theorem ff_X5_13 : gFld RX5 13 5 0 := ⟨_, rfl, by decide, lf_X5_13⟩
theorem fp_X5_13 : gPutF RX5 13 5 0 := ⟨_, rfl, by decide, lf_X5_13, rfl, rfl⟩
theorem ff_X5_32 : gFld RX5 32 5 1 := ⟨_, rfl, by decide, lf_X5_32⟩
theorem fp_X5_32 : gPut RX5 32 5 1 := ⟨_, rfl, by decide, lf_X5_32, rfl⟩
theorem ff_X10_404 : gFld RX10 404 5 1 := ⟨_, rfl, by decide, lf_X10_404⟩
theorem fp_X10_404 : gPut RX10 404 5 1 := ⟨_, rfl, by decide, lf_X10_404, rfl⟩
theorem ff_X5_22 : gFld RX5 22 5 2 := ⟨_, rfl, by decide, lf_X5_22⟩
theorem fp_X5_22 : gPut RX5 22 5 2 := ⟨_, rfl, by decide, lf_X5_22, rfl⟩
theorem ff_X6_28 : gFld RX6 28 6 0 := ⟨_, rfl, by decide, lf_X6_28⟩
theorem fp_X6_28 : gPutF RX6 28 6 0 := ⟨_, rfl, by decide, lf_X6_28, rfl, rfl⟩
theorem ff_X6_32 : gFld RX6 32 6 1 := ⟨_, rfl, by decide, lf_X6_32⟩
theorem fp_X6_32 : gPutF RX6 32 6 1 := ⟨_, rfl, by decide, lf_X6_32, rfl, rfl⟩
theorem ff_X6_11 : gFld RX6 11 6 2 := ⟨_, rfl, by decide, lf_X6_11⟩
theorem fp_X6_11 : gPutF RX6 11 6 2 := ⟨_, rfl, by decide, lf_X6_11, rfl, rfl⟩
theorem ff_X6_15 : gFld RX6 15 6 3 := ⟨_, rfl, by decide, lf_X6_15⟩
theorem fp_X6_15 : gPutF RX6 15 6 3 := ⟨_, rfl, by decide, lf_X6_15, rfl, rfl⟩
theorem ff_X6_18 : gFld RX6 18 6 4 := ⟨_, rfl, by decide, lf_X6_18⟩
theorem fp_X6_18 : gPutF RX6 18 6 4 := ⟨_, rfl, by decide, lf_X6_18, rfl, rfl⟩
theorem ff_X6_36 : gFld RX6 36 6 5 := ⟨_, rfl, by decide, lf_X6_36⟩
theorem fp_X6_36 : gPut RX6 36 6 5 := ⟨_, rfl, by decide, lf_X6_36, rfl⟩
theorem ff_X10_347 : gFld RX10 347 6 5 := ⟨_, rfl, by decide, lf_X10_347⟩
theorem fp_X10_347 : gPut RX10 347 6 5 := ⟨_, rfl, by decide, lf_X10_347, rfl⟩
theorem ff_X6_22 : gFld RX6 22 6 6 := ⟨_, rfl, by decide, lf_X6_22⟩
theorem fp_X6_22 : gPutF RX6 22 6 6 := ⟨_, rfl, by decide, lf_X6_22, rfl, rfl⟩
theorem ff_X6_25 : gFld RX6 25 6 7 := ⟨_, rfl, by decide, lf_X6_25⟩
theorem fp_X6_25 : gPutF RX6 25 6 7 := ⟨_, rfl, by decide, lf_X6_25, rfl, rfl⟩
theorem ff_X6_86 : gFld RX6 86 6 8 := ⟨_, rfl, by decide, lf_X6_86⟩
theorem fp_X6_86 : gPut RX6 86 6 8 := ⟨_, rfl, by decide, lf_X6_86, rfl⟩
theorem ff_X1_7 : gFld RX1 7 1 0 := ⟨_, rfl, by decide, lf_X1_7⟩
theorem fp_X1_7 : gPut RX1 7 1 0 := ⟨_, rfl, by decide, lf_X1_7, rfl⟩
theorem ff_X10_10 : gFld RX10 10 10 0 := ⟨_, rfl, by decide, lf_X10_10⟩
theorem fp_X10_10 : gPutF RX10 10 10 0 := ⟨_, rfl, by decide, lf_X10_10, rfl, rfl⟩
theorem ff_X10_19 : gFld RX10 19 10 1 := ⟨_, rfl, by decide, lf_X10_19⟩
theorem fp_X10_19 : gPutF RX10 19 10 1 := ⟨_, rfl, by decide, lf_X10_19, rfl, rfl⟩
theorem ff_X10_23 : gFld RX10 23 10 2 := ⟨_, rfl, by decide, lf_X10_23⟩
theorem fp_X10_23 : gPutF RX10 23 10 2 := ⟨_, rfl, by decide, lf_X10_23, rfl, rfl⟩
theorem ff_X10_31 : gFld RX10 31 10 3 := ⟨_, rfl, by decide, lf_X10_31⟩
theorem fp_X10_31 : gPutF RX10 31 10 3 := ⟨_, rfl, by decide, lf_X10_31, rfl, rfl⟩
theorem ff_X10_40 : gFld RX10 40 10 4 := ⟨_, rfl, by decide, lf_X10_40⟩
theorem fp_X10_40 : gPutF RX10 40 10 4 := ⟨_, rfl, by decide, lf_X10_40, rfl, rfl⟩
theorem ff_X10_46 : gFld RX10 46 10 5 := ⟨_, rfl, by decide, lf_X10_46⟩
theorem fp_X10_46 : gPutF RX10 46 10 5 := ⟨_, rfl, by decide, lf_X10_46, rfl, rfl⟩
theorem ff_X10_155 : gFld RX10 155 10 6 := ⟨_, rfl, by decide, lf_X10_155⟩
theorem fp_X10_155 : gPut RX10 155 10 6 := ⟨_, rfl, by decide, lf_X10_155, rfl⟩
theorem ff_X10_51 : gFld RX10 51 10 7 := ⟨_, rfl, by decide, lf_X10_51⟩
theorem fp_X10_51 : gPut RX10 51 10 7 := ⟨_, rfl, by decide, lf_X10_51, rfl⟩
theorem ff_X10_58 : gFld RX10 58 10 8 := ⟨_, rfl, by decide, lf_X10_58⟩
theorem fp_X10_58 : gPutF RX10 58 10 8 := ⟨_, rfl, by decide, lf_X10_58, rfl, rfl⟩
theorem ff_X10_62 : gFld RX10 62 10 9 := ⟨_, rfl, by decide, lf_X10_62⟩
theorem fp_X10_62 : gPutF RX10 62 10 9 := ⟨_, rfl, by decide, lf_X10_62, rfl, rfl⟩
theorem ff_X10_65 : gFld RX10 65 10 10 := ⟨_, rfl, by decide, lf_X10_65⟩
theorem fp_X10_65 : gPutF RX10 65 10 10 := ⟨_, rfl, by decide, lf_X10_65, rfl, rfl⟩
theorem ff_X10_137 : gFld RX10 137 10 11 := ⟨_, rfl, by decide, lf_X10_137⟩
theorem fp_X10_137 : gPut RX10 137 10 11 := ⟨_, rfl, by decide, lf_X10_137, rfl⟩
theorem ff_X10_71 : gFld RX10 71 10 12 := ⟨_, rfl, by decide, lf_X10_71⟩
theorem fp_X10_71 : gPutF RX10 71 10 12 := ⟨_, rfl, by decide, lf_X10_71, rfl, rfl⟩
theorem ff_X10_80 : gFld RX10 80 10 13 := ⟨_, rfl, by decide, lf_X10_80⟩
theorem fp_X10_80 : gPutF RX10 80 10 13 := ⟨_, rfl, by decide, lf_X10_80, rfl, rfl⟩
theorem ff_X10_87 : gFld RX10 87 10 14 := ⟨_, rfl, by decide, lf_X10_87⟩
theorem fp_X10_87 : gPutF RX10 87 10 14 := ⟨_, rfl, by decide, lf_X10_87, rfl, rfl⟩
theorem ff_X10_91 : gFld RX10 91 10 15 := ⟨_, rfl, by decide, lf_X10_91⟩
theorem fp_X10_91 : gPut RX10 91 10 15 := ⟨_, rfl, by decide, lf_X10_91, rfl⟩
theorem ff_X11_90 : gFld RX11 90 11 0 := ⟨_, rfl, by decide, lf_X11_90⟩
theorem fp_X11_90 : gPut RX11 90 11 0 := ⟨_, rfl, by decide, lf_X11_90, rfl⟩
theorem ff_X11_9 : gFld RX11 9 11 1 := ⟨_, rfl, by decide, lf_X11_9⟩
theorem fp_X11_9 : gPutF RX11 9 11 1 := ⟨_, rfl, by decide, lf_X11_9, rfl, rfl⟩
theorem ff_X11_13 : gFld RX11 13 11 2 := ⟨_, rfl, by decide, lf_X11_13⟩
theorem fp_X11_13 : gPutF RX11 13 11 2 := ⟨_, rfl, by decide, lf_X11_13, rfl, rfl⟩
theorem ff_X11_16 : gFld RX11 16 11 3 := ⟨_, rfl, by decide, lf_X11_16⟩
theorem fp_X11_16 : gPutF RX11 16 11 3 := ⟨_, rfl, by decide, lf_X11_16, rfl, rfl⟩
theorem ff_X11_20 : gFld RX11 20 11 4 := ⟨_, rfl, by decide, lf_X11_20⟩
theorem fp_X11_20 : gPutF RX11 20 11 4 := ⟨_, rfl, by decide, lf_X11_20, rfl, rfl⟩
theorem ff_X11_23 : gFld RX11 23 11 5 := ⟨_, rfl, by decide, lf_X11_23⟩
theorem fp_X11_23 : gPut RX11 23 11 5 := ⟨_, rfl, by decide, lf_X11_23, rfl⟩
theorem ff_X11_103 : gFld RX11 103 11 6 := ⟨_, rfl, by decide, lf_X11_103⟩
theorem fp_X11_103 : gPut RX11 103 11 6 := ⟨_, rfl, by decide, lf_X11_103, rfl⟩
theorem ff_X11_277 : gFld RX11 277 11 7 := ⟨_, rfl, by decide, lf_X11_277⟩
theorem fp_X11_277 : gPut RX11 277 11 7 := ⟨_, rfl, by decide, lf_X11_277, rfl⟩
theorem ff_X11_119 : gFld RX11 119 11 8 := ⟨_, rfl, by decide, lf_X11_119⟩
theorem fp_X11_119 : gPut RX11 119 11 8 := ⟨_, rfl, by decide, lf_X11_119, rfl⟩
theorem ff_X11_116 : gFld RX11 116 11 9 := ⟨_, rfl, by decide, lf_X11_116⟩
theorem fp_X11_116 : gPut RX11 116 11 9 := ⟨_, rfl, by decide, lf_X11_116, rfl⟩
theorem ff_X11_113 : gFld RX11 113 11 10 := ⟨_, rfl, by decide, lf_X11_113⟩
theorem fp_X11_113 : gPut RX11 113 11 10 := ⟨_, rfl, by decide, lf_X11_113, rfl⟩
theorem ff_X11_122 : gFld RX11 122 11 11 := ⟨_, rfl, by decide, lf_X11_122⟩
theorem fp_X11_122 : gPut RX11 122 11 11 := ⟨_, rfl, by decide, lf_X11_122, rfl⟩
theorem ff_X11_125 : gFld RX11 125 11 12 := ⟨_, rfl, by decide, lf_X11_125⟩
theorem fp_X11_125 : gPut RX11 125 11 12 := ⟨_, rfl, by decide, lf_X11_125, rfl⟩
theorem ff_X11_195 : gFld RX11 195 11 13 := ⟨_, rfl, by decide, lf_X11_195⟩
theorem fp_X11_195 : gPut RX11 195 11 13 := ⟨_, rfl, by decide, lf_X11_195, rfl⟩
theorem ff_X11_198 : gFld RX11 198 11 14 := ⟨_, rfl, by decide, lf_X11_198⟩
theorem fp_X11_198 : gPut RX11 198 11 14 := ⟨_, rfl, by decide, lf_X11_198, rfl⟩
theorem ff_X11_28 : gFld RX11 28 11 15 := ⟨_, rfl, by decide, lf_X11_28⟩
theorem fp_X11_28 : gPutF RX11 28 11 15 := ⟨_, rfl, by decide, lf_X11_28, rfl, rfl⟩
theorem ff_X11_34 : gFld RX11 34 11 16 := ⟨_, rfl, by decide, lf_X11_34⟩
theorem fp_X11_34 : gPutF RX11 34 11 16 := ⟨_, rfl, by decide, lf_X11_34, rfl, rfl⟩
theorem ff_X11_191 : gFld RX11 191 11 17 := ⟨_, rfl, by decide, lf_X11_191⟩
theorem fp_X11_191 : gPut RX11 191 11 17 := ⟨_, rfl, by decide, lf_X11_191, rfl⟩
theorem ff_X11_37 : gFld RX11 37 11 18 := ⟨_, rfl, by decide, lf_X11_37⟩
theorem fp_X11_37 : gPutF RX11 37 11 18 := ⟨_, rfl, by decide, lf_X11_37, rfl, rfl⟩
theorem ff_X11_40 : gFld RX11 40 11 19 := ⟨_, rfl, by decide, lf_X11_40⟩
theorem fp_X11_40 : gPutF RX11 40 11 19 := ⟨_, rfl, by decide, lf_X11_40, rfl, rfl⟩
theorem ff_X11_43 : gFld RX11 43 11 20 := ⟨_, rfl, by decide, lf_X11_43⟩
theorem fp_X11_43 : gPutF RX11 43 11 20 := ⟨_, rfl, by decide, lf_X11_43, rfl, rfl⟩
theorem ff_X11_46 : gFld RX11 46 11 21 := ⟨_, rfl, by decide, lf_X11_46⟩
theorem fp_X11_46 : gPutF RX11 46 11 21 := ⟨_, rfl, by decide, lf_X11_46, rfl, rfl⟩
theorem ff_X11_49 : gFld RX11 49 11 22 := ⟨_, rfl, by decide, lf_X11_49⟩
theorem fp_X11_49 : gPutF RX11 49 11 22 := ⟨_, rfl, by decide, lf_X11_49, rfl, rfl⟩
theorem ff_X11_52 : gFld RX11 52 11 23 := ⟨_, rfl, by decide, lf_X11_52⟩
theorem fp_X11_52 : gPutF RX11 52 11 23 := ⟨_, rfl, by decide, lf_X11_52, rfl, rfl⟩
theorem ff_X11_55 : gFld RX11 55 11 24 := ⟨_, rfl, by decide, lf_X11_55⟩
theorem fp_X11_55 : gPutF RX11 55 11 24 := ⟨_, rfl, by decide, lf_X11_55, rfl, rfl⟩
theorem ff_X11_58 : gFld RX11 58 11 25 := ⟨_, rfl, by decide, lf_X11_58⟩
theorem fp_X11_58 : gPutF RX11 58 11 25 := ⟨_, rfl, by decide, lf_X11_58, rfl, rfl⟩
theorem ff_X11_285 : gFld RX11 285 11 26 := ⟨_, rfl, by decide, lf_X11_285⟩
theorem fp_X11_285 : gPut RX11 285 11 26 := ⟨_, rfl, by decide, lf_X11_285, rfl⟩
theorem ff_X11_288 : gFld RX11 288 11 27 := ⟨_, rfl, by decide, lf_X11_288⟩
theorem fp_X11_288 : gPut RX11 288 11 27 := ⟨_, rfl, by decide, lf_X11_288, rfl⟩
theorem ff_X11_239 : gFld RX11 239 11 28 := ⟨_, rfl, by decide, lf_X11_239⟩
theorem fp_X11_239 : gPut RX11 239 11 28 := ⟨_, rfl, by decide, lf_X11_239, rfl⟩
theorem ff_X11_242 : gFld RX11 242 11 29 := ⟨_, rfl, by decide, lf_X11_242⟩
theorem fp_X11_242 : gPut RX11 242 11 29 := ⟨_, rfl, by decide, lf_X11_242, rfl⟩
theorem ff_X11_280 : gFld RX11 280 11 30 := ⟨_, rfl, by decide, lf_X11_280⟩
theorem fp_X11_280 : gPut RX11 280 11 30 := ⟨_, rfl, by decide, lf_X11_280, rfl⟩
theorem ff_X11_236 : gFld RX11 236 11 31 := ⟨_, rfl, by decide, lf_X11_236⟩
theorem fp_X11_236 : gPut RX11 236 11 31 := ⟨_, rfl, by decide, lf_X11_236, rfl⟩
theorem ff_X11_61 : gFld RX11 61 11 32 := ⟨_, rfl, by decide, lf_X11_61⟩
theorem fp_X11_61 : gPutF RX11 61 11 32 := ⟨_, rfl, by decide, lf_X11_61, rfl, rfl⟩
theorem ff_X11_64 : gFld RX11 64 11 33 := ⟨_, rfl, by decide, lf_X11_64⟩
theorem fp_X11_64 : gPutF RX11 64 11 33 := ⟨_, rfl, by decide, lf_X11_64, rfl, rfl⟩
theorem ff_X11_67 : gFld RX11 67 11 34 := ⟨_, rfl, by decide, lf_X11_67⟩
theorem fp_X11_67 : gPut RX11 67 11 34 := ⟨_, rfl, by decide, lf_X11_67, rfl⟩
theorem ff_X11_71 : gFld RX11 71 11 35 := ⟨_, rfl, by decide, lf_X11_71⟩
theorem fp_X11_71 : gPut RX11 71 11 35 := ⟨_, rfl, by decide, lf_X11_71, rfl⟩
theorem ff_X11_74 : gFld RX11 74 11 36 := ⟨_, rfl, by decide, lf_X11_74⟩
theorem fp_X11_74 : gPutF RX11 74 11 36 := ⟨_, rfl, by decide, lf_X11_74, rfl, rfl⟩
theorem ff_X11_78 : gFld RX11 78 11 37 := ⟨_, rfl, by decide, lf_X11_78⟩
theorem fp_X11_78 : gPutF RX11 78 11 37 := ⟨_, rfl, by decide, lf_X11_78, rfl, rfl⟩
theorem ff_X11_81 : gFld RX11 81 11 38 := ⟨_, rfl, by decide, lf_X11_81⟩
theorem fp_X11_81 : gPutF RX11 81 11 38 := ⟨_, rfl, by decide, lf_X11_81, rfl, rfl⟩
theorem ff_X11_294 : gFld RX11 294 11 39 := ⟨_, rfl, by decide, lf_X11_294⟩
theorem fp_X11_294 : gPut RX11 294 11 39 := ⟨_, rfl, by decide, lf_X11_294, rfl⟩
theorem ff_X11_393 : gFld RX11 393 11 40 := ⟨_, rfl, by decide, lf_X11_393⟩
theorem fp_X11_393 : gPut RX11 393 11 40 := ⟨_, rfl, by decide, lf_X11_393, rfl⟩
theorem ff_X11_421 : gFld RX11 421 11 41 := ⟨_, rfl, by decide, lf_X11_421⟩
theorem fp_X11_421 : gPut RX11 421 11 41 := ⟨_, rfl, by decide, lf_X11_421, rfl⟩
theorem ff_X11_424 : gFld RX11 424 11 42 := ⟨_, rfl, by decide, lf_X11_424⟩
theorem fp_X11_424 : gPut RX11 424 11 42 := ⟨_, rfl, by decide, lf_X11_424, rfl⟩
theorem ff_X11_84 : gFld RX11 84 11 43 := ⟨_, rfl, by decide, lf_X11_84⟩
theorem fp_X11_84 : gPutF RX11 84 11 43 := ⟨_, rfl, by decide, lf_X11_84, rfl, rfl⟩
theorem ff_X11_291 : gFld RX11 291 11 44 := ⟨_, rfl, by decide, lf_X11_291⟩
theorem fp_X11_291 : gPut RX11 291 11 44 := ⟨_, rfl, by decide, lf_X11_291, rfl⟩
theorem ff_X11_87 : gFld RX11 87 11 45 := ⟨_, rfl, by decide, lf_X11_87⟩
theorem fp_X11_87 : gPutF RX11 87 11 45 := ⟨_, rfl, by decide, lf_X11_87, rfl, rfl⟩
theorem ff_X11_297 : gFld RX11 297 11 46 := ⟨_, rfl, by decide, lf_X11_297⟩
theorem fp_X11_297 : gPut RX11 297 11 46 := ⟨_, rfl, by decide, lf_X11_297, rfl⟩
theorem mv_X10_init : gMc yX10_init cX10_init 1 0 := ⟨lk_X10_init, li_X10_init, rfl, ln_X10, ⟨by decide, by decide, by decide +kernel⟩, by decide⟩
theorem mv_X7_init : gMc yX7_init cX7_init 1 0 := ⟨lk_X7_init, li_X7_init, rfl, ln_X7, ⟨by decide, by decide, by decide +kernel⟩, by decide⟩
theorem mv_X8_init : gMc yX8_init cX8_init 1 0 := ⟨lk_X8_init, li_X8_init, rfl, ln_X8, ⟨by decide, by decide, by decide +kernel⟩, by decide⟩
theorem mv_X3_init : gMc yX3_init cX3_init 2 1 := ⟨lk_X3_init, li_X3_init, rfl, ln_X3, ⟨by decide, by decide, by decide +kernel⟩, by decide⟩
theorem mv_X2_init : gMc yX2_init cX2_init 1 0 := ⟨lk_X2_init, li_X2_init, rfl, ln_X2, ⟨by decide, by decide, by decide +kernel⟩, by decide⟩
theorem mv_X0_init : gMc yX0_init cX0_init 2 1 := ⟨lk_X0_init, li_X0_init, rfl, ln_X0, ⟨by decide, by decide, by decide +kernel⟩, by decide⟩
theorem mv_X9_init : gMc yX9_init cX9_init 1 0 := ⟨lk_X9_init, li_X9_init, rfl, ln_X9, ⟨by decide, by decide, by decide +kernel⟩, by decide⟩
theorem mv_X4_init : gMc yX4_init cX4_init 2 1 := ⟨lk_X4_init, li_X4_init, rfl, ln_X4, ⟨by decide, by decide, by decide +kernel⟩, by decide⟩
theorem mv_X5_init : gMc yX5_init cX5_init 1 0 := ⟨lk_X5_init, li_X5_init, rfl, ln_X5, ⟨by decide, by decide, by decide +kernel⟩, by decide⟩
theorem mv_X6_init : gMc yX6_init cX6_init 3 2 := ⟨lk_X6_init, li_X6_init, rfl, ln_X6, ⟨by decide, by decide, by decide +kernel⟩, by decide⟩
theorem mv_X1_init : gMc yX1_init cX1_init 1 0 := ⟨lk_X1_init, li_X1_init, rfl, ln_X1, ⟨by decide, by decide, by decide +kernel⟩, by decide⟩
theorem mv_X10_feed : gMv yX10_feed cX10_feed 7 (Option.some FieldType.int) 5 := ⟨lk_X10_feed, li_X10_feed, ls_X10_feed, ln_X10, ⟨by decide, by decide, by decide +kernel⟩, by decide⟩
theorem mv_X7_bytesIn : gMs yX7_bytesIn cX7_bytesIn 3 (Option.some FieldType.int) 1 := ⟨lk_X7_bytesIn, li_X7_bytesIn, ln_X7, ⟨by decide, by decide, by decide +kernel⟩, by decide⟩
theorem mv_X7_add : gMv yX7_add cX7_add 4 none 1 := ⟨lk_X7_add, li_X7_add, ls_X7_add, ln_X7, ⟨by decide, by decide, by decide +kernel⟩, by decide⟩
theorem mv_X10_end : gMv yX10_end cX10_end 2 (Option.some FieldType.boolean) 1 := ⟨lk_X10_end, li_X10_end, ls_X10_end, ln_X10, ⟨by decide, by decide, by decide +kernel⟩, by decide⟩
theorem mv_X10_fault : gMv yX10_fault cX10_fault 2 (Option.some FieldType.int) 1 := ⟨lk_X10_fault, li_X10_fault, ls_X10_fault, ln_X10, ⟨by decide, by decide, by decide +kernel⟩, by decide⟩
theorem mv_X8_faultIn : gMv yX8_faultIn cX8_faultIn 3 (Option.some FieldType.int) 1 := ⟨lk_X8_faultIn, li_X8_faultIn, ls_X8_faultIn, ln_X8, ⟨by decide, by decide, by decide +kernel⟩, by decide⟩
theorem mv_X8_readsClauses : gMv yX8_readsClauses cX8_readsClauses 4 (Option.some FieldType.boolean) 1 := ⟨lk_X8_readsClauses, li_X8_readsClauses, ls_X8_readsClauses, ln_X8, ⟨by decide, by decide, by decide +kernel⟩, by decide⟩
theorem mv_X7_passed : gMv yX7_passed cX7_passed 2 (Option.some FieldType.boolean) 1 := ⟨lk_X7_passed, li_X7_passed, ls_X7_passed, ln_X7, ⟨by decide, by decide, by decide +kernel⟩, by decide⟩
theorem mv_X7_next : gMv yX7_next cX7_next 1 (Option.some FieldType.int) 0 := ⟨lk_X7_next, li_X7_next, ls_X7_next, ln_X7, ⟨by decide, by decide, by decide +kernel⟩, by decide⟩
theorem mv_X8_kindOf : gMv yX8_kindOf cX8_kindOf 2 (Option.some FieldType.int) 1 := ⟨lk_X8_kindOf, li_X8_kindOf, ls_X8_kindOf, ln_X8, ⟨by decide, by decide, by decide +kernel⟩, by decide⟩
theorem mv_X7_pass : gMv yX7_pass cX7_pass 1 none 0 := ⟨lk_X7_pass, li_X7_pass, ls_X7_pass, ln_X7, ⟨by decide, by decide, by decide +kernel⟩, by decide⟩
theorem mv_X8_readsItems : gMv yX8_readsItems cX8_readsItems 8 (Option.some FieldType.boolean) 2 := ⟨lk_X8_readsItems, li_X8_readsItems, ls_X8_readsItems, ln_X8, ⟨by decide, by decide, by decide +kernel⟩, by decide⟩
theorem mv_X8_itemOf : gMs yX8_itemOf cX8_itemOf 3 (Option.some FieldType.int) 2 := ⟨lk_X8_itemOf, li_X8_itemOf, ln_X8, ⟨by decide, by decide, by decide +kernel⟩, by decide⟩
theorem mv_J0_charAt_5068e : gMv yJ0_charAt_5068e cJ0_charAt_5068e 2 (Option.some FieldType.char) 1 := ⟨lk_J0_charAt_5068e, li_J0_charAt_5068e, ls_J0_charAt_5068e, ln_J0, ⟨by decide, by decide, by decide +kernel⟩, by decide⟩
theorem mv_J0_isLatin1_aae02 : gMv yJ0_isLatin1_aae02 cJ0_isLatin1_aae02 1 (Option.some FieldType.boolean) 0 := ⟨lk_J0_isLatin1_aae02, li_J0_isLatin1_aae02, ls_J0_isLatin1_aae02, ln_J0, ⟨by decide, by decide, by decide +kernel⟩, by decide⟩
theorem mv_J1_charAt_3b067 : gMs yJ1_charAt_3b067 cJ1_charAt_3b067 2 (Option.some FieldType.char) 2 := ⟨lk_J1_charAt_3b067, li_J1_charAt_3b067, ln_J1, ⟨by decide, by decide, by decide +kernel⟩, by decide⟩
theorem mv_J0_checkIndex_df160 : gMs yJ0_checkIndex_df160 cJ0_checkIndex_df160 2 none 2 := ⟨lk_J0_checkIndex_df160, li_J0_checkIndex_df160, ln_J0, ⟨by decide, by decide, by decide +kernel⟩, by decide⟩
theorem mv_J3_checkIndex_8e157 : gMs yJ3_checkIndex_8e157 cJ3_checkIndex_8e157 3 (Option.some FieldType.int) 3 := ⟨lk_J3_checkIndex_8e157, li_J3_checkIndex_8e157, ln_J3, ⟨by decide, by decide, by decide +kernel⟩, by decide⟩
theorem mv_J2_charAt_3b067 : gMs yJ2_charAt_3b067 cJ2_charAt_3b067 2 (Option.some FieldType.char) 2 := ⟨lk_J2_charAt_3b067, li_J2_charAt_3b067, ln_J2, ⟨by decide, by decide, by decide +kernel⟩, by decide⟩
theorem mv_J2_checkIndex_2214a : gMs yJ2_checkIndex_2214a cJ2_checkIndex_2214a 2 none 2 := ⟨lk_J2_checkIndex_2214a, li_J2_checkIndex_2214a, ln_J2, ⟨by decide, by decide, by decide +kernel⟩, by decide⟩
theorem mv_J2_length_9d52b : gMs yJ2_length_9d52b cJ2_length_9d52b 1 (Option.some FieldType.int) 1 := ⟨lk_J2_length_9d52b, li_J2_length_9d52b, ln_J2, ⟨by decide, by decide, by decide +kernel⟩, by decide⟩
theorem mv_J2_getChar_3b067 : gMs yJ2_getChar_3b067 cJ2_getChar_3b067 2 (Option.some FieldType.char) 2 := ⟨lk_J2_getChar_3b067, li_J2_getChar_3b067, ln_J2, ⟨by decide, by decide, by decide +kernel⟩, by decide⟩
theorem mv_X7_readsNumber : gMv yX7_readsNumber cX7_readsNumber 5 (Option.some FieldType.boolean) 3 := ⟨lk_X7_readsNumber, li_X7_readsNumber, ls_X7_readsNumber, ln_X7, ⟨by decide, by decide, by decide +kernel⟩, by decide⟩
theorem mv_X7_isDigitHere : gMv yX7_isDigitHere cX7_isDigitHere 1 (Option.some FieldType.boolean) 0 := ⟨lk_X7_isDigitHere, li_X7_isDigitHere, ls_X7_isDigitHere, ln_X7, ⟨by decide, by decide, by decide +kernel⟩, by decide⟩
theorem mv_X8_settle : gMv yX8_settle cX8_settle 2 none 1 := ⟨lk_X8_settle, li_X8_settle, ls_X8_settle, ln_X8, ⟨by decide, by decide, by decide +kernel⟩, by decide⟩
theorem mv_X3_faultOfTape : gMv yX3_faultOfTape cX3_faultOfTape 4 (Option.some FieldType.int) 0 := ⟨lk_X3_faultOfTape, li_X3_faultOfTape, ls_X3_faultOfTape, ln_X3, ⟨by decide, by decide, by decide +kernel⟩, by decide⟩
theorem mv_X2_clear : gMv yX2_clear cX2_clear 1 none 0 := ⟨lk_X2_clear, li_X2_clear, ls_X2_clear, ln_X2, ⟨by decide, by decide, by decide +kernel⟩, by decide⟩
theorem mv_X3_readsClause : gMv yX3_readsClause cX3_readsClause 4 (Option.some FieldType.boolean) 0 := ⟨lk_X3_readsClause, li_X3_readsClause, ls_X3_readsClause, ln_X3, ⟨by decide, by decide, by decide +kernel⟩, by decide⟩
theorem mv_X3_readsJoined : gMv yX3_readsJoined cX3_readsJoined 6 (Option.some FieldType.boolean) 3 := ⟨lk_X3_readsJoined, li_X3_readsJoined, ls_X3_readsJoined, ln_X3, ⟨by decide, by decide, by decide +kernel⟩, by decide⟩
theorem mv_X3_readsUnit : gMv yX3_readsUnit cX3_readsUnit 4 (Option.some FieldType.boolean) 2 := ⟨lk_X3_readsUnit, li_X3_readsUnit, ls_X3_readsUnit, ln_X3, ⟨by decide, by decide, by decide +kernel⟩, by decide⟩
theorem mv_X3_readsInner : gMv yX3_readsInner cX3_readsInner 3 (Option.some FieldType.boolean) 2 := ⟨lk_X3_readsInner, li_X3_readsInner, ls_X3_readsInner, ln_X3, ⟨by decide, by decide, by decide +kernel⟩, by decide⟩
theorem mv_X2_add : gMv yX2_add cX2_add 2 none 1 := ⟨lk_X2_add, li_X2_add, ls_X2_add, ln_X2, ⟨by decide, by decide, by decide +kernel⟩, by decide⟩
theorem mv_X3_jointIn : gMv yX3_jointIn cX3_jointIn 3 (Option.some FieldType.int) 1 := ⟨lk_X3_jointIn, li_X3_jointIn, ls_X3_jointIn, ln_X3, ⟨by decide, by decide, by decide +kernel⟩, by decide⟩
theorem mv_X3_indexIn : gMv yX3_indexIn cX3_indexIn 3 (Option.some FieldType.int) 1 := ⟨lk_X3_indexIn, li_X3_indexIn, ls_X3_indexIn, ln_X3, ⟨by decide, by decide, by decide +kernel⟩, by decide⟩
theorem mv_J0_indexOf_0f7a4 : gMv yJ0_indexOf_0f7a4 cJ0_indexOf_0f7a4 2 (Option.some FieldType.int) 1 := ⟨lk_J0_indexOf_0f7a4, li_J0_indexOf_0f7a4, ls_J0_indexOf_0f7a4, ln_J0, ⟨by decide, by decide, by decide +kernel⟩, by decide⟩
theorem mv_J0_indexOf_7cf53 : gMv yJ0_indexOf_7cf53 cJ0_indexOf_7cf53 3 (Option.some FieldType.int) 2 := ⟨lk_J0_indexOf_7cf53, li_J0_indexOf_7cf53, ls_J0_indexOf_7cf53, ln_J0, ⟨by decide, by decide, by decide +kernel⟩, by decide⟩
theorem mv_J0_length_8abf5 : gMv yJ0_length_8abf5 cJ0_length_8abf5 1 (Option.some FieldType.int) 0 := ⟨lk_J0_length_8abf5, li_J0_length_8abf5, ls_J0_length_8abf5, ln_J0, ⟨by decide, by decide, by decide +kernel⟩, by decide⟩
theorem mv_J0_coder_7d493 : gMv yJ0_coder_7d493 cJ0_coder_7d493 1 (Option.some FieldType.byte) 0 := ⟨lk_J0_coder_7d493, li_J0_coder_7d493, ls_J0_coder_7d493, ln_J0, ⟨by decide, by decide, by decide +kernel⟩, by decide⟩
theorem mv_J1_indexOf_4cfef : gMs yJ1_indexOf_4cfef cJ1_indexOf_4cfef 4 (Option.some FieldType.int) 4 := ⟨lk_J1_indexOf_4cfef, li_J1_indexOf_4cfef, ln_J1, ⟨by decide, by decide, by decide +kernel⟩, by decide⟩
theorem mv_J1_canEncode_9a6ad : gMs yJ1_canEncode_9a6ad cJ1_canEncode_9a6ad 1 (Option.some FieldType.boolean) 1 := ⟨lk_J1_canEncode_9a6ad, li_J1_canEncode_9a6ad, ln_J1, ⟨by decide, by decide, by decide +kernel⟩, by decide⟩
theorem mv_J9_max_7cf53 : gMs yJ9_max_7cf53 cJ9_max_7cf53 2 (Option.some FieldType.int) 2 := ⟨lk_J9_max_7cf53, li_J9_max_7cf53, ln_J9, ⟨by decide, by decide, by decide +kernel⟩, by decide⟩
theorem mv_J9_min_7cf53 : gMs yJ9_min_7cf53 cJ9_min_7cf53 2 (Option.some FieldType.int) 2 := ⟨lk_J9_min_7cf53, li_J9_min_7cf53, ln_J9, ⟨by decide, by decide, by decide +kernel⟩, by decide⟩
theorem mv_J1_indexOfChar_4cfef : gMs yJ1_indexOfChar_4cfef cJ1_indexOfChar_4cfef 6 (Option.some FieldType.int) 4 := ⟨lk_J1_indexOfChar_4cfef, li_J1_indexOfChar_4cfef, ln_J1, ⟨by decide, by decide, by decide +kernel⟩, by decide⟩
theorem mv_J2_indexOf_4cfef : gMs yJ2_indexOf_4cfef cJ2_indexOf_4cfef 4 (Option.some FieldType.int) 4 := ⟨lk_J2_indexOf_4cfef, li_J2_indexOf_4cfef, ln_J2, ⟨by decide, by decide, by decide +kernel⟩, by decide⟩
theorem mv_J2_indexOfChar_4cfef : gMs yJ2_indexOfChar_4cfef cJ2_indexOfChar_4cfef 4 (Option.some FieldType.int) 4 := ⟨lk_J2_indexOfChar_4cfef, li_J2_indexOfChar_4cfef, ln_J2, ⟨by decide, by decide, by decide +kernel⟩, by decide⟩
theorem mv_J2_checkBoundsBeginEnd_d044e : gMs yJ2_checkBoundsBeginEnd_d044e cJ2_checkBoundsBeginEnd_d044e 3 none 3 := ⟨lk_J2_checkBoundsBeginEnd_d044e, li_J2_checkBoundsBeginEnd_d044e, ln_J2, ⟨by decide, by decide, by decide +kernel⟩, by decide⟩
theorem mv_J0_checkBoundsBeginEnd_23922 : gMs yJ0_checkBoundsBeginEnd_23922 cJ0_checkBoundsBeginEnd_23922 3 none 3 := ⟨lk_J0_checkBoundsBeginEnd_23922, li_J0_checkBoundsBeginEnd_23922, ln_J0, ⟨by decide, by decide, by decide +kernel⟩, by decide⟩
theorem mv_J3_checkFromToIndex_8c36e : gMs yJ3_checkFromToIndex_8c36e cJ3_checkFromToIndex_8c36e 4 (Option.some FieldType.int) 4 := ⟨lk_J3_checkFromToIndex_8c36e, li_J3_checkFromToIndex_8c36e, ln_J3, ⟨by decide, by decide, by decide +kernel⟩, by decide⟩
theorem mv_J2_indexOfCharUnsafe_4cfef : gMs yJ2_indexOfCharUnsafe_4cfef cJ2_indexOfCharUnsafe_4cfef 5 (Option.some FieldType.int) 4 := ⟨lk_J2_indexOfCharUnsafe_4cfef, li_J2_indexOfCharUnsafe_4cfef, ln_J2, ⟨by decide, by decide, by decide +kernel⟩, by decide⟩
theorem mv_J2_indexOfSupplementary_4cfef : gMs yJ2_indexOfSupplementary_4cfef cJ2_indexOfSupplementary_4cfef 7 (Option.some FieldType.int) 4 := ⟨lk_J2_indexOfSupplementary_4cfef, li_J2_indexOfSupplementary_4cfef, ln_J2, ⟨by decide, by decide, by decide +kernel⟩, by decide⟩
theorem mv_J11_isValidCodePoint_9a6ad : gMs yJ11_isValidCodePoint_9a6ad cJ11_isValidCodePoint_9a6ad 2 (Option.some FieldType.boolean) 1 := ⟨lk_J11_isValidCodePoint_9a6ad, li_J11_isValidCodePoint_9a6ad, ln_J11, ⟨by decide, by decide, by decide +kernel⟩, by decide⟩
theorem mv_J11_highSurrogate_5068e : gMs yJ11_highSurrogate_5068e cJ11_highSurrogate_5068e 1 (Option.some FieldType.char) 1 := ⟨lk_J11_highSurrogate_5068e, li_J11_highSurrogate_5068e, ln_J11, ⟨by decide, by decide, by decide +kernel⟩, by decide⟩
theorem mv_J11_lowSurrogate_5068e : gMs yJ11_lowSurrogate_5068e cJ11_lowSurrogate_5068e 1 (Option.some FieldType.char) 1 := ⟨lk_J11_lowSurrogate_5068e, li_J11_lowSurrogate_5068e, ln_J11, ⟨by decide, by decide, by decide +kernel⟩, by decide⟩
theorem mv_X3_readsAtom : gMv yX3_readsAtom cX3_readsAtom 3 (Option.some FieldType.boolean) 1 := ⟨lk_X3_readsAtom, li_X3_readsAtom, ls_X3_readsAtom, ln_X3, ⟨by decide, by decide, by decide +kernel⟩, by decide⟩
theorem mv_X2_addClause : gMv yX2_addClause cX2_addClause 3 none 2 := ⟨lk_X2_addClause, li_X2_addClause, ls_X2_addClause, ln_X2, ⟨by decide, by decide, by decide +kernel⟩, by decide⟩
theorem mv_X9_faultIn : gMv yX9_faultIn cX9_faultIn 2 (Option.some FieldType.int) 1 := ⟨lk_X9_faultIn, li_X9_faultIn, ls_X9_faultIn, ln_X9, ⟨by decide, by decide, by decide +kernel⟩, by decide⟩
theorem mv_X9_readsSteps : gMv yX9_readsSteps cX9_readsSteps 3 (Option.some FieldType.boolean) 1 := ⟨lk_X9_readsSteps, li_X9_readsSteps, ls_X9_readsSteps, ln_X9, ⟨by decide, by decide, by decide +kernel⟩, by decide⟩
theorem mv_X9_readsStep : gMv yX9_readsStep cX9_readsStep 5 (Option.some FieldType.boolean) 2 := ⟨lk_X9_readsStep, li_X9_readsStep, ls_X9_readsStep, ln_X9, ⟨by decide, by decide, by decide +kernel⟩, by decide⟩
theorem mv_X7_readsDigit : gMv yX7_readsDigit cX7_readsDigit 1 (Option.some FieldType.boolean) 0 := ⟨lk_X7_readsDigit, li_X7_readsDigit, ls_X7_readsDigit, ln_X7, ⟨by decide, by decide, by decide +kernel⟩, by decide⟩
theorem mv_X10_text : gMv yX10_text cX10_text 2 (Option.some FieldType.int) 1 := ⟨lk_X10_text, li_X10_text, ls_X10_text, ln_X10, ⟨by decide, by decide, by decide +kernel⟩, by decide⟩
theorem mv_X10_foundTown : gMv yX10_foundTown cX10_foundTown 1 (Option.some FieldType.int) 0 := ⟨lk_X10_foundTown, li_X10_foundTown, ls_X10_foundTown, ln_X10, ⟨by decide, by decide, by decide +kernel⟩, by decide⟩
theorem mv_X8_become : gMv yX8_become cX8_become 2 none 1 := ⟨lk_X8_become, li_X8_become, ls_X8_become, ln_X8, ⟨by decide, by decide, by decide +kernel⟩, by decide⟩
theorem mv_X4_begin : gMv yX4_begin cX4_begin 2 none 0 := ⟨lk_X4_begin, li_X4_begin, ls_X4_begin, ln_X4, ⟨by decide, by decide, by decide +kernel⟩, by decide⟩
theorem mv_J7_fill_53178 : gMs yJ7_fill_53178 cJ7_fill_53178 4 none 2 := ⟨lk_J7_fill_53178, li_J7_fill_53178, ln_J7, ⟨by decide, by decide, by decide +kernel⟩, by decide⟩
theorem mv_X5_forget : gMv yX5_forget cX5_forget 1 none 0 := ⟨lk_X5_forget, li_X5_forget, ls_X5_forget, ln_X5, ⟨by decide, by decide, by decide +kernel⟩, by decide⟩
theorem mv_X6_forget : gMv yX6_forget cX6_forget 1 none 0 := ⟨lk_X6_forget, li_X6_forget, ls_X6_forget, ln_X6, ⟨by decide, by decide, by decide +kernel⟩, by decide⟩
theorem mv_X10_addLaw : gMv yX10_addLaw cX10_addLaw 1 (Option.some FieldType.int) 0 := ⟨lk_X10_addLaw, li_X10_addLaw, ls_X10_addLaw, ln_X10, ⟨by decide, by decide, by decide +kernel⟩, by decide⟩
theorem mv_X3_takeDraft : gMv yX3_takeDraft cX3_takeDraft 2 (Option.some (FieldType.object "GuiltyShave$Law")) 0 := ⟨lk_X3_takeDraft, li_X3_takeDraft, ls_X3_takeDraft, ln_X3, ⟨by decide, by decide, by decide +kernel⟩, by decide⟩
theorem mv_X0_enact : gMv yX0_enact cX0_enact 2 (Option.some FieldType.int) 1 := ⟨lk_X0_enact, li_X0_enact, ls_X0_enact, ln_X0, ⟨by decide, by decide, by decide +kernel⟩, by decide⟩
theorem mv_X10_addWeek : gMv yX10_addWeek cX10_addWeek 1 (Option.some FieldType.int) 0 := ⟨lk_X10_addWeek, li_X10_addWeek, ls_X10_addWeek, ln_X10, ⟨by decide, by decide, by decide +kernel⟩, by decide⟩
theorem mv_X10_deed : gMv yX10_deed cX10_deed 3 (Option.some FieldType.int) 2 := ⟨lk_X10_deed, li_X10_deed, ls_X10_deed, ln_X10, ⟨by decide, by decide, by decide +kernel⟩, by decide⟩
theorem mv_X8_hasDeed : gMv yX8_hasDeed cX8_hasDeed 2 (Option.some FieldType.boolean) 1 := ⟨lk_X8_hasDeed, li_X8_hasDeed, ls_X8_hasDeed, ln_X8, ⟨by decide, by decide, by decide +kernel⟩, by decide⟩
theorem mv_X10_left : gMv yX10_left cX10_left 3 (Option.some FieldType.int) 2 := ⟨lk_X10_left, li_X10_left, ls_X10_left, ln_X10, ⟨by decide, by decide, by decide +kernel⟩, by decide⟩
theorem mv_X8_hasBoth : gMv yX8_hasBoth cX8_hasBoth 3 (Option.some FieldType.boolean) 2 := ⟨lk_X8_hasBoth, li_X8_hasBoth, ls_X8_hasBoth, ln_X8, ⟨by decide, by decide, by decide +kernel⟩, by decide⟩
theorem mv_X8_hasPerson : gMv yX8_hasPerson cX8_hasPerson 2 (Option.some FieldType.boolean) 1 := ⟨lk_X8_hasPerson, li_X8_hasPerson, ls_X8_hasPerson, ln_X8, ⟨by decide, by decide, by decide +kernel⟩, by decide⟩
theorem mv_X4_leftOf : gMv yX4_leftOf cX4_leftOf 3 (Option.some FieldType.int) 2 := ⟨lk_X4_leftOf, li_X4_leftOf, ls_X4_leftOf, ln_X4, ⟨by decide, by decide, by decide +kernel⟩, by decide⟩
theorem mv_X10_law : gMv yX10_law cX10_law 2 (Option.some FieldType.boolean) 1 := ⟨lk_X10_law, li_X10_law, ls_X10_law, ln_X10, ⟨by decide, by decide, by decide +kernel⟩, by decide⟩
theorem mv_X0_letHold : gMv yX0_letHold cX0_letHold 2 (Option.some FieldType.boolean) 1 := ⟨lk_X0_letHold, li_X0_letHold, ls_X0_letHold, ln_X0, ⟨by decide, by decide, by decide +kernel⟩, by decide⟩
theorem mv_X10_rumour : gMv yX10_rumour cX10_rumour 2 (Option.some FieldType.boolean) 1 := ⟨lk_X10_rumour, li_X10_rumour, ls_X10_rumour, ln_X10, ⟨by decide, by decide, by decide +kernel⟩, by decide⟩
theorem mv_X10_commit : gMv yX10_commit cX10_commit 3 (Option.some FieldType.int) 2 := ⟨lk_X10_commit, li_X10_commit, ls_X10_commit, ln_X10, ⟨by decide, by decide, by decide +kernel⟩, by decide⟩
theorem mv_X4_mayTakeOn : gMv yX4_mayTakeOn cX4_mayTakeOn 3 (Option.some FieldType.boolean) 2 := ⟨lk_X4_mayTakeOn, li_X4_mayTakeOn, ls_X4_mayTakeOn, ln_X4, ⟨by decide, by decide, by decide +kernel⟩, by decide⟩
theorem mv_X5_keep : gMv yX5_keep cX5_keep 2 none 1 := ⟨lk_X5_keep, li_X5_keep, ls_X5_keep, ln_X5, ⟨by decide, by decide, by decide +kernel⟩, by decide⟩
theorem mv_X4_takeOn : gMv yX4_takeOn cX4_takeOn 3 none 2 := ⟨lk_X4_takeOn, li_X4_takeOn, ls_X4_takeOn, ln_X4, ⟨by decide, by decide, by decide +kernel⟩, by decide⟩
theorem mv_X4_setLeft : gMv yX4_setLeft cX4_setLeft 4 none 3 := ⟨lk_X4_setLeft, li_X4_setLeft, ls_X4_setLeft, ln_X4, ⟨by decide, by decide, by decide +kernel⟩, by decide⟩
theorem mv_X4_guiltOf : gMv yX4_guiltOf cX4_guiltOf 2 (Option.some FieldType.int) 1 := ⟨lk_X4_guiltOf, li_X4_guiltOf, ls_X4_guiltOf, ln_X4, ⟨by decide, by decide, by decide +kernel⟩, by decide⟩
theorem mv_X4_deedsOf : gMv yX4_deedsOf cX4_deedsOf 2 (Option.some FieldType.int) 1 := ⟨lk_X4_deedsOf, li_X4_deedsOf, ls_X4_deedsOf, ln_X4, ⟨by decide, by decide, by decide +kernel⟩, by decide⟩
theorem mv_X4_deedsIn : gMv yX4_deedsIn cX4_deedsIn 5 (Option.some FieldType.int) 2 := ⟨lk_X4_deedsIn, li_X4_deedsIn, ls_X4_deedsIn, ln_X4, ⟨by decide, by decide, by decide +kernel⟩, by decide⟩
theorem mv_X8_weightOf : gMv yX8_weightOf cX8_weightOf 4 (Option.some FieldType.int) 1 := ⟨lk_X8_weightOf, li_X8_weightOf, ls_X8_weightOf, ln_X8, ⟨by decide, by decide, by decide +kernel⟩, by decide⟩
theorem mv_X10_sell : gMv yX10_sell cX10_sell 4 (Option.some FieldType.int) 3 := ⟨lk_X10_sell, li_X10_sell, ls_X10_sell, ln_X10, ⟨by decide, by decide, by decide +kernel⟩, by decide⟩
theorem mv_X4_maySellTo : gMv yX4_maySellTo cX4_maySellTo 4 (Option.some FieldType.boolean) 3 := ⟨lk_X4_maySellTo, li_X4_maySellTo, ls_X4_maySellTo, ln_X4, ⟨by decide, by decide, by decide +kernel⟩, by decide⟩
theorem mv_X4_sellTo : gMv yX4_sellTo cX4_sellTo 4 none 3 := ⟨lk_X4_sellTo, li_X4_sellTo, ls_X4_sellTo, ln_X4, ⟨by decide, by decide, by decide +kernel⟩, by decide⟩
theorem mv_X10_atone : gMv yX10_atone cX10_atone 3 (Option.some FieldType.int) 2 := ⟨lk_X10_atone, li_X10_atone, ls_X10_atone, ln_X10, ⟨by decide, by decide, by decide +kernel⟩, by decide⟩
theorem mv_X4_mayAtoneFor : gMv yX4_mayAtoneFor cX4_mayAtoneFor 3 (Option.some FieldType.boolean) 2 := ⟨lk_X4_mayAtoneFor, li_X4_mayAtoneFor, ls_X4_mayAtoneFor, ln_X4, ⟨by decide, by decide, by decide +kernel⟩, by decide⟩
theorem mv_X4_atoneFor : gMv yX4_atoneFor cX4_atoneFor 3 none 2 := ⟨lk_X4_atoneFor, li_X4_atoneFor, ls_X4_atoneFor, ln_X4, ⟨by decide, by decide, by decide +kernel⟩, by decide⟩
theorem mv_X10_shave : gMv yX10_shave cX10_shave 2 (Option.some FieldType.int) 1 := ⟨lk_X10_shave, li_X10_shave, ls_X10_shave, ln_X10, ⟨by decide, by decide, by decide +kernel⟩, by decide⟩
theorem mv_X4_mayGo : gMv yX4_mayGo cX4_mayGo 2 (Option.some FieldType.boolean) 1 := ⟨lk_X4_mayGo, li_X4_mayGo, ls_X4_mayGo, ln_X4, ⟨by decide, by decide, by decide +kernel⟩, by decide⟩
theorem mv_X4_went : gMv yX4_went cX4_went 2 (Option.some FieldType.boolean) 1 := ⟨lk_X4_went, li_X4_went, ls_X4_went, ln_X4, ⟨by decide, by decide, by decide +kernel⟩, by decide⟩
theorem mv_X10_goToBarber : gMv yX10_goToBarber cX10_goToBarber 4 (Option.some FieldType.boolean) 2 := ⟨lk_X10_goToBarber, li_X10_goToBarber, ls_X10_goToBarber, ln_X10, ⟨by decide, by decide, by decide +kernel⟩, by decide⟩
theorem mv_X0_isGuilty : gMv yX0_isGuilty cX0_isGuilty 4 (Option.some FieldType.boolean) 3 := ⟨lk_X0_isGuilty, li_X0_isGuilty, ls_X0_isGuilty, ln_X0, ⟨by decide, by decide, by decide +kernel⟩, by decide⟩
theorem mv_J6_bitCount_0f7a4 : gMs yJ6_bitCount_0f7a4 cJ6_bitCount_0f7a4 1 (Option.some FieldType.int) 1 := ⟨lk_J6_bitCount_0f7a4, li_J6_bitCount_0f7a4, ln_J6, ⟨by decide, by decide, by decide +kernel⟩, by decide⟩
theorem mv_X4_beardOf : gMv yX4_beardOf cX4_beardOf 2 (Option.some FieldType.int) 1 := ⟨lk_X4_beardOf, li_X4_beardOf, ls_X4_beardOf, ln_X4, ⟨by decide, by decide, by decide +kernel⟩, by decide⟩
theorem mv_X4_get : gMv yX4_get cX4_get 2 (Option.some FieldType.int) 1 := ⟨lk_X4_get, li_X4_get, ls_X4_get, ln_X4, ⟨by decide, by decide, by decide +kernel⟩, by decide⟩
theorem mv_X4_shavedOf : gMv yX4_shavedOf cX4_shavedOf 2 (Option.some FieldType.int) 1 := ⟨lk_X4_shavedOf, li_X4_shavedOf, ls_X4_shavedOf, ln_X4, ⟨by decide, by decide, by decide +kernel⟩, by decide⟩
theorem mv_X0_read : gMv yX0_read cX0_read 9 (Option.some FieldType.int) 6 := ⟨lk_X0_read, li_X0_read, ls_X0_read, ln_X0, ⟨by decide, by decide, by decide +kernel⟩, by decide⟩
theorem mv_X0_book : gMv yX0_book cX0_book 1 (Option.some (FieldType.object "GuiltyShave$Law")) 0 := ⟨lk_X0_book, li_X0_book, ls_X0_book, ln_X0, ⟨by decide, by decide, by decide +kernel⟩, by decide⟩
theorem mv_X2_worth : gMv yX2_worth cX2_worth 4 (Option.some FieldType.int) 1 := ⟨lk_X2_worth, li_X2_worth, ls_X2_worth, ln_X2, ⟨by decide, by decide, by decide +kernel⟩, by decide⟩
theorem mv_X2_valueOf : gMv yX2_valueOf cX2_valueOf 7 (Option.some FieldType.int) 3 := ⟨lk_X2_valueOf, li_X2_valueOf, ls_X2_valueOf, ln_X2, ⟨by decide, by decide, by decide +kernel⟩, by decide⟩
theorem mv_X2_joined : gMs yX2_joined cX2_joined 7 (Option.some FieldType.int) 3 := ⟨lk_X2_joined, li_X2_joined, ln_X2, ⟨by decide, by decide, by decide +kernel⟩, by decide⟩
theorem mv_X4_go : gMv yX4_go cX4_go 3 none 2 := ⟨lk_X4_go, li_X4_go, ls_X4_go, ln_X4, ⟨by decide, by decide, by decide +kernel⟩, by decide⟩
theorem mv_X10_give : gMv yX10_give cX10_give 2 (Option.some FieldType.int) 1 := ⟨lk_X10_give, li_X10_give, ls_X10_give, ln_X10, ⟨by decide, by decide, by decide +kernel⟩, by decide⟩
theorem mv_X10_noTown : gMv yX10_noTown cX10_noTown 1 (Option.some FieldType.boolean) 0 := ⟨lk_X10_noTown, li_X10_noTown, ls_X10_noTown, ln_X10, ⟨by decide, by decide, by decide +kernel⟩, by decide⟩
theorem mv_X4_receive : gMv yX4_receive cX4_receive 2 none 1 := ⟨lk_X4_receive, li_X4_receive, ls_X4_receive, ln_X4, ⟨by decide, by decide, by decide +kernel⟩, by decide⟩
theorem mv_X10_day : gMv yX10_day cX10_day 2 (Option.some FieldType.int) 0 := ⟨lk_X10_day, li_X10_day, ls_X10_day, ln_X10, ⟨by decide, by decide, by decide +kernel⟩, by decide⟩
theorem mv_X4_mayPassDay : gMv yX4_mayPassDay cX4_mayPassDay 1 (Option.some FieldType.boolean) 0 := ⟨lk_X4_mayPassDay, li_X4_mayPassDay, ls_X4_mayPassDay, ln_X4, ⟨by decide, by decide, by decide +kernel⟩, by decide⟩
theorem mv_X4_smooth : gMv yX4_smooth cX4_smooth 3 (Option.some FieldType.int) 0 := ⟨lk_X4_smooth, li_X4_smooth, ls_X4_smooth, ln_X4, ⟨by decide, by decide, by decide +kernel⟩, by decide⟩
theorem mv_X4_passDay : gMv yX4_passDay cX4_passDay 4 none 0 := ⟨lk_X4_passDay, li_X4_passDay, ls_X4_passDay, ln_X4, ⟨by decide, by decide, by decide +kernel⟩, by decide⟩
theorem mv_X4_write : gMv yX4_write cX4_write 3 none 1 := ⟨lk_X4_write, li_X4_write, ls_X4_write, ln_X4, ⟨by decide, by decide, by decide +kernel⟩, by decide⟩
theorem mv_X4_wishersAmong : gMv yX4_wishersAmong cX4_wishersAmong 4 (Option.some FieldType.int) 1 := ⟨lk_X4_wishersAmong, li_X4_wishersAmong, ls_X4_wishersAmong, ln_X4, ⟨by decide, by decide, by decide +kernel⟩, by decide⟩
theorem mv_X10_years : gMv yX10_years cX10_years 5 (Option.some FieldType.int) 2 := ⟨lk_X10_years, li_X10_years, ls_X10_years, ln_X10, ⟨by decide, by decide, by decide +kernel⟩, by decide⟩
theorem mv_X1_begin : gMv yX1_begin cX1_begin 3 none 1 := ⟨lk_X1_begin, li_X1_begin, ls_X1_begin, ln_X1, ⟨by decide, by decide, by decide +kernel⟩, by decide⟩
theorem mv_X10_liveByDraws : gMv yX10_liveByDraws cX10_liveByDraws 4 none 0 := ⟨lk_X10_liveByDraws, li_X10_liveByDraws, ls_X10_liveByDraws, ln_X10, ⟨by decide, by decide, by decide +kernel⟩, by decide⟩
theorem mv_X1_draw : gMv yX1_draw cX1_draw 2 (Option.some FieldType.int) 1 := ⟨lk_X1_draw, li_X1_draw, ls_X1_draw, ln_X1, ⟨by decide, by decide, by decide +kernel⟩, by decide⟩
theorem mv_X10_undo : gMv yX10_undo cX10_undo 1 (Option.some FieldType.int) 0 := ⟨lk_X10_undo, li_X10_undo, ls_X10_undo, ln_X10, ⟨by decide, by decide, by decide +kernel⟩, by decide⟩
theorem mv_X5_takeBack : gMv yX5_takeBack cX5_takeBack 2 (Option.some FieldType.int) 1 := ⟨lk_X5_takeBack, li_X5_takeBack, ls_X5_takeBack, ln_X5, ⟨by decide, by decide, by decide +kernel⟩, by decide⟩
theorem mv_X10_log : gMv yX10_log cX10_log 3 (Option.some FieldType.int) 2 := ⟨lk_X10_log, li_X10_log, ls_X10_log, ln_X10, ⟨by decide, by decide, by decide +kernel⟩, by decide⟩
theorem mv_X4_logLength : gMv yX4_logLength cX4_logLength 1 (Option.some FieldType.int) 0 := ⟨lk_X4_logLength, li_X4_logLength, ls_X4_logLength, ln_X4, ⟨by decide, by decide, by decide +kernel⟩, by decide⟩
theorem mv_X4_logged : gMv yX4_logged cX4_logged 4 (Option.some FieldType.int) 2 := ⟨lk_X4_logged, li_X4_logged, ls_X4_logged, ln_X4, ⟨by decide, by decide, by decide +kernel⟩, by decide⟩
theorem mv_X10_step : gMv yX10_step cX10_step 5 (Option.some FieldType.int) 3 := ⟨lk_X10_step, li_X10_step, ls_X10_step, ln_X10, ⟨by decide, by decide, by decide +kernel⟩, by decide⟩
theorem mv_X10_weekOf : gMv yX10_weekOf cX10_weekOf 2 (Option.some (FieldType.object "GuiltyShave$Week")) 1 := ⟨lk_X10_weekOf, li_X10_weekOf, ls_X10_weekOf, ln_X10, ⟨by decide, by decide, by decide +kernel⟩, by decide⟩
theorem mv_X10_run : gMv yX10_run cX10_run 5 (Option.some FieldType.int) 2 := ⟨lk_X10_run, li_X10_run, ls_X10_run, ln_X10, ⟨by decide, by decide, by decide +kernel⟩, by decide⟩
theorem mv_X4_copy : gMv yX4_copy cX4_copy 2 none 1 := ⟨lk_X4_copy, li_X4_copy, ls_X4_copy, ln_X4, ⟨by decide, by decide, by decide +kernel⟩, by decide⟩
theorem mv_X10_mayTakeStep : gMv yX10_mayTakeStep cX10_mayTakeStep 4 (Option.some FieldType.boolean) 3 := ⟨lk_X10_mayTakeStep, li_X10_mayTakeStep, ls_X10_mayTakeStep, ln_X10, ⟨by decide, by decide, by decide +kernel⟩, by decide⟩
theorem mv_X10_takeStep : gMv yX10_takeStep cX10_takeStep 4 none 3 := ⟨lk_X10_takeStep, li_X10_takeStep, ls_X10_takeStep, ln_X10, ⟨by decide, by decide, by decide +kernel⟩, by decide⟩
theorem mv_X10_perform : gMv yX10_perform cX10_perform 4 (Option.some FieldType.int) 1 := ⟨lk_X10_perform, li_X10_perform, ls_X10_perform, ln_X10, ⟨by decide, by decide, by decide +kernel⟩, by decide⟩
theorem mv_X10_skin : gMv yX10_skin cX10_skin 4 (Option.some FieldType.int) 2 := ⟨lk_X10_skin, li_X10_skin, ls_X10_skin, ln_X10, ⟨by decide, by decide, by decide +kernel⟩, by decide⟩
theorem mv_X0_readIn : gMv yX0_readIn cX0_readIn 7 (Option.some FieldType.int) 5 := ⟨lk_X0_readIn, li_X0_readIn, ls_X0_readIn, ln_X0, ⟨by decide, by decide, by decide +kernel⟩, by decide⟩
theorem mv_X10_least : gMv yX10_least cX10_least 3 (Option.some FieldType.int) 2 := ⟨lk_X10_least, li_X10_least, ls_X10_least, ln_X10, ⟨by decide, by decide, by decide +kernel⟩, by decide⟩
theorem mv_X10_cheapest : gMv yX10_cheapest cX10_cheapest 9 (Option.some FieldType.int) 2 := ⟨lk_X10_cheapest, li_X10_cheapest, ls_X10_cheapest, ln_X10, ⟨by decide, by decide, by decide +kernel⟩, by decide⟩
theorem mv_X10_harmAmong : gMv yX10_harmAmong cX10_harmAmong 5 (Option.some FieldType.int) 2 := ⟨lk_X10_harmAmong, li_X10_harmAmong, ls_X10_harmAmong, ln_X10, ⟨by decide, by decide, by decide +kernel⟩, by decide⟩
theorem mv_X8_harmOf : gMv yX8_harmOf cX8_harmOf 4 (Option.some FieldType.int) 1 := ⟨lk_X8_harmOf, li_X8_harmOf, ls_X8_harmOf, ln_X8, ⟨by decide, by decide, by decide +kernel⟩, by decide⟩
theorem mv_X10_allGuiltyWith : gMv yX10_allGuiltyWith cX10_allGuiltyWith 4 (Option.some FieldType.boolean) 2 := ⟨lk_X10_allGuiltyWith, li_X10_allGuiltyWith, ls_X10_allGuiltyWith, ln_X10, ⟨by decide, by decide, by decide +kernel⟩, by decide⟩
theorem mv_X10_cover : gMv yX10_cover cX10_cover 3 (Option.some FieldType.int) 2 := ⟨lk_X10_cover, li_X10_cover, ls_X10_cover, ln_X10, ⟨by decide, by decide, by decide +kernel⟩, by decide⟩
theorem mv_X10_soon : gMv yX10_soon cX10_soon 3 (Option.some FieldType.int) 1 := ⟨lk_X10_soon, li_X10_soon, ls_X10_soon, ln_X10, ⟨by decide, by decide, by decide +kernel⟩, by decide⟩
theorem mv_X0_isGuiltyIn : gMv yX0_isGuiltyIn cX0_isGuiltyIn 5 (Option.some FieldType.boolean) 3 := ⟨lk_X0_isGuiltyIn, li_X0_isGuiltyIn, ls_X0_isGuiltyIn, ln_X0, ⟨by decide, by decide, by decide +kernel⟩, by decide⟩
theorem mv_X10_clean : gMv yX10_clean cX10_clean 4 (Option.some FieldType.int) 0 := ⟨lk_X10_clean, li_X10_clean, ls_X10_clean, ln_X10, ⟨by decide, by decide, by decide +kernel⟩, by decide⟩
theorem mv_X10_bargain : gMv yX10_bargain cX10_bargain 7 (Option.some FieldType.int) 2 := ⟨lk_X10_bargain, li_X10_bargain, ls_X10_bargain, ln_X10, ⟨by decide, by decide, by decide +kernel⟩, by decide⟩
theorem mv_X10_seen : gMv yX10_seen cX10_seen 4 (Option.some FieldType.int) 3 := ⟨lk_X10_seen, li_X10_seen, ls_X10_seen, ln_X10, ⟨by decide, by decide, by decide +kernel⟩, by decide⟩
theorem mv_X6_add : gMv yX6_add cX6_add 4 (Option.some FieldType.int) 3 := ⟨lk_X6_add, li_X6_add, ls_X6_add, ln_X6, ⟨by decide, by decide, by decide +kernel⟩, by decide⟩
theorem mv_X10_sets : gMv yX10_sets cX10_sets 3 (Option.some FieldType.int) 2 := ⟨lk_X10_sets, li_X10_sets, ls_X10_sets, ln_X10, ⟨by decide, by decide, by decide +kernel⟩, by decide⟩
theorem mv_X6_fittingSet : gMv yX6_fittingSet cX6_fittingSet 6 (Option.some FieldType.int) 2 := ⟨lk_X6_fittingSet, li_X6_fittingSet, ls_X6_fittingSet, ln_X6, ⟨by decide, by decide, by decide +kernel⟩, by decide⟩
theorem mv_X6_fits : gMv yX6_fits cX6_fits 5 (Option.some FieldType.boolean) 3 := ⟨lk_X6_fits, li_X6_fits, ls_X6_fits, ln_X6, ⟨by decide, by decide, by decide +kernel⟩, by decide⟩
theorem mv_X10_ask : gMv yX10_ask cX10_ask 2 (Option.some FieldType.int) 1 := ⟨lk_X10_ask, li_X10_ask, ls_X10_ask, ln_X10, ⟨by decide, by decide, by decide +kernel⟩, by decide⟩
theorem mv_X6_bestBeard : gMv yX6_bestBeard cX6_bestBeard 8 (Option.some FieldType.int) 1 := ⟨lk_X6_bestBeard, li_X6_bestBeard, ls_X6_bestBeard, ln_X6, ⟨by decide, by decide, by decide +kernel⟩, by decide⟩
theorem mv_X6_gatherCases : gMv yX6_gatherCases cX6_gatherCases 6 (Option.some FieldType.int) 1 := ⟨lk_X6_gatherCases, li_X6_gatherCases, ls_X6_gatherCases, ln_X6, ⟨by decide, by decide, by decide +kernel⟩, by decide⟩
theorem mv_X0_heedsBeard : gMv yX0_heedsBeard cX0_heedsBeard 2 (Option.some FieldType.boolean) 0 := ⟨lk_X0_heedsBeard, li_X0_heedsBeard, ls_X0_heedsBeard, ln_X0, ⟨by decide, by decide, by decide +kernel⟩, by decide⟩
theorem mv_X6_guiltyAt : gMv yX6_guiltyAt cX6_guiltyAt 6 (Option.some FieldType.int) 2 := ⟨lk_X6_guiltyAt, li_X6_guiltyAt, ls_X6_guiltyAt, ln_X6, ⟨by decide, by decide, by decide +kernel⟩, by decide⟩
theorem mv_J9_abs_0f7a4 : gMs yJ9_abs_0f7a4 cJ9_abs_0f7a4 1 (Option.some FieldType.int) 1 := ⟨lk_J9_abs_0f7a4, li_J9_abs_0f7a4, ln_J9, ⟨by decide, by decide, by decide +kernel⟩, by decide⟩
theorem mv_X10_game : gMv yX10_game cX10_game 6 (Option.some FieldType.int) 4 := ⟨lk_X10_game, li_X10_game, ls_X10_game, ln_X10, ⟨by decide, by decide, by decide +kernel⟩, by decide⟩
theorem mv_X10_verdictsOn : gMv yX10_verdictsOn cX10_verdictsOn 8 (Option.some FieldType.int) 1 := ⟨lk_X10_verdictsOn, li_X10_verdictsOn, ls_X10_verdictsOn, ln_X10, ⟨by decide, by decide, by decide +kernel⟩, by decide⟩
theorem mv_X10_gainOfPerson : gMs yX10_gainOfPerson cX10_gainOfPerson 3 (Option.some FieldType.int) 3 := ⟨lk_X10_gainOfPerson, li_X10_gainOfPerson, ln_X10, ⟨by decide, by decide, by decide +kernel⟩, by decide⟩
theorem mv_X10_gainOfBarber : gMs yX10_gainOfBarber cX10_gainOfBarber 4 (Option.some FieldType.int) 3 := ⟨lk_X10_gainOfBarber, li_X10_gainOfBarber, ln_X10, ⟨by decide, by decide, by decide +kernel⟩, by decide⟩
theorem mv_X10_rests : gMv yX10_rests cX10_rests 7 (Option.some FieldType.int) 2 := ⟨lk_X10_rests, li_X10_rests, ls_X10_rests, ln_X10, ⟨by decide, by decide, by decide +kernel⟩, by decide⟩
theorem mv_X10_isRest : gMs yX10_isRest cX10_isRest 4 (Option.some FieldType.boolean) 3 := ⟨lk_X10_isRest, li_X10_isRest, ln_X10, ⟨by decide, by decide, by decide +kernel⟩, by decide⟩
theorem mv_X10_odds : gMv yX10_odds cX10_odds 10 (Option.some FieldType.int) 2 := ⟨lk_X10_odds, li_X10_odds, ls_X10_odds, ln_X10, ⟨by decide, by decide, by decide +kernel⟩, by decide⟩
theorem mv_X10_partOf : gMv yX10_partOf cX10_partOf 9 (Option.some FieldType.long) 3 := ⟨lk_X10_partOf, li_X10_partOf, ls_X10_partOf, ln_X10, ⟨by decide, by decide, by decide +kernel⟩, by decide⟩
theorem mv_X10_shares : gMv yX10_shares cX10_shares 5 (Option.some FieldType.int) 2 := ⟨lk_X10_shares, li_X10_shares, ls_X10_shares, ln_X10, ⟨by decide, by decide, by decide +kernel⟩, by decide⟩
theorem mv_X10_owners : gMv yX10_owners cX10_owners 4 (Option.some FieldType.int) 1 := ⟨lk_X10_owners, li_X10_owners, ls_X10_owners, ln_X10, ⟨by decide, by decide, by decide +kernel⟩, by decide⟩
theorem mv_X10_wish : gMv yX10_wish cX10_wish 2 (Option.some FieldType.int) 1 := ⟨lk_X10_wish, li_X10_wish, ls_X10_wish, ln_X10, ⟨by decide, by decide, by decide +kernel⟩, by decide⟩
theorem mv_X10_daysToWish : gMv yX10_daysToWish cX10_daysToWish 2 (Option.some FieldType.int) 1 := ⟨lk_X10_daysToWish, li_X10_daysToWish, ls_X10_daysToWish, ln_X10, ⟨by decide, by decide, by decide +kernel⟩, by decide⟩
theorem mv_J9_floorMod_7cf53 : gMs yJ9_floorMod_7cf53 cJ9_floorMod_7cf53 3 (Option.some FieldType.int) 2 := ⟨lk_J9_floorMod_7cf53, li_J9_floorMod_7cf53, ln_J9, ⟨by decide, by decide, by decide +kernel⟩, by decide⟩
theorem mv_X10_all : gMv yX10_all cX10_all 2 (Option.some FieldType.int) 1 := ⟨lk_X10_all, li_X10_all, ls_X10_all, ln_X10, ⟨by decide, by decide, by decide +kernel⟩, by decide⟩
theorem mv_X10_firstOfMost : gMv yX10_firstOfMost cX10_firstOfMost 5 (Option.some FieldType.int) 1 := ⟨lk_X10_firstOfMost, li_X10_firstOfMost, ls_X10_firstOfMost, ln_X10, ⟨by decide, by decide, by decide +kernel⟩, by decide⟩
theorem mv_X10_measure : gMv yX10_measure cX10_measure 3 (Option.some FieldType.int) 2 := ⟨lk_X10_measure, li_X10_measure, ls_X10_measure, ln_X10, ⟨by decide, by decide, by decide +kernel⟩, by decide⟩
theorem mv_X10_guiltyPeople : gMv yX10_guiltyPeople cX10_guiltyPeople 3 (Option.some FieldType.int) 0 := ⟨lk_X10_guiltyPeople, li_X10_guiltyPeople, ls_X10_guiltyPeople, ln_X10, ⟨by decide, by decide, by decide +kernel⟩, by decide⟩
theorem mv_X10_innocentPeople : gMv yX10_innocentPeople cX10_innocentPeople 3 (Option.some FieldType.int) 0 := ⟨lk_X10_innocentPeople, li_X10_innocentPeople, ls_X10_innocentPeople, ln_X10, ⟨by decide, by decide, by decide +kernel⟩, by decide⟩
theorem mv_X10_servedPeople : gMv yX10_servedPeople cX10_servedPeople 3 (Option.some FieldType.int) 0 := ⟨lk_X10_servedPeople, li_X10_servedPeople, ls_X10_servedPeople, ln_X10, ⟨by decide, by decide, by decide +kernel⟩, by decide⟩
theorem mv_X10_image : gMv yX10_image cX10_image 1 (Option.some FieldType.int) 0 := ⟨lk_X10_image, li_X10_image, ls_X10_image, ln_X10, ⟨by decide, by decide, by decide +kernel⟩, by decide⟩
theorem mv_X10_back : gMv yX10_back cX10_back 1 (Option.some FieldType.int) 0 := ⟨lk_X10_back, li_X10_back, ls_X10_back, ln_X10, ⟨by decide, by decide, by decide +kernel⟩, by decide⟩
theorem mv_X10_count : gMv yX10_count cX10_count 2 (Option.some FieldType.int) 1 := ⟨lk_X10_count, li_X10_count, ls_X10_count, ln_X10, ⟨by decide, by decide, by decide +kernel⟩, by decide⟩
theorem mv_X10_countOfLife : gMv yX10_countOfLife cX10_countOfLife 2 (Option.some FieldType.int) 1 := ⟨lk_X10_countOfLife, li_X10_countOfLife, ls_X10_countOfLife, ln_X10, ⟨by decide, by decide, by decide +kernel⟩, by decide⟩
theorem mv_X10_person : gMv yX10_person cX10_person 3 (Option.some FieldType.int) 2 := ⟨lk_X10_person, li_X10_person, ls_X10_person, ln_X10, ⟨by decide, by decide, by decide +kernel⟩, by decide⟩
theorem mv_X11_init : gMc yX11_init cX11_init 1 0 := ⟨lk_X11_init, li_X11_init, rfl, ln_X11, ⟨by decide, by decide, by decide +kernel⟩, by decide⟩
theorem mv_X11_thrown : gMv yX11_thrown cX11_thrown 1 (Option.some FieldType.int) 0 := ⟨lk_X11_thrown, li_X11_thrown, ls_X11_thrown, ln_X11, ⟨by decide, by decide, by decide +kernel⟩, by decide⟩
theorem mv_X11_feed : gMv yX11_feed cX11_feed 6 (Option.some FieldType.int) 5 := ⟨lk_X11_feed, li_X11_feed, ls_X11_feed, ln_X11, ⟨by decide, by decide, by decide +kernel⟩, by decide⟩
theorem mv_X11_bytesIn : gMs yX11_bytesIn cX11_bytesIn 3 (Option.some FieldType.int) 1 := ⟨lk_X11_bytesIn, li_X11_bytesIn, ln_X11, ⟨by decide, by decide, by decide +kernel⟩, by decide⟩
theorem mv_X11_put : gMv yX11_put cX11_put 3 none 1 := ⟨lk_X11_put, li_X11_put, ls_X11_put, ln_X11, ⟨by decide, by decide, by decide +kernel⟩, by decide⟩
theorem mv_X11_end : gMv yX11_end cX11_end 2 (Option.some FieldType.boolean) 1 := ⟨lk_X11_end, li_X11_end, ls_X11_end, ln_X11, ⟨by decide, by decide, by decide +kernel⟩, by decide⟩
theorem mv_X11_fault : gMv yX11_fault cX11_fault 2 (Option.some FieldType.int) 1 := ⟨lk_X11_fault, li_X11_fault, ls_X11_fault, ln_X11, ⟨by decide, by decide, by decide +kernel⟩, by decide⟩
theorem mv_X11_isIn : gMs yX11_isIn cX11_isIn 6 (Option.some FieldType.boolean) 3 := ⟨lk_X11_isIn, li_X11_isIn, ln_X11, ⟨by decide, by decide, by decide +kernel⟩, by decide⟩
theorem mv_X11_readTown : gMv yX11_readTown cX11_readTown 2 none 0 := ⟨lk_X11_readTown, li_X11_readTown, ls_X11_readTown, ln_X11, ⟨by decide, by decide, by decide +kernel⟩, by decide⟩
theorem mv_X11_starts : gMv yX11_starts cX11_starts 4 none 3 := ⟨lk_X11_starts, li_X11_starts, ls_X11_starts, ln_X11, ⟨by decide, by decide, by decide +kernel⟩, by decide⟩
theorem mv_X11_usual : gMs yX11_usual cX11_usual 2 (Option.some FieldType.int) 2 := ⟨lk_X11_usual, li_X11_usual, ln_X11, ⟨by decide, by decide, by decide +kernel⟩, by decide⟩
theorem mv_X11_readClause : gMv yX11_readClause cX11_readClause 3 none 0 := ⟨lk_X11_readClause, li_X11_readClause, ls_X11_readClause, ln_X11, ⟨by decide, by decide, by decide +kernel⟩, by decide⟩
theorem mv_X11_look : gMv yX11_look cX11_look 1 (Option.some FieldType.int) 0 := ⟨lk_X11_look, li_X11_look, ls_X11_look, ln_X11, ⟨by decide, by decide, by decide +kernel⟩, by decide⟩
theorem mv_X11_fails : gMv yX11_fails cX11_fails 1 (Option.some FieldType.boolean) 0 := ⟨lk_X11_fails, li_X11_fails, ls_X11_fails, ln_X11, ⟨by decide, by decide, by decide +kernel⟩, by decide⟩
theorem mv_X11_readItems : gMv yX11_readItems cX11_readItems 7 none 4 := ⟨lk_X11_readItems, li_X11_readItems, ls_X11_readItems, ln_X11, ⟨by decide, by decide, by decide +kernel⟩, by decide⟩
theorem mv_X11_spotOf : gMs yX11_spotOf cX11_spotOf 3 (Option.some FieldType.int) 2 := ⟨lk_X11_spotOf, li_X11_spotOf, ln_X11, ⟨by decide, by decide, by decide +kernel⟩, by decide⟩
theorem mv_X11_has : gMs yX11_has cX11_has 2 (Option.some FieldType.boolean) 2 := ⟨lk_X11_has, li_X11_has, ln_X11, ⟨by decide, by decide, by decide +kernel⟩, by decide⟩
theorem mv_X11_leastOf : gMs yX11_leastOf cX11_leastOf 2 (Option.some FieldType.int) 2 := ⟨lk_X11_leastOf, li_X11_leastOf, ln_X11, ⟨by decide, by decide, by decide +kernel⟩, by decide⟩
theorem mv_X11_mostOf : gMs yX11_mostOf cX11_mostOf 2 (Option.some FieldType.int) 2 := ⟨lk_X11_mostOf, li_X11_mostOf, ln_X11, ⟨by decide, by decide, by decide +kernel⟩, by decide⟩
theorem mv_X11_number : gMv yX11_number cX11_number 5 (Option.some FieldType.int) 2 := ⟨lk_X11_number, li_X11_number, ls_X11_number, ln_X11, ⟨by decide, by decide, by decide +kernel⟩, by decide⟩
theorem mv_X11_isDigit : gMv yX11_isDigit cX11_isDigit 1 (Option.some FieldType.boolean) 0 := ⟨lk_X11_isDigit, li_X11_isDigit, ls_X11_isDigit, ln_X11, ⟨by decide, by decide, by decide +kernel⟩, by decide⟩
theorem mv_X11_here : gMv yX11_here cX11_here 1 (Option.some FieldType.int) 0 := ⟨lk_X11_here, li_X11_here, ls_X11_here, ln_X11, ⟨by decide, by decide, by decide +kernel⟩, by decide⟩
theorem mv_X11_goThrough : gMv yX11_goThrough cX11_goThrough 4 none 3 := ⟨lk_X11_goThrough, li_X11_goThrough, ls_X11_goThrough, ln_X11, ⟨by decide, by decide, by decide +kernel⟩, by decide⟩
theorem mv_X11_clause : gMv yX11_clause cX11_clause 5 none 0 := ⟨lk_X11_clause, li_X11_clause, ls_X11_clause, ln_X11, ⟨by decide, by decide, by decide +kernel⟩, by decide⟩
theorem mv_X11_isAmong : gMs yX11_isAmong cX11_isAmong 3 (Option.some FieldType.boolean) 2 := ⟨lk_X11_isAmong, li_X11_isAmong, ln_X11, ⟨by decide, by decide, by decide +kernel⟩, by decide⟩
theorem mv_X11_takes : gMv yX11_takes cX11_takes 2 (Option.some FieldType.boolean) 1 := ⟨lk_X11_takes, li_X11_takes, ls_X11_takes, ln_X11, ⟨by decide, by decide, by decide +kernel⟩, by decide⟩
theorem mv_X11_condition : gMv yX11_condition cX11_condition 5 (Option.some FieldType.boolean) 2 := ⟨lk_X11_condition, li_X11_condition, ls_X11_condition, ln_X11, ⟨by decide, by decide, by decide +kernel⟩, by decide⟩
theorem mv_X11_part : gMv yX11_part cX11_part 5 (Option.some FieldType.boolean) 2 := ⟨lk_X11_part, li_X11_part, ls_X11_part, ln_X11, ⟨by decide, by decide, by decide +kernel⟩, by decide⟩
theorem mv_X11_compares : gMv yX11_compares cX11_compares 6 (Option.some FieldType.boolean) 2 := ⟨lk_X11_compares, li_X11_compares, ls_X11_compares, ln_X11, ⟨by decide, by decide, by decide +kernel⟩, by decide⟩
theorem mv_X11_sum : gMv yX11_sum cX11_sum 5 (Option.some FieldType.int) 0 := ⟨lk_X11_sum, li_X11_sum, ls_X11_sum, ln_X11, ⟨by decide, by decide, by decide +kernel⟩, by decide⟩
theorem mv_X11_term : gMv yX11_term cX11_term 5 (Option.some FieldType.int) 0 := ⟨lk_X11_term, li_X11_term, ls_X11_term, ln_X11, ⟨by decide, by decide, by decide +kernel⟩, by decide⟩
theorem mv_X11_atom : gMv yX11_atom cX11_atom 4 (Option.some FieldType.int) 0 := ⟨lk_X11_atom, li_X11_atom, ls_X11_atom, ln_X11, ⟨by decide, by decide, by decide +kernel⟩, by decide⟩
theorem mv_X11_goesIn : gMv yX11_goesIn cX11_goesIn 1 (Option.some FieldType.boolean) 0 := ⟨lk_X11_goesIn, li_X11_goesIn, ls_X11_goesIn, ln_X11, ⟨by decide, by decide, by decide +kernel⟩, by decide⟩
theorem mv_X11_within : gMs yX11_within cX11_within 2 (Option.some FieldType.int) 1 := ⟨lk_X11_within, li_X11_within, ln_X11, ⟨by decide, by decide, by decide +kernel⟩, by decide⟩
theorem mv_J9_min_f86c9 : gMs yJ9_min_f86c9 cJ9_min_f86c9 4 (Option.some FieldType.long) 2 := ⟨lk_J9_min_f86c9, li_J9_min_f86c9, ln_J9, ⟨by decide, by decide, by decide +kernel⟩, by decide⟩
theorem mv_J9_max_f86c9 : gMs yJ9_max_f86c9 cJ9_max_f86c9 4 (Option.some FieldType.long) 2 := ⟨lk_J9_max_f86c9, li_J9_max_f86c9, ln_J9, ⟨by decide, by decide, by decide +kernel⟩, by decide⟩
theorem mv_X11_isSign : gMs yX11_isSign cX11_isSign 1 (Option.some FieldType.boolean) 1 := ⟨lk_X11_isSign, li_X11_isSign, ln_X11, ⟨by decide, by decide, by decide +kernel⟩, by decide⟩
theorem mv_X11_unit : gMv yX11_unit cX11_unit 3 (Option.some FieldType.boolean) 0 := ⟨lk_X11_unit, li_X11_unit, ls_X11_unit, ln_X11, ⟨by decide, by decide, by decide +kernel⟩, by decide⟩
theorem mv_X11_readPlan : gMv yX11_readPlan cX11_readPlan 3 none 0 := ⟨lk_X11_readPlan, li_X11_readPlan, ls_X11_readPlan, ln_X11, ⟨by decide, by decide, by decide +kernel⟩, by decide⟩
theorem mv_X11_readStep : gMv yX11_readStep cX11_readStep 3 none 1 := ⟨lk_X11_readStep, li_X11_readStep, ls_X11_readStep, ln_X11, ⟨by decide, by decide, by decide +kernel⟩, by decide⟩
theorem mv_X11_digit : gMv yX11_digit cX11_digit 2 (Option.some FieldType.int) 0 := ⟨lk_X11_digit, li_X11_digit, ls_X11_digit, ln_X11, ⟨by decide, by decide, by decide +kernel⟩, by decide⟩
theorem mv_X11_text : gMv yX11_text cX11_text 4 (Option.some FieldType.int) 1 := ⟨lk_X11_text, li_X11_text, ls_X11_text, ln_X11, ⟨by decide, by decide, by decide +kernel⟩, by decide⟩
theorem mv_X11_person : gMv yX11_person cX11_person 3 (Option.some FieldType.int) 2 := ⟨lk_X11_person, li_X11_person, ls_X11_person, ln_X11, ⟨by decide, by decide, by decide +kernel⟩, by decide⟩
theorem mv_X11_isPerson : gMv yX11_isPerson cX11_isPerson 2 (Option.some FieldType.boolean) 1 := ⟨lk_X11_isPerson, li_X11_isPerson, ls_X11_isPerson, ln_X11, ⟨by decide, by decide, by decide +kernel⟩, by decide⟩
theorem mv_X11_deed : gMv yX11_deed cX11_deed 3 (Option.some FieldType.int) 2 := ⟨lk_X11_deed, li_X11_deed, ls_X11_deed, ln_X11, ⟨by decide, by decide, by decide +kernel⟩, by decide⟩
theorem mv_X11_isDeed : gMv yX11_isDeed cX11_isDeed 2 (Option.some FieldType.boolean) 1 := ⟨lk_X11_isDeed, li_X11_isDeed, ls_X11_isDeed, ln_X11, ⟨by decide, by decide, by decide +kernel⟩, by decide⟩
theorem mv_X11_left : gMv yX11_left cX11_left 3 (Option.some FieldType.int) 2 := ⟨lk_X11_left, li_X11_left, ls_X11_left, ln_X11, ⟨by decide, by decide, by decide +kernel⟩, by decide⟩
theorem mv_X11_left0 : gMs yX11_left0 cX11_left0 3 (Option.some FieldType.int) 3 := ⟨lk_X11_left0, li_X11_left0, ln_X11, ⟨by decide, by decide, by decide +kernel⟩, by decide⟩
theorem mv_X11_law : gMv yX11_law cX11_law 2 (Option.some FieldType.boolean) 1 := ⟨lk_X11_law, li_X11_law, ls_X11_law, ln_X11, ⟨by decide, by decide, by decide +kernel⟩, by decide⟩
theorem mv_X11_rumour : gMv yX11_rumour cX11_rumour 2 (Option.some FieldType.boolean) 1 := ⟨lk_X11_rumour, li_X11_rumour, ls_X11_rumour, ln_X11, ⟨by decide, by decide, by decide +kernel⟩, by decide⟩
theorem mv_X11_commit : gMv yX11_commit cX11_commit 3 (Option.some FieldType.int) 2 := ⟨lk_X11_commit, li_X11_commit, ls_X11_commit, ln_X11, ⟨by decide, by decide, by decide +kernel⟩, by decide⟩
theorem mv_X11_canCommit : gMv yX11_canCommit cX11_canCommit 4 (Option.some FieldType.boolean) 3 := ⟨lk_X11_canCommit, li_X11_canCommit, ls_X11_canCommit, ln_X11, ⟨by decide, by decide, by decide +kernel⟩, by decide⟩
theorem mv_X11_remember : gMv yX11_remember cX11_remember 2 none 0 := ⟨lk_X11_remember, li_X11_remember, ls_X11_remember, ln_X11, ⟨by decide, by decide, by decide +kernel⟩, by decide⟩
theorem mv_X11_commits : gMv yX11_commits cX11_commits 4 none 3 := ⟨lk_X11_commits, li_X11_commits, ls_X11_commits, ln_X11, ⟨by decide, by decide, by decide +kernel⟩, by decide⟩
theorem mv_X11_guiltOf : gMv yX11_guiltOf cX11_guiltOf 2 (Option.some FieldType.int) 1 := ⟨lk_X11_guiltOf, li_X11_guiltOf, ls_X11_guiltOf, ln_X11, ⟨by decide, by decide, by decide +kernel⟩, by decide⟩
theorem mv_X11_setOf : gMv yX11_setOf cX11_setOf 5 (Option.some FieldType.int) 2 := ⟨lk_X11_setOf, li_X11_setOf, ls_X11_setOf, ln_X11, ⟨by decide, by decide, by decide +kernel⟩, by decide⟩
theorem mv_X11_sumOf : gMv yX11_sumOf cX11_sumOf 5 (Option.some FieldType.int) 2 := ⟨lk_X11_sumOf, li_X11_sumOf, ls_X11_sumOf, ln_X11, ⟨by decide, by decide, by decide +kernel⟩, by decide⟩
theorem mv_X11_sell : gMv yX11_sell cX11_sell 4 (Option.some FieldType.int) 3 := ⟨lk_X11_sell, li_X11_sell, ls_X11_sell, ln_X11, ⟨by decide, by decide, by decide +kernel⟩, by decide⟩
theorem mv_X11_atone : gMv yX11_atone cX11_atone 3 (Option.some FieldType.int) 2 := ⟨lk_X11_atone, li_X11_atone, ls_X11_atone, ln_X11, ⟨by decide, by decide, by decide +kernel⟩, by decide⟩
theorem mv_X11_canAtone : gMv yX11_canAtone cX11_canAtone 4 (Option.some FieldType.boolean) 3 := ⟨lk_X11_canAtone, li_X11_canAtone, ls_X11_canAtone, ln_X11, ⟨by decide, by decide, by decide +kernel⟩, by decide⟩
theorem mv_X11_atones : gMs yX11_atones cX11_atones 3 none 3 := ⟨lk_X11_atones, li_X11_atones, ln_X11, ⟨by decide, by decide, by decide +kernel⟩, by decide⟩
theorem mv_X11_shave : gMv yX11_shave cX11_shave 2 (Option.some FieldType.int) 1 := ⟨lk_X11_shave, li_X11_shave, ls_X11_shave, ln_X11, ⟨by decide, by decide, by decide +kernel⟩, by decide⟩
theorem mv_X11_canGo : gMv yX11_canGo cX11_canGo 3 (Option.some FieldType.boolean) 2 := ⟨lk_X11_canGo, li_X11_canGo, ls_X11_canGo, ln_X11, ⟨by decide, by decide, by decide +kernel⟩, by decide⟩
theorem mv_X11_goes : gMv yX11_goes cX11_goes 4 (Option.some FieldType.int) 2 := ⟨lk_X11_goes, li_X11_goes, ls_X11_goes, ln_X11, ⟨by decide, by decide, by decide +kernel⟩, by decide⟩
theorem mv_X11_isGuilty : gMv yX11_isGuilty cX11_isGuilty 3 (Option.some FieldType.boolean) 2 := ⟨lk_X11_isGuilty, li_X11_isGuilty, ls_X11_isGuilty, ln_X11, ⟨by decide, by decide, by decide +kernel⟩, by decide⟩
theorem mv_X11_readWith : gMv yX11_readWith cX11_readWith 4 (Option.some FieldType.int) 3 := ⟨lk_X11_readWith, li_X11_readWith, ls_X11_readWith, ln_X11, ⟨by decide, by decide, by decide +kernel⟩, by decide⟩
theorem mv_X11_readBy : gMv yX11_readBy cX11_readBy 8 (Option.some FieldType.int) 6 := ⟨lk_X11_readBy, li_X11_readBy, ls_X11_readBy, ln_X11, ⟨by decide, by decide, by decide +kernel⟩, by decide⟩
theorem mv_X11_worthOf : gMv yX11_worthOf cX11_worthOf 10 (Option.some FieldType.int) 6 := ⟨lk_X11_worthOf, li_X11_worthOf, ls_X11_worthOf, ln_X11, ⟨by decide, by decide, by decide +kernel⟩, by decide⟩
theorem mv_X11_give : gMv yX11_give cX11_give 2 (Option.some FieldType.int) 1 := ⟨lk_X11_give, li_X11_give, ls_X11_give, ln_X11, ⟨by decide, by decide, by decide +kernel⟩, by decide⟩
theorem mv_X11_day : gMv yX11_day cX11_day 1 (Option.some FieldType.int) 0 := ⟨lk_X11_day, li_X11_day, ls_X11_day, ln_X11, ⟨by decide, by decide, by decide +kernel⟩, by decide⟩
theorem mv_X11_goDay : gMv yX11_goDay cX11_goDay 5 (Option.some FieldType.int) 1 := ⟨lk_X11_goDay, li_X11_goDay, ls_X11_goDay, ln_X11, ⟨by decide, by decide, by decide +kernel⟩, by decide⟩
theorem mv_X11_smooth : gMv yX11_smooth cX11_smooth 4 (Option.some FieldType.int) 1 := ⟨lk_X11_smooth, li_X11_smooth, ls_X11_smooth, ln_X11, ⟨by decide, by decide, by decide +kernel⟩, by decide⟩
theorem mv_X11_ages : gMv yX11_ages cX11_ages 4 none 1 := ⟨lk_X11_ages, li_X11_ages, ls_X11_ages, ln_X11, ⟨by decide, by decide, by decide +kernel⟩, by decide⟩
theorem mv_X11_years : gMv yX11_years cX11_years 9 (Option.some FieldType.int) 2 := ⟨lk_X11_years, li_X11_years, ls_X11_years, ln_X11, ⟨by decide, by decide, by decide +kernel⟩, by decide⟩
theorem mv_X11_draw : gMv yX11_draw cX11_draw 2 (Option.some FieldType.int) 1 := ⟨lk_X11_draw, li_X11_draw, ls_X11_draw, ln_X11, ⟨by decide, by decide, by decide +kernel⟩, by decide⟩
theorem mv_X11_undo : gMv yX11_undo cX11_undo 2 (Option.some FieldType.int) 0 := ⟨lk_X11_undo, li_X11_undo, ls_X11_undo, ln_X11, ⟨by decide, by decide, by decide +kernel⟩, by decide⟩
theorem mv_X11_log : gMv yX11_log cX11_log 3 (Option.some FieldType.int) 2 := ⟨lk_X11_log, li_X11_log, ls_X11_log, ln_X11, ⟨by decide, by decide, by decide +kernel⟩, by decide⟩
theorem mv_X11_step : gMv yX11_step cX11_step 4 (Option.some FieldType.int) 3 := ⟨lk_X11_step, li_X11_step, ls_X11_step, ln_X11, ⟨by decide, by decide, by decide +kernel⟩, by decide⟩
theorem mv_X11_isPlan : gMv yX11_isPlan cX11_isPlan 2 (Option.some FieldType.boolean) 1 := ⟨lk_X11_isPlan, li_X11_isPlan, ls_X11_isPlan, ln_X11, ⟨by decide, by decide, by decide +kernel⟩, by decide⟩
theorem mv_X11_run : gMv yX11_run cX11_run 4 (Option.some FieldType.int) 2 := ⟨lk_X11_run, li_X11_run, ls_X11_run, ln_X11, ⟨by decide, by decide, by decide +kernel⟩, by decide⟩
theorem mv_X11_copy : gMs yX11_copy cX11_copy 3 none 2 := ⟨lk_X11_copy, li_X11_copy, ln_X11, ⟨by decide, by decide, by decide +kernel⟩, by decide⟩
theorem mv_X11_canStep : gMv yX11_canStep cX11_canStep 4 (Option.some FieldType.boolean) 2 := ⟨lk_X11_canStep, li_X11_canStep, ls_X11_canStep, ln_X11, ⟨by decide, by decide, by decide +kernel⟩, by decide⟩
theorem mv_X11_goStep : gMv yX11_goStep cX11_goStep 6 none 2 := ⟨lk_X11_goStep, li_X11_goStep, ls_X11_goStep, ln_X11, ⟨by decide, by decide, by decide +kernel⟩, by decide⟩
theorem mv_X11_perform : gMv yX11_perform cX11_perform 3 (Option.some FieldType.int) 1 := ⟨lk_X11_perform, li_X11_perform, ls_X11_perform, ln_X11, ⟨by decide, by decide, by decide +kernel⟩, by decide⟩
theorem mv_X11_skin : gMv yX11_skin cX11_skin 4 (Option.some FieldType.int) 2 := ⟨lk_X11_skin, li_X11_skin, ls_X11_skin, ln_X11, ⟨by decide, by decide, by decide +kernel⟩, by decide⟩
theorem mv_X11_least : gMv yX11_least cX11_least 5 (Option.some FieldType.int) 2 := ⟨lk_X11_least, li_X11_least, ls_X11_least, ln_X11, ⟨by decide, by decide, by decide +kernel⟩, by decide⟩
theorem mv_X11_meetsSet : gMv yX11_meetsSet cX11_meetsSet 4 none 2 := ⟨lk_X11_meetsSet, li_X11_meetsSet, ls_X11_meetsSet, ln_X11, ⟨by decide, by decide, by decide +kernel⟩, by decide⟩
theorem mv_X11_cover : gMv yX11_cover cX11_cover 4 (Option.some FieldType.int) 2 := ⟨lk_X11_cover, li_X11_cover, ls_X11_cover, ln_X11, ⟨by decide, by decide, by decide +kernel⟩, by decide⟩
theorem mv_X11_areGuilty : gMv yX11_areGuilty cX11_areGuilty 4 (Option.some FieldType.boolean) 2 := ⟨lk_X11_areGuilty, li_X11_areGuilty, ls_X11_areGuilty, ln_X11, ⟨by decide, by decide, by decide +kernel⟩, by decide⟩
theorem mv_X11_harmOf : gMv yX11_harmOf cX11_harmOf 5 (Option.some FieldType.int) 2 := ⟨lk_X11_harmOf, li_X11_harmOf, ls_X11_harmOf, ln_X11, ⟨by decide, by decide, by decide +kernel⟩, by decide⟩
theorem mv_X11_soon : gMv yX11_soon cX11_soon 3 (Option.some FieldType.int) 1 := ⟨lk_X11_soon, li_X11_soon, ls_X11_soon, ln_X11, ⟨by decide, by decide, by decide +kernel⟩, by decide⟩
theorem mv_X11_clean : gMv yX11_clean cX11_clean 4 (Option.some FieldType.int) 0 := ⟨lk_X11_clean, li_X11_clean, ls_X11_clean, ln_X11, ⟨by decide, by decide, by decide +kernel⟩, by decide⟩
theorem mv_X11_bargain : gMv yX11_bargain cX11_bargain 6 (Option.some FieldType.int) 2 := ⟨lk_X11_bargain, li_X11_bargain, ls_X11_bargain, ln_X11, ⟨by decide, by decide, by decide +kernel⟩, by decide⟩
theorem mv_X11_seen : gMv yX11_seen cX11_seen 4 (Option.some FieldType.int) 3 := ⟨lk_X11_seen, li_X11_seen, ls_X11_seen, ln_X11, ⟨by decide, by decide, by decide +kernel⟩, by decide⟩
theorem mv_X11_sets : gMv yX11_sets cX11_sets 5 (Option.some FieldType.int) 2 := ⟨lk_X11_sets, li_X11_sets, ls_X11_sets, ln_X11, ⟨by decide, by decide, by decide +kernel⟩, by decide⟩
theorem mv_X11_isSet : gMv yX11_isSet cX11_isSet 4 (Option.some FieldType.boolean) 2 := ⟨lk_X11_isSet, li_X11_isSet, ls_X11_isSet, ln_X11, ⟨by decide, by decide, by decide +kernel⟩, by decide⟩
theorem mv_X11_wouldBe : gMv yX11_wouldBe cX11_wouldBe 4 (Option.some FieldType.boolean) 3 := ⟨lk_X11_wouldBe, li_X11_wouldBe, ls_X11_wouldBe, ln_X11, ⟨by decide, by decide, by decide +kernel⟩, by decide⟩
theorem mv_X11_ask : gMv yX11_ask cX11_ask 8 (Option.some FieldType.int) 1 := ⟨lk_X11_ask, li_X11_ask, ls_X11_ask, ln_X11, ⟨by decide, by decide, by decide +kernel⟩, by decide⟩
theorem mv_X11_game : gMv yX11_game cX11_game 5 (Option.some FieldType.int) 4 := ⟨lk_X11_game, li_X11_game, ls_X11_game, ln_X11, ⟨by decide, by decide, by decide +kernel⟩, by decide⟩
theorem mv_X11_gameOf : gMv yX11_gameOf cX11_gameOf 6 (Option.some FieldType.int) 4 := ⟨lk_X11_gameOf, li_X11_gameOf, ls_X11_gameOf, ln_X11, ⟨by decide, by decide, by decide +kernel⟩, by decide⟩
theorem mv_X11_seems : gMv yX11_seems cX11_seems 4 (Option.some FieldType.boolean) 2 := ⟨lk_X11_seems, li_X11_seems, ls_X11_seems, ln_X11, ⟨by decide, by decide, by decide +kernel⟩, by decide⟩
theorem mv_X11_rests : gMv yX11_rests cX11_rests 8 (Option.some FieldType.int) 2 := ⟨lk_X11_rests, li_X11_rests, ls_X11_rests, ln_X11, ⟨by decide, by decide, by decide +kernel⟩, by decide⟩
theorem mv_X11_odds : gMv yX11_odds cX11_odds 3 (Option.some FieldType.int) 2 := ⟨lk_X11_odds, li_X11_odds, ls_X11_odds, ln_X11, ⟨by decide, by decide, by decide +kernel⟩, by decide⟩
theorem mv_X11_oddsFrom : gMv yX11_oddsFrom cX11_oddsFrom 7 (Option.some FieldType.int) 5 := ⟨lk_X11_oddsFrom, li_X11_oddsFrom, ls_X11_oddsFrom, ln_X11, ⟨by decide, by decide, by decide +kernel⟩, by decide⟩
theorem mv_X11_shares : gMv yX11_shares cX11_shares 5 (Option.some FieldType.int) 2 := ⟨lk_X11_shares, li_X11_shares, ls_X11_shares, ln_X11, ⟨by decide, by decide, by decide +kernel⟩, by decide⟩
theorem mv_X11_owners : gMv yX11_owners cX11_owners 4 (Option.some FieldType.int) 1 := ⟨lk_X11_owners, li_X11_owners, ls_X11_owners, ln_X11, ⟨by decide, by decide, by decide +kernel⟩, by decide⟩
theorem mv_X11_wish : gMv yX11_wish cX11_wish 2 (Option.some FieldType.int) 1 := ⟨lk_X11_wish, li_X11_wish, ls_X11_wish, ln_X11, ⟨by decide, by decide, by decide +kernel⟩, by decide⟩
theorem mv_X11_wishOf : gMv yX11_wishOf cX11_wishOf 2 (Option.some FieldType.int) 1 := ⟨lk_X11_wishOf, li_X11_wishOf, ls_X11_wishOf, ln_X11, ⟨by decide, by decide, by decide +kernel⟩, by decide⟩
theorem mv_X11_all : gMv yX11_all cX11_all 4 (Option.some FieldType.int) 1 := ⟨lk_X11_all, li_X11_all, ls_X11_all, ln_X11, ⟨by decide, by decide, by decide +kernel⟩, by decide⟩
theorem mv_X11_greatest : gMv yX11_greatest cX11_greatest 5 (Option.some FieldType.int) 1 := ⟨lk_X11_greatest, li_X11_greatest, ls_X11_greatest, ln_X11, ⟨by decide, by decide, by decide +kernel⟩, by decide⟩
theorem mv_X11_valueOf : gMv yX11_valueOf cX11_valueOf 3 (Option.some FieldType.int) 2 := ⟨lk_X11_valueOf, li_X11_valueOf, ls_X11_valueOf, ln_X11, ⟨by decide, by decide, by decide +kernel⟩, by decide⟩
theorem mv_X11_served : gMv yX11_served cX11_served 4 (Option.some FieldType.int) 0 := ⟨lk_X11_served, li_X11_served, ls_X11_served, ln_X11, ⟨by decide, by decide, by decide +kernel⟩, by decide⟩
theorem mv_X11_image : gMv yX11_image cX11_image 2 (Option.some FieldType.int) 0 := ⟨lk_X11_image, li_X11_image, ls_X11_image, ln_X11, ⟨by decide, by decide, by decide +kernel⟩, by decide⟩
theorem mv_X11_back : gMv yX11_back cX11_back 2 (Option.some FieldType.int) 0 := ⟨lk_X11_back, li_X11_back, ls_X11_back, ln_X11, ⟨by decide, by decide, by decide +kernel⟩, by decide⟩
theorem mv_X11_count : gMv yX11_count cX11_count 2 (Option.some FieldType.int) 1 := ⟨lk_X11_count, li_X11_count, ls_X11_count, ln_X11, ⟨by decide, by decide, by decide +kernel⟩, by decide⟩
def gkt : List Nat := [11, 8, 34, 9, 32, 32, 32, 32, 32, 32, 32, 9, 32, 32, 32, 32, 32, 32, 32, 4, 1, 37, 32, 38, 5, 32, 32, 5, 32, 32, 5, 32, 32, 6, 39, 32, 32, 32, 32, 32, 32, 32, 32, 32, 32, 32, 32, 32, 32, 32, 32, 32, 32, 32, 32, 32, 32, 32, 32, 32, 32, 32, 32, 32, 32, 32, 32, 32, 32, 32, 32, 32, 32, 32, 32, 7, 32, 32, 35, 32, 32, 2, 0, 0, 0, 0, 0, 0, 0, 0, 0, 0, 0, 0, 0, 0, 0, 0, 0, 0, 12, 33, 33, 32, 32, 32, 32, 32, 32, 32, 32, 32, 32, 32, 32, 36, 32, 32, 32, 32, 36]
def glt : List Nat := [0, 0, 240, 0, 6, 6, 6, 8, 8, 8, 3, 0, 6, 6, 6, 8, 8, 8, 3, 0, 0, 4, 6, 4, 0, 67, 384, 0, 67, 384, 0, 67, 384, 0, 40, 67, 67, 67, 67, 67, 67, 67, 67, 67, 67, 67, 67, 67, 67, 67, 67, 67, 67, 67, 67, 67, 67, 67, 67, 67, 67, 67, 67, 67, 67, 67, 67, 67, 67, 67, 67, 67, 67, 67, 67, 0, 10, 10, 10, 657, 256, 0, 0, 0, 0, 0, 0, 0, 0, 0, 0, 0, 0, 0, 0, 0, 0, 0, 0, 0, 0, 240, 960, 4, 128, 2, 2, 18, 18, 24, 24, 240, 5, 248, 248, 8191, 8191, 9920, 30, 248, 1]
def grt : List (Nat × Nat × Nat) := [(0, 0, 1), (0, 1, 3), (0, 2, 11), (0, 3, 19), (0, 4, 20), (0, 5, 23), (0, 8, 24), (0, 9, 27), (0, 10, 30), (0, 12, 33), (0, 13, 75), (0, 14, 81), (1, 0, 2), (3, 0, 4), (3, 1, 5), (3, 2, 6), (3, 3, 7), (3, 4, 8), (3, 5, 9), (3, 6, 10), (11, 0, 12), (11, 1, 13), (11, 2, 14), (11, 3, 15), (11, 4, 16), (11, 5, 17), (11, 6, 18), (19, 0, 1), (20, 0, 3), (20, 1, 21), (20, 2, 22), (24, 0, 3), (24, 1, 25), (24, 2, 26), (27, 0, 3), (27, 1, 28), (27, 2, 29), (30, 0, 3), (30, 1, 31), (30, 2, 32), (33, 0, 34), (75, 0, 3), (75, 1, 20), (75, 2, 76), (75, 3, 77), (75, 4, 78), (75, 6, 79), (75, 7, 80), (100, 1, 101), (100, 2, 102), (100, 3, 103), (100, 4, 104), (100, 18, 105), (100, 19, 106), (100, 20, 107), (100, 21, 108), (100, 22, 109), (100, 23, 110), (100, 24, 111), (100, 25, 112), (100, 32, 113), (100, 33, 114), (100, 36, 115), (100, 37, 116), (100, 38, 117), (100, 43, 118), (100, 45, 119)]
/-- the cells that are made once: kinds, lengths, and the references that stay -/
def gLay (M : gM) : Prop := (∀ a, a < 121 → gkd M a = gkt.getD a 0) ∧ (∀ a, a < 121 → gln M a = glt.getD a 0) ∧ ∀ q ∈ grt, gmr M q.1 q.2.1 = some q.2.2
theorem k0 {M : gM} (h : gLay M) : gkd M 0 = 11 := h.1 0 (by decide)
theorem k1 {M : gM} (h : gLay M) : gkd M 1 = 8 := h.1 1 (by decide)
theorem k2 {M : gM} (h : gLay M) : gkd M 2 = 34 := h.1 2 (by decide)
theorem l2 {M : gM} (h : gLay M) : gln M 2 = 240 := h.2.1 2 (by decide)
theorem k3 {M : gM} (h : gLay M) : gkd M 3 = 9 := h.1 3 (by decide)
theorem k4 {M : gM} (h : gLay M) : gkd M 4 = 32 := h.1 4 (by decide)
theorem l4 {M : gM} (h : gLay M) : gln M 4 = 6 := h.2.1 4 (by decide)
theorem k5 {M : gM} (h : gLay M) : gkd M 5 = 32 := h.1 5 (by decide)
theorem l5 {M : gM} (h : gLay M) : gln M 5 = 6 := h.2.1 5 (by decide)
theorem k6 {M : gM} (h : gLay M) : gkd M 6 = 32 := h.1 6 (by decide)
theorem l6 {M : gM} (h : gLay M) : gln M 6 = 6 := h.2.1 6 (by decide)
theorem k7 {M : gM} (h : gLay M) : gkd M 7 = 32 := h.1 7 (by decide)
theorem l7 {M : gM} (h : gLay M) : gln M 7 = 8 := h.2.1 7 (by decide)
theorem k8 {M : gM} (h : gLay M) : gkd M 8 = 32 := h.1 8 (by decide)
theorem l8 {M : gM} (h : gLay M) : gln M 8 = 8 := h.2.1 8 (by decide)
theorem k9 {M : gM} (h : gLay M) : gkd M 9 = 32 := h.1 9 (by decide)
theorem l9 {M : gM} (h : gLay M) : gln M 9 = 8 := h.2.1 9 (by decide)
theorem k10 {M : gM} (h : gLay M) : gkd M 10 = 32 := h.1 10 (by decide)
theorem l10 {M : gM} (h : gLay M) : gln M 10 = 3 := h.2.1 10 (by decide)
theorem k11 {M : gM} (h : gLay M) : gkd M 11 = 9 := h.1 11 (by decide)
theorem k12 {M : gM} (h : gLay M) : gkd M 12 = 32 := h.1 12 (by decide)
theorem l12 {M : gM} (h : gLay M) : gln M 12 = 6 := h.2.1 12 (by decide)
theorem k13 {M : gM} (h : gLay M) : gkd M 13 = 32 := h.1 13 (by decide)
theorem l13 {M : gM} (h : gLay M) : gln M 13 = 6 := h.2.1 13 (by decide)
theorem k14 {M : gM} (h : gLay M) : gkd M 14 = 32 := h.1 14 (by decide)
theorem l14 {M : gM} (h : gLay M) : gln M 14 = 6 := h.2.1 14 (by decide)
theorem k15 {M : gM} (h : gLay M) : gkd M 15 = 32 := h.1 15 (by decide)
theorem l15 {M : gM} (h : gLay M) : gln M 15 = 8 := h.2.1 15 (by decide)
theorem k16 {M : gM} (h : gLay M) : gkd M 16 = 32 := h.1 16 (by decide)
theorem l16 {M : gM} (h : gLay M) : gln M 16 = 8 := h.2.1 16 (by decide)
theorem k17 {M : gM} (h : gLay M) : gkd M 17 = 32 := h.1 17 (by decide)
theorem l17 {M : gM} (h : gLay M) : gln M 17 = 8 := h.2.1 17 (by decide)
theorem k18 {M : gM} (h : gLay M) : gkd M 18 = 32 := h.1 18 (by decide)
theorem l18 {M : gM} (h : gLay M) : gln M 18 = 3 := h.2.1 18 (by decide)
theorem k19 {M : gM} (h : gLay M) : gkd M 19 = 4 := h.1 19 (by decide)
theorem k20 {M : gM} (h : gLay M) : gkd M 20 = 1 := h.1 20 (by decide)
theorem k21 {M : gM} (h : gLay M) : gkd M 21 = 37 := h.1 21 (by decide)
theorem l21 {M : gM} (h : gLay M) : gln M 21 = 4 := h.2.1 21 (by decide)
theorem k22 {M : gM} (h : gLay M) : gkd M 22 = 32 := h.1 22 (by decide)
theorem l22 {M : gM} (h : gLay M) : gln M 22 = 6 := h.2.1 22 (by decide)
theorem k23 {M : gM} (h : gLay M) : gkd M 23 = 38 := h.1 23 (by decide)
theorem l23 {M : gM} (h : gLay M) : gln M 23 = 4 := h.2.1 23 (by decide)
theorem k24 {M : gM} (h : gLay M) : gkd M 24 = 5 := h.1 24 (by decide)
theorem k25 {M : gM} (h : gLay M) : gkd M 25 = 32 := h.1 25 (by decide)
theorem l25 {M : gM} (h : gLay M) : gln M 25 = 67 := h.2.1 25 (by decide)
theorem k26 {M : gM} (h : gLay M) : gkd M 26 = 32 := h.1 26 (by decide)
theorem l26 {M : gM} (h : gLay M) : gln M 26 = 384 := h.2.1 26 (by decide)
theorem k27 {M : gM} (h : gLay M) : gkd M 27 = 5 := h.1 27 (by decide)
theorem k28 {M : gM} (h : gLay M) : gkd M 28 = 32 := h.1 28 (by decide)
theorem l28 {M : gM} (h : gLay M) : gln M 28 = 67 := h.2.1 28 (by decide)
theorem k29 {M : gM} (h : gLay M) : gkd M 29 = 32 := h.1 29 (by decide)
theorem l29 {M : gM} (h : gLay M) : gln M 29 = 384 := h.2.1 29 (by decide)
theorem k30 {M : gM} (h : gLay M) : gkd M 30 = 5 := h.1 30 (by decide)
theorem k31 {M : gM} (h : gLay M) : gkd M 31 = 32 := h.1 31 (by decide)
theorem l31 {M : gM} (h : gLay M) : gln M 31 = 67 := h.2.1 31 (by decide)
theorem k32 {M : gM} (h : gLay M) : gkd M 32 = 32 := h.1 32 (by decide)
theorem l32 {M : gM} (h : gLay M) : gln M 32 = 384 := h.2.1 32 (by decide)
theorem k33 {M : gM} (h : gLay M) : gkd M 33 = 6 := h.1 33 (by decide)
theorem k34 {M : gM} (h : gLay M) : gkd M 34 = 39 := h.1 34 (by decide)
theorem l34 {M : gM} (h : gLay M) : gln M 34 = 40 := h.2.1 34 (by decide)
theorem k35 {M : gM} (h : gLay M) : gkd M 35 = 32 := h.1 35 (by decide)
theorem l35 {M : gM} (h : gLay M) : gln M 35 = 67 := h.2.1 35 (by decide)
theorem k36 {M : gM} (h : gLay M) : gkd M 36 = 32 := h.1 36 (by decide)
theorem l36 {M : gM} (h : gLay M) : gln M 36 = 67 := h.2.1 36 (by decide)
theorem k37 {M : gM} (h : gLay M) : gkd M 37 = 32 := h.1 37 (by decide)
theorem l37 {M : gM} (h : gLay M) : gln M 37 = 67 := h.2.1 37 (by decide)
theorem k38 {M : gM} (h : gLay M) : gkd M 38 = 32 := h.1 38 (by decide)
theorem l38 {M : gM} (h : gLay M) : gln M 38 = 67 := h.2.1 38 (by decide)
theorem k39 {M : gM} (h : gLay M) : gkd M 39 = 32 := h.1 39 (by decide)
theorem l39 {M : gM} (h : gLay M) : gln M 39 = 67 := h.2.1 39 (by decide)
theorem k40 {M : gM} (h : gLay M) : gkd M 40 = 32 := h.1 40 (by decide)
theorem l40 {M : gM} (h : gLay M) : gln M 40 = 67 := h.2.1 40 (by decide)
theorem k41 {M : gM} (h : gLay M) : gkd M 41 = 32 := h.1 41 (by decide)
theorem l41 {M : gM} (h : gLay M) : gln M 41 = 67 := h.2.1 41 (by decide)
theorem k42 {M : gM} (h : gLay M) : gkd M 42 = 32 := h.1 42 (by decide)
theorem l42 {M : gM} (h : gLay M) : gln M 42 = 67 := h.2.1 42 (by decide)
theorem k43 {M : gM} (h : gLay M) : gkd M 43 = 32 := h.1 43 (by decide)
theorem l43 {M : gM} (h : gLay M) : gln M 43 = 67 := h.2.1 43 (by decide)
theorem k44 {M : gM} (h : gLay M) : gkd M 44 = 32 := h.1 44 (by decide)
theorem l44 {M : gM} (h : gLay M) : gln M 44 = 67 := h.2.1 44 (by decide)
theorem k45 {M : gM} (h : gLay M) : gkd M 45 = 32 := h.1 45 (by decide)
theorem l45 {M : gM} (h : gLay M) : gln M 45 = 67 := h.2.1 45 (by decide)
theorem k46 {M : gM} (h : gLay M) : gkd M 46 = 32 := h.1 46 (by decide)
theorem l46 {M : gM} (h : gLay M) : gln M 46 = 67 := h.2.1 46 (by decide)
theorem k47 {M : gM} (h : gLay M) : gkd M 47 = 32 := h.1 47 (by decide)
theorem l47 {M : gM} (h : gLay M) : gln M 47 = 67 := h.2.1 47 (by decide)
theorem k48 {M : gM} (h : gLay M) : gkd M 48 = 32 := h.1 48 (by decide)
theorem l48 {M : gM} (h : gLay M) : gln M 48 = 67 := h.2.1 48 (by decide)
theorem k49 {M : gM} (h : gLay M) : gkd M 49 = 32 := h.1 49 (by decide)
theorem l49 {M : gM} (h : gLay M) : gln M 49 = 67 := h.2.1 49 (by decide)
theorem k50 {M : gM} (h : gLay M) : gkd M 50 = 32 := h.1 50 (by decide)
theorem l50 {M : gM} (h : gLay M) : gln M 50 = 67 := h.2.1 50 (by decide)
theorem k51 {M : gM} (h : gLay M) : gkd M 51 = 32 := h.1 51 (by decide)
theorem l51 {M : gM} (h : gLay M) : gln M 51 = 67 := h.2.1 51 (by decide)
theorem k52 {M : gM} (h : gLay M) : gkd M 52 = 32 := h.1 52 (by decide)
theorem l52 {M : gM} (h : gLay M) : gln M 52 = 67 := h.2.1 52 (by decide)
theorem k53 {M : gM} (h : gLay M) : gkd M 53 = 32 := h.1 53 (by decide)
theorem l53 {M : gM} (h : gLay M) : gln M 53 = 67 := h.2.1 53 (by decide)
theorem k54 {M : gM} (h : gLay M) : gkd M 54 = 32 := h.1 54 (by decide)
theorem l54 {M : gM} (h : gLay M) : gln M 54 = 67 := h.2.1 54 (by decide)
theorem k55 {M : gM} (h : gLay M) : gkd M 55 = 32 := h.1 55 (by decide)
theorem l55 {M : gM} (h : gLay M) : gln M 55 = 67 := h.2.1 55 (by decide)
theorem k56 {M : gM} (h : gLay M) : gkd M 56 = 32 := h.1 56 (by decide)
theorem l56 {M : gM} (h : gLay M) : gln M 56 = 67 := h.2.1 56 (by decide)
theorem k57 {M : gM} (h : gLay M) : gkd M 57 = 32 := h.1 57 (by decide)
theorem l57 {M : gM} (h : gLay M) : gln M 57 = 67 := h.2.1 57 (by decide)
theorem k58 {M : gM} (h : gLay M) : gkd M 58 = 32 := h.1 58 (by decide)
theorem l58 {M : gM} (h : gLay M) : gln M 58 = 67 := h.2.1 58 (by decide)
theorem k59 {M : gM} (h : gLay M) : gkd M 59 = 32 := h.1 59 (by decide)
theorem l59 {M : gM} (h : gLay M) : gln M 59 = 67 := h.2.1 59 (by decide)
theorem k60 {M : gM} (h : gLay M) : gkd M 60 = 32 := h.1 60 (by decide)
theorem l60 {M : gM} (h : gLay M) : gln M 60 = 67 := h.2.1 60 (by decide)
theorem k61 {M : gM} (h : gLay M) : gkd M 61 = 32 := h.1 61 (by decide)
theorem l61 {M : gM} (h : gLay M) : gln M 61 = 67 := h.2.1 61 (by decide)
theorem k62 {M : gM} (h : gLay M) : gkd M 62 = 32 := h.1 62 (by decide)
theorem l62 {M : gM} (h : gLay M) : gln M 62 = 67 := h.2.1 62 (by decide)
theorem k63 {M : gM} (h : gLay M) : gkd M 63 = 32 := h.1 63 (by decide)
theorem l63 {M : gM} (h : gLay M) : gln M 63 = 67 := h.2.1 63 (by decide)
theorem k64 {M : gM} (h : gLay M) : gkd M 64 = 32 := h.1 64 (by decide)
theorem l64 {M : gM} (h : gLay M) : gln M 64 = 67 := h.2.1 64 (by decide)
theorem k65 {M : gM} (h : gLay M) : gkd M 65 = 32 := h.1 65 (by decide)
theorem l65 {M : gM} (h : gLay M) : gln M 65 = 67 := h.2.1 65 (by decide)
theorem k66 {M : gM} (h : gLay M) : gkd M 66 = 32 := h.1 66 (by decide)
theorem l66 {M : gM} (h : gLay M) : gln M 66 = 67 := h.2.1 66 (by decide)
theorem k67 {M : gM} (h : gLay M) : gkd M 67 = 32 := h.1 67 (by decide)
theorem l67 {M : gM} (h : gLay M) : gln M 67 = 67 := h.2.1 67 (by decide)
theorem k68 {M : gM} (h : gLay M) : gkd M 68 = 32 := h.1 68 (by decide)
theorem l68 {M : gM} (h : gLay M) : gln M 68 = 67 := h.2.1 68 (by decide)
theorem k69 {M : gM} (h : gLay M) : gkd M 69 = 32 := h.1 69 (by decide)
theorem l69 {M : gM} (h : gLay M) : gln M 69 = 67 := h.2.1 69 (by decide)
theorem k70 {M : gM} (h : gLay M) : gkd M 70 = 32 := h.1 70 (by decide)
theorem l70 {M : gM} (h : gLay M) : gln M 70 = 67 := h.2.1 70 (by decide)
theorem k71 {M : gM} (h : gLay M) : gkd M 71 = 32 := h.1 71 (by decide)
theorem l71 {M : gM} (h : gLay M) : gln M 71 = 67 := h.2.1 71 (by decide)
theorem k72 {M : gM} (h : gLay M) : gkd M 72 = 32 := h.1 72 (by decide)
theorem l72 {M : gM} (h : gLay M) : gln M 72 = 67 := h.2.1 72 (by decide)
theorem k73 {M : gM} (h : gLay M) : gkd M 73 = 32 := h.1 73 (by decide)
theorem l73 {M : gM} (h : gLay M) : gln M 73 = 67 := h.2.1 73 (by decide)
theorem k74 {M : gM} (h : gLay M) : gkd M 74 = 32 := h.1 74 (by decide)
theorem l74 {M : gM} (h : gLay M) : gln M 74 = 67 := h.2.1 74 (by decide)
theorem k75 {M : gM} (h : gLay M) : gkd M 75 = 7 := h.1 75 (by decide)
theorem k76 {M : gM} (h : gLay M) : gkd M 76 = 32 := h.1 76 (by decide)
theorem l76 {M : gM} (h : gLay M) : gln M 76 = 10 := h.2.1 76 (by decide)
theorem k77 {M : gM} (h : gLay M) : gkd M 77 = 32 := h.1 77 (by decide)
theorem l77 {M : gM} (h : gLay M) : gln M 77 = 10 := h.2.1 77 (by decide)
theorem k78 {M : gM} (h : gLay M) : gkd M 78 = 35 := h.1 78 (by decide)
theorem l78 {M : gM} (h : gLay M) : gln M 78 = 10 := h.2.1 78 (by decide)
theorem k79 {M : gM} (h : gLay M) : gkd M 79 = 32 := h.1 79 (by decide)
theorem l79 {M : gM} (h : gLay M) : gln M 79 = 657 := h.2.1 79 (by decide)
theorem k80 {M : gM} (h : gLay M) : gkd M 80 = 32 := h.1 80 (by decide)
theorem l80 {M : gM} (h : gLay M) : gln M 80 = 256 := h.2.1 80 (by decide)
theorem k81 {M : gM} (h : gLay M) : gkd M 81 = 2 := h.1 81 (by decide)
theorem k100 {M : gM} (h : gLay M) : gkd M 100 = 12 := h.1 100 (by decide)
theorem k101 {M : gM} (h : gLay M) : gkd M 101 = 33 := h.1 101 (by decide)
theorem l101 {M : gM} (h : gLay M) : gln M 101 = 240 := h.2.1 101 (by decide)
theorem k102 {M : gM} (h : gLay M) : gkd M 102 = 33 := h.1 102 (by decide)
theorem l102 {M : gM} (h : gLay M) : gln M 102 = 960 := h.2.1 102 (by decide)
theorem k103 {M : gM} (h : gLay M) : gkd M 103 = 32 := h.1 103 (by decide)
theorem l103 {M : gM} (h : gLay M) : gln M 103 = 4 := h.2.1 103 (by decide)
theorem k104 {M : gM} (h : gLay M) : gkd M 104 = 32 := h.1 104 (by decide)
theorem l104 {M : gM} (h : gLay M) : gln M 104 = 128 := h.2.1 104 (by decide)
theorem k105 {M : gM} (h : gLay M) : gkd M 105 = 32 := h.1 105 (by decide)
theorem l105 {M : gM} (h : gLay M) : gln M 105 = 2 := h.2.1 105 (by decide)
theorem k106 {M : gM} (h : gLay M) : gkd M 106 = 32 := h.1 106 (by decide)
theorem l106 {M : gM} (h : gLay M) : gln M 106 = 2 := h.2.1 106 (by decide)
theorem k107 {M : gM} (h : gLay M) : gkd M 107 = 32 := h.1 107 (by decide)
theorem l107 {M : gM} (h : gLay M) : gln M 107 = 18 := h.2.1 107 (by decide)
theorem k108 {M : gM} (h : gLay M) : gkd M 108 = 32 := h.1 108 (by decide)
theorem l108 {M : gM} (h : gLay M) : gln M 108 = 18 := h.2.1 108 (by decide)
theorem k109 {M : gM} (h : gLay M) : gkd M 109 = 32 := h.1 109 (by decide)
theorem l109 {M : gM} (h : gLay M) : gln M 109 = 24 := h.2.1 109 (by decide)
theorem k110 {M : gM} (h : gLay M) : gkd M 110 = 32 := h.1 110 (by decide)
theorem l110 {M : gM} (h : gLay M) : gln M 110 = 24 := h.2.1 110 (by decide)
theorem k111 {M : gM} (h : gLay M) : gkd M 111 = 32 := h.1 111 (by decide)
theorem l111 {M : gM} (h : gLay M) : gln M 111 = 240 := h.2.1 111 (by decide)
theorem k112 {M : gM} (h : gLay M) : gkd M 112 = 32 := h.1 112 (by decide)
theorem l112 {M : gM} (h : gLay M) : gln M 112 = 5 := h.2.1 112 (by decide)
theorem k113 {M : gM} (h : gLay M) : gkd M 113 = 32 := h.1 113 (by decide)
theorem l113 {M : gM} (h : gLay M) : gln M 113 = 248 := h.2.1 113 (by decide)
theorem k114 {M : gM} (h : gLay M) : gkd M 114 = 32 := h.1 114 (by decide)
theorem l114 {M : gM} (h : gLay M) : gln M 114 = 248 := h.2.1 114 (by decide)
theorem k115 {M : gM} (h : gLay M) : gkd M 115 = 36 := h.1 115 (by decide)
theorem l115 {M : gM} (h : gLay M) : gln M 115 = 8191 := h.2.1 115 (by decide)
theorem k116 {M : gM} (h : gLay M) : gkd M 116 = 32 := h.1 116 (by decide)
theorem l116 {M : gM} (h : gLay M) : gln M 116 = 8191 := h.2.1 116 (by decide)
theorem k117 {M : gM} (h : gLay M) : gkd M 117 = 32 := h.1 117 (by decide)
theorem l117 {M : gM} (h : gLay M) : gln M 117 = 9920 := h.2.1 117 (by decide)
theorem k118 {M : gM} (h : gLay M) : gkd M 118 = 32 := h.1 118 (by decide)
theorem l118 {M : gM} (h : gLay M) : gln M 118 = 30 := h.2.1 118 (by decide)
theorem k119 {M : gM} (h : gLay M) : gkd M 119 = 32 := h.1 119 (by decide)
theorem l119 {M : gM} (h : gLay M) : gln M 119 = 248 := h.2.1 119 (by decide)
theorem k120 {M : gM} (h : gLay M) : gkd M 120 = 36 := h.1 120 (by decide)
theorem l120 {M : gM} (h : gLay M) : gln M 120 = 1 := h.2.1 120 (by decide)
theorem r0_0 {M : gM} (h : gLay M) : gmr M 0 0 = some 1 := h.2.2 (0, 0, 1) (List.mem_of_getElem? (i := 0) rfl)
theorem r0_1 {M : gM} (h : gLay M) : gmr M 0 1 = some 3 := h.2.2 (0, 1, 3) (List.mem_of_getElem? (i := 1) rfl)
theorem r0_2 {M : gM} (h : gLay M) : gmr M 0 2 = some 11 := h.2.2 (0, 2, 11) (List.mem_of_getElem? (i := 2) rfl)
theorem r0_3 {M : gM} (h : gLay M) : gmr M 0 3 = some 19 := h.2.2 (0, 3, 19) (List.mem_of_getElem? (i := 3) rfl)
theorem r0_4 {M : gM} (h : gLay M) : gmr M 0 4 = some 20 := h.2.2 (0, 4, 20) (List.mem_of_getElem? (i := 4) rfl)
theorem r0_5 {M : gM} (h : gLay M) : gmr M 0 5 = some 23 := h.2.2 (0, 5, 23) (List.mem_of_getElem? (i := 5) rfl)
theorem r0_8 {M : gM} (h : gLay M) : gmr M 0 8 = some 24 := h.2.2 (0, 8, 24) (List.mem_of_getElem? (i := 6) rfl)
theorem r0_9 {M : gM} (h : gLay M) : gmr M 0 9 = some 27 := h.2.2 (0, 9, 27) (List.mem_of_getElem? (i := 7) rfl)
theorem r0_10 {M : gM} (h : gLay M) : gmr M 0 10 = some 30 := h.2.2 (0, 10, 30) (List.mem_of_getElem? (i := 8) rfl)
theorem r0_12 {M : gM} (h : gLay M) : gmr M 0 12 = some 33 := h.2.2 (0, 12, 33) (List.mem_of_getElem? (i := 9) rfl)
theorem r0_13 {M : gM} (h : gLay M) : gmr M 0 13 = some 75 := h.2.2 (0, 13, 75) (List.mem_of_getElem? (i := 10) rfl)
theorem r0_14 {M : gM} (h : gLay M) : gmr M 0 14 = some 81 := h.2.2 (0, 14, 81) (List.mem_of_getElem? (i := 11) rfl)
theorem r1_0 {M : gM} (h : gLay M) : gmr M 1 0 = some 2 := h.2.2 (1, 0, 2) (List.mem_of_getElem? (i := 12) rfl)
theorem r3_0 {M : gM} (h : gLay M) : gmr M 3 0 = some 4 := h.2.2 (3, 0, 4) (List.mem_of_getElem? (i := 13) rfl)
theorem r3_1 {M : gM} (h : gLay M) : gmr M 3 1 = some 5 := h.2.2 (3, 1, 5) (List.mem_of_getElem? (i := 14) rfl)
theorem r3_2 {M : gM} (h : gLay M) : gmr M 3 2 = some 6 := h.2.2 (3, 2, 6) (List.mem_of_getElem? (i := 15) rfl)
theorem r3_3 {M : gM} (h : gLay M) : gmr M 3 3 = some 7 := h.2.2 (3, 3, 7) (List.mem_of_getElem? (i := 16) rfl)
theorem r3_4 {M : gM} (h : gLay M) : gmr M 3 4 = some 8 := h.2.2 (3, 4, 8) (List.mem_of_getElem? (i := 17) rfl)
theorem r3_5 {M : gM} (h : gLay M) : gmr M 3 5 = some 9 := h.2.2 (3, 5, 9) (List.mem_of_getElem? (i := 18) rfl)
theorem r3_6 {M : gM} (h : gLay M) : gmr M 3 6 = some 10 := h.2.2 (3, 6, 10) (List.mem_of_getElem? (i := 19) rfl)
theorem r11_0 {M : gM} (h : gLay M) : gmr M 11 0 = some 12 := h.2.2 (11, 0, 12) (List.mem_of_getElem? (i := 20) rfl)
theorem r11_1 {M : gM} (h : gLay M) : gmr M 11 1 = some 13 := h.2.2 (11, 1, 13) (List.mem_of_getElem? (i := 21) rfl)
theorem r11_2 {M : gM} (h : gLay M) : gmr M 11 2 = some 14 := h.2.2 (11, 2, 14) (List.mem_of_getElem? (i := 22) rfl)
theorem r11_3 {M : gM} (h : gLay M) : gmr M 11 3 = some 15 := h.2.2 (11, 3, 15) (List.mem_of_getElem? (i := 23) rfl)
theorem r11_4 {M : gM} (h : gLay M) : gmr M 11 4 = some 16 := h.2.2 (11, 4, 16) (List.mem_of_getElem? (i := 24) rfl)
theorem r11_5 {M : gM} (h : gLay M) : gmr M 11 5 = some 17 := h.2.2 (11, 5, 17) (List.mem_of_getElem? (i := 25) rfl)
theorem r11_6 {M : gM} (h : gLay M) : gmr M 11 6 = some 18 := h.2.2 (11, 6, 18) (List.mem_of_getElem? (i := 26) rfl)
theorem r19_0 {M : gM} (h : gLay M) : gmr M 19 0 = some 1 := h.2.2 (19, 0, 1) (List.mem_of_getElem? (i := 27) rfl)
theorem r20_0 {M : gM} (h : gLay M) : gmr M 20 0 = some 3 := h.2.2 (20, 0, 3) (List.mem_of_getElem? (i := 28) rfl)
theorem r20_1 {M : gM} (h : gLay M) : gmr M 20 1 = some 21 := h.2.2 (20, 1, 21) (List.mem_of_getElem? (i := 29) rfl)
theorem r20_2 {M : gM} (h : gLay M) : gmr M 20 2 = some 22 := h.2.2 (20, 2, 22) (List.mem_of_getElem? (i := 30) rfl)
theorem r24_0 {M : gM} (h : gLay M) : gmr M 24 0 = some 3 := h.2.2 (24, 0, 3) (List.mem_of_getElem? (i := 31) rfl)
theorem r24_1 {M : gM} (h : gLay M) : gmr M 24 1 = some 25 := h.2.2 (24, 1, 25) (List.mem_of_getElem? (i := 32) rfl)
theorem r24_2 {M : gM} (h : gLay M) : gmr M 24 2 = some 26 := h.2.2 (24, 2, 26) (List.mem_of_getElem? (i := 33) rfl)
theorem r27_0 {M : gM} (h : gLay M) : gmr M 27 0 = some 3 := h.2.2 (27, 0, 3) (List.mem_of_getElem? (i := 34) rfl)
theorem r27_1 {M : gM} (h : gLay M) : gmr M 27 1 = some 28 := h.2.2 (27, 1, 28) (List.mem_of_getElem? (i := 35) rfl)
theorem r27_2 {M : gM} (h : gLay M) : gmr M 27 2 = some 29 := h.2.2 (27, 2, 29) (List.mem_of_getElem? (i := 36) rfl)
theorem r30_0 {M : gM} (h : gLay M) : gmr M 30 0 = some 3 := h.2.2 (30, 0, 3) (List.mem_of_getElem? (i := 37) rfl)
theorem r30_1 {M : gM} (h : gLay M) : gmr M 30 1 = some 31 := h.2.2 (30, 1, 31) (List.mem_of_getElem? (i := 38) rfl)
theorem r30_2 {M : gM} (h : gLay M) : gmr M 30 2 = some 32 := h.2.2 (30, 2, 32) (List.mem_of_getElem? (i := 39) rfl)
theorem r33_0 {M : gM} (h : gLay M) : gmr M 33 0 = some 34 := h.2.2 (33, 0, 34) (List.mem_of_getElem? (i := 40) rfl)
theorem r75_0 {M : gM} (h : gLay M) : gmr M 75 0 = some 3 := h.2.2 (75, 0, 3) (List.mem_of_getElem? (i := 41) rfl)
theorem r75_1 {M : gM} (h : gLay M) : gmr M 75 1 = some 20 := h.2.2 (75, 1, 20) (List.mem_of_getElem? (i := 42) rfl)
theorem r75_2 {M : gM} (h : gLay M) : gmr M 75 2 = some 76 := h.2.2 (75, 2, 76) (List.mem_of_getElem? (i := 43) rfl)
theorem r75_3 {M : gM} (h : gLay M) : gmr M 75 3 = some 77 := h.2.2 (75, 3, 77) (List.mem_of_getElem? (i := 44) rfl)
theorem r75_4 {M : gM} (h : gLay M) : gmr M 75 4 = some 78 := h.2.2 (75, 4, 78) (List.mem_of_getElem? (i := 45) rfl)
theorem r75_6 {M : gM} (h : gLay M) : gmr M 75 6 = some 79 := h.2.2 (75, 6, 79) (List.mem_of_getElem? (i := 46) rfl)
theorem r75_7 {M : gM} (h : gLay M) : gmr M 75 7 = some 80 := h.2.2 (75, 7, 80) (List.mem_of_getElem? (i := 47) rfl)
theorem r100_1 {M : gM} (h : gLay M) : gmr M 100 1 = some 101 := h.2.2 (100, 1, 101) (List.mem_of_getElem? (i := 48) rfl)
theorem r100_2 {M : gM} (h : gLay M) : gmr M 100 2 = some 102 := h.2.2 (100, 2, 102) (List.mem_of_getElem? (i := 49) rfl)
theorem r100_3 {M : gM} (h : gLay M) : gmr M 100 3 = some 103 := h.2.2 (100, 3, 103) (List.mem_of_getElem? (i := 50) rfl)
theorem r100_4 {M : gM} (h : gLay M) : gmr M 100 4 = some 104 := h.2.2 (100, 4, 104) (List.mem_of_getElem? (i := 51) rfl)
theorem r100_18 {M : gM} (h : gLay M) : gmr M 100 18 = some 105 := h.2.2 (100, 18, 105) (List.mem_of_getElem? (i := 52) rfl)
theorem r100_19 {M : gM} (h : gLay M) : gmr M 100 19 = some 106 := h.2.2 (100, 19, 106) (List.mem_of_getElem? (i := 53) rfl)
theorem r100_20 {M : gM} (h : gLay M) : gmr M 100 20 = some 107 := h.2.2 (100, 20, 107) (List.mem_of_getElem? (i := 54) rfl)
theorem r100_21 {M : gM} (h : gLay M) : gmr M 100 21 = some 108 := h.2.2 (100, 21, 108) (List.mem_of_getElem? (i := 55) rfl)
theorem r100_22 {M : gM} (h : gLay M) : gmr M 100 22 = some 109 := h.2.2 (100, 22, 109) (List.mem_of_getElem? (i := 56) rfl)
theorem r100_23 {M : gM} (h : gLay M) : gmr M 100 23 = some 110 := h.2.2 (100, 23, 110) (List.mem_of_getElem? (i := 57) rfl)
theorem r100_24 {M : gM} (h : gLay M) : gmr M 100 24 = some 111 := h.2.2 (100, 24, 111) (List.mem_of_getElem? (i := 58) rfl)
theorem r100_25 {M : gM} (h : gLay M) : gmr M 100 25 = some 112 := h.2.2 (100, 25, 112) (List.mem_of_getElem? (i := 59) rfl)
theorem r100_32 {M : gM} (h : gLay M) : gmr M 100 32 = some 113 := h.2.2 (100, 32, 113) (List.mem_of_getElem? (i := 60) rfl)
theorem r100_33 {M : gM} (h : gLay M) : gmr M 100 33 = some 114 := h.2.2 (100, 33, 114) (List.mem_of_getElem? (i := 61) rfl)
theorem r100_36 {M : gM} (h : gLay M) : gmr M 100 36 = some 115 := h.2.2 (100, 36, 115) (List.mem_of_getElem? (i := 62) rfl)
theorem r100_37 {M : gM} (h : gLay M) : gmr M 100 37 = some 116 := h.2.2 (100, 37, 116) (List.mem_of_getElem? (i := 63) rfl)
theorem r100_38 {M : gM} (h : gLay M) : gmr M 100 38 = some 117 := h.2.2 (100, 38, 117) (List.mem_of_getElem? (i := 64) rfl)
theorem r100_43 {M : gM} (h : gLay M) : gmr M 100 43 = some 118 := h.2.2 (100, 43, 118) (List.mem_of_getElem? (i := 65) rfl)
theorem r100_45 {M : gM} (h : gLay M) : gmr M 100 45 = some 119 := h.2.2 (100, 45, 119) (List.mem_of_getElem? (i := 66) rfl)
