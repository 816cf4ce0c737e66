/-! links -/
theorem fl_X4_18 : xv_FL RX4 18 4 2 false := ⟨xv_ci4, by decide, xv_tbi (xv_t3 (i := 198) rfl) rfl, rfl⟩
theorem fl_X4_22 : xv_FL RX4 22 4 3 false := ⟨xv_ci4, by decide, xv_tbi (xv_t3 (i := 199) rfl) rfl, rfl⟩
theorem fl_X4_25 : xv_FL RX4 25 4 4 true := ⟨xv_ci4, by decide, xv_tbi (xv_t3 (i := 200) rfl) rfl, rfl⟩
theorem fl_X4_29 : xv_FL RX4 29 4 5 true := ⟨xv_ci4, by decide, xv_tbi (xv_t3 (i := 201) rfl) rfl, rfl⟩
theorem fl_X4_32 : xv_FL RX4 32 4 0 true := ⟨xv_ci4, by decide, xv_tbi (xv_t3 (i := 193) rfl) rfl, rfl⟩
theorem fl_X4_35 : xv_FL RX4 35 7 0 false := ⟨xv_ci7, by decide, xv_tbi (xv_t1 (i := 233) rfl) rfl, rfl⟩
theorem fl_X4_39 : xv_FL RX4 39 7 2 false := ⟨xv_ci7, by decide, xv_tbi (xv_t1 (i := 238) rfl) rfl, rfl⟩
theorem fl_X4_42 : xv_FL RX4 42 7 3 false := ⟨xv_ci7, by decide, xv_tbi (xv_t2 (i := 0) rfl) rfl, rfl⟩
theorem fl_X8_9 : xv_FL RX8 9 8 1 false := ⟨xv_ci8, by decide, xv_tbi (xv_t4 (i := 44) rfl) rfl, rfl⟩
theorem fl_X8_15 : xv_FL RX8 15 8 2 false := ⟨xv_ci8, by decide, xv_tbi (xv_t4 (i := 46) rfl) rfl, rfl⟩
theorem fl_X8_18 : xv_FL RX8 18 8 3 true := ⟨xv_ci8, by decide, xv_tbi (xv_t4 (i := 49) rfl) rfl, rfl⟩
theorem fl_X8_22 : xv_FL RX8 22 8 4 false := ⟨xv_ci8, by decide, xv_tbi (xv_t4 (i := 50) rfl) rfl, rfl⟩
theorem fl_X8_25 : xv_FL RX8 25 8 5 false := ⟨xv_ci8, by decide, xv_tbi (xv_t4 (i := 51) rfl) rfl, rfl⟩
theorem fl_X8_28 : xv_FL RX8 28 8 0 true := ⟨xv_ci8, by decide, xv_tbi (xv_t4 (i := 42) rfl) rfl, rfl⟩
theorem fl_X4_58 : xv_FL RX4 58 7 1 false := ⟨xv_ci7, by decide, xv_tbi (xv_t1 (i := 236) rfl) rfl, rfl⟩
theorem fl_X0_61 : xv_FL RX0 61 8 2 false := ⟨xv_ci8, by decide, xv_tbi (xv_t4 (i := 47) rfl) rfl, rfl⟩
theorem fl_X0_64 : xv_FL RX0 64 8 0 true := ⟨xv_ci8, by decide, xv_tbi (xv_t4 (i := 43) rfl) rfl, rfl⟩
theorem fl_X0_67 : xv_FL RX0 67 4 1 true := ⟨xv_ci4, by decide, xv_tbi (xv_t3 (i := 196) rfl) rfl, rfl⟩
theorem fl_X0_70 : xv_FL RX0 70 4 0 true := ⟨xv_ci4, by decide, xv_tbi (xv_t3 (i := 194) rfl) rfl, rfl⟩
theorem fl_X1_9 : xv_FL RX1 9 1 0 true := ⟨xv_ci1, by decide, xv_tbi (xv_t1 (i := 148) rfl) rfl, rfl⟩
theorem fl_X1_15 : xv_FL RX1 15 1 1 false := ⟨xv_ci1, by decide, xv_tbi (xv_t1 (i := 150) rfl) rfl, rfl⟩
theorem fl_X1_20 : xv_FL RX1 20 1 2 false := ⟨xv_ci1, by decide, xv_tbi (xv_t1 (i := 152) rfl) rfl, rfl⟩
theorem fl_X1_24 : xv_FL RX1 24 1 3 false := ⟨xv_ci1, by decide, xv_tbi (xv_t1 (i := 154) rfl) rfl, rfl⟩
theorem fl_X1_27 : xv_FL RX1 27 1 4 false := ⟨xv_ci1, by decide, xv_tbi (xv_t1 (i := 156) rfl) rfl, rfl⟩
theorem fl_X1_30 : xv_FL RX1 30 1 5 true := ⟨xv_ci1, by decide, xv_tbi (xv_t1 (i := 157) rfl) rfl, rfl⟩
theorem fl_X1_33 : xv_FL RX1 33 1 6 true := ⟨xv_ci1, by decide, xv_tbi (xv_t1 (i := 158) rfl) rfl, rfl⟩
theorem fl_X1_36 : xv_FL RX1 36 1 7 true := ⟨xv_ci1, by decide, xv_tbi (xv_t1 (i := 159) rfl) rfl, rfl⟩
theorem fl_X2_9 : xv_FL RX2 9 2 0 true := ⟨xv_ci2, by decide, xv_tbi (xv_t1 (i := 93) rfl) rfl, rfl⟩
theorem fl_X2_15 : xv_FL RX2 15 2 1 true := ⟨xv_ci2, by decide, xv_tbi (xv_t1 (i := 95) rfl) rfl, rfl⟩
theorem fl_X2_18 : xv_FL RX2 18 2 2 false := ⟨xv_ci2, by decide, xv_tbi (xv_t1 (i := 97) rfl) rfl, rfl⟩
theorem fl_X2_22 : xv_FL RX2 22 2 3 false := ⟨xv_ci2, by decide, xv_tbi (xv_t1 (i := 99) rfl) rfl, rfl⟩
theorem fl_X2_26 : xv_FL RX2 26 2 4 false := ⟨xv_ci2, by decide, xv_tbi (xv_t1 (i := 101) rfl) rfl, rfl⟩
theorem fl_X2_29 : xv_FL RX2 29 2 5 false := ⟨xv_ci2, by decide, xv_tbi (xv_t1 (i := 103) rfl) rfl, rfl⟩
theorem fl_X2_32 : xv_FL RX2 32 2 6 false := ⟨xv_ci2, by decide, xv_tbi (xv_t1 (i := 105) rfl) rfl, rfl⟩
theorem fl_X2_35 : xv_FL RX2 35 2 7 true := ⟨xv_ci2, by decide, xv_tbi (xv_t1 (i := 107) rfl) rfl, rfl⟩
theorem fl_X2_38 : xv_FL RX2 38 2 8 true := ⟨xv_ci2, by decide, xv_tbi (xv_t1 (i := 109) rfl) rfl, rfl⟩
theorem fl_X2_41 : xv_FL RX2 41 2 9 true := ⟨xv_ci2, by decide, xv_tbi (xv_t1 (i := 111) rfl) rfl, rfl⟩
theorem fl_X2_44 : xv_FL RX2 44 2 10 true := ⟨xv_ci2, by decide, xv_tbi (xv_t1 (i := 113) rfl) rfl, rfl⟩
theorem fl_X2_47 : xv_FL RX2 47 2 11 true := ⟨xv_ci2, by decide, xv_tbi (xv_t1 (i := 114) rfl) rfl, rfl⟩
theorem fl_X3_9 : xv_FL RX3 9 3 0 true := ⟨xv_ci3, by decide, xv_tbi (xv_t1 (i := 79) rfl) rfl, rfl⟩
theorem fl_X3_15 : xv_FL RX3 15 3 1 true := ⟨xv_ci3, by decide, xv_tbi (xv_t1 (i := 80) rfl) rfl, rfl⟩
theorem fl_X5_9 : xv_FL RX5 9 5 0 false := ⟨xv_ci5, by decide, xv_tbi (xv_t1 (i := 30) rfl) rfl, rfl⟩
theorem fl_X5_15 : xv_FL RX5 15 5 1 false := ⟨xv_ci5, by decide, xv_tbi (xv_t1 (i := 32) rfl) rfl, rfl⟩
theorem fl_X5_18 : xv_FL RX5 18 5 2 false := ⟨xv_ci5, by decide, xv_tbi (xv_t1 (i := 34) rfl) rfl, rfl⟩
theorem fl_X5_21 : xv_FL RX5 21 5 3 true := ⟨xv_ci5, by decide, xv_tbi (xv_t1 (i := 36) rfl) rfl, rfl⟩
theorem fl_X5_25 : xv_FL RX5 25 5 4 true := ⟨xv_ci5, by decide, xv_tbi (xv_t1 (i := 38) rfl) rfl, rfl⟩
theorem fl_X5_28 : xv_FL RX5 28 5 5 true := ⟨xv_ci5, by decide, xv_tbi (xv_t1 (i := 40) rfl) rfl, rfl⟩
theorem fl_X5_31 : xv_FL RX5 31 5 6 true := ⟨xv_ci5, by decide, xv_tbi (xv_t1 (i := 42) rfl) rfl, rfl⟩
theorem fl_X5_35 : xv_FL RX5 35 5 7 true := ⟨xv_ci5, by decide, xv_tbi (xv_t1 (i := 44) rfl) rfl, rfl⟩
theorem fl_X5_38 : xv_FL RX5 38 5 8 true := ⟨xv_ci5, by decide, xv_tbi (xv_t1 (i := 45) rfl) rfl, rfl⟩
theorem fl_X5_41 : xv_FL RX5 41 5 9 true := ⟨xv_ci5, by decide, xv_tbi (xv_t1 (i := 46) rfl) rfl, rfl⟩
theorem fl_X5_44 : xv_FL RX5 44 5 10 true := ⟨xv_ci5, by decide, xv_tbi (xv_t1 (i := 47) rfl) rfl, rfl⟩
theorem fl_X6_9 : xv_FL RX6 9 6 0 false := ⟨xv_ci6, by decide, xv_tbi (xv_t1 (i := 183) rfl) rfl, rfl⟩
theorem fl_X6_15 : xv_FL RX6 15 6 1 false := ⟨xv_ci6, by decide, xv_tbi (xv_t1 (i := 185) rfl) rfl, rfl⟩
theorem fl_X6_18 : xv_FL RX6 18 6 2 false := ⟨xv_ci6, by decide, xv_tbi (xv_t1 (i := 187) rfl) rfl, rfl⟩
theorem fl_X6_22 : xv_FL RX6 22 6 3 false := ⟨xv_ci6, by decide, xv_tbi (xv_t1 (i := 189) rfl) rfl, rfl⟩
theorem fl_X6_25 : xv_FL RX6 25 6 4 true := ⟨xv_ci6, by decide, xv_tbi (xv_t1 (i := 191) rfl) rfl, rfl⟩
theorem fl_X6_29 : xv_FL RX6 29 6 5 false := ⟨xv_ci6, by decide, xv_tbi (xv_t1 (i := 193) rfl) rfl, rfl⟩
theorem fl_X6_33 : xv_FL RX6 33 6 6 true := ⟨xv_ci6, by decide, xv_tbi (xv_t1 (i := 194) rfl) rfl, rfl⟩
theorem fl_X6_37 : xv_FL RX6 37 6 7 true := ⟨xv_ci6, by decide, xv_tbi (xv_t1 (i := 195) rfl) rfl, rfl⟩
theorem fl_X6_40 : xv_FL RX6 40 6 8 true := ⟨xv_ci6, by decide, xv_tbi (xv_t1 (i := 196) rfl) rfl, rfl⟩
theorem fl_X10_10 : xv_FL RX10 10 10 0 true := ⟨xv_ci10, by decide, xv_tbi (xv_t2 (i := 58) rfl) rfl, rfl⟩
theorem fl_X10_19 : xv_FL RX10 19 10 1 true := ⟨xv_ci10, by decide, xv_tbi (xv_t2 (i := 59) rfl) rfl, rfl⟩
theorem fl_X10_26 : xv_FL RX10 26 10 2 true := ⟨xv_ci10, by decide, xv_tbi (xv_t2 (i := 60) rfl) rfl, rfl⟩
theorem fl_X10_33 : xv_FL RX10 33 10 3 true := ⟨xv_ci10, by decide, xv_tbi (xv_t2 (i := 61) rfl) rfl, rfl⟩
theorem fl_X10_40 : xv_FL RX10 40 10 4 true := ⟨xv_ci10, by decide, xv_tbi (xv_t2 (i := 62) rfl) rfl, rfl⟩
theorem fl_X10_47 : xv_FL RX10 47 10 5 true := ⟨xv_ci10, by decide, xv_tbi (xv_t2 (i := 63) rfl) rfl, rfl⟩
theorem fl_X10_56 : xv_FL RX10 56 5 0 false := ⟨xv_ci5, by decide, xv_tbi (xv_t1 (i := 31) rfl) rfl, rfl⟩
theorem fl_X10_154 : xv_FL RX10 154 2 3 false := ⟨xv_ci2, by decide, xv_tbi (xv_t1 (i := 100) rfl) rfl, rfl⟩
theorem fl_X10_124 : xv_FL RX10 124 1 1 false := ⟨xv_ci1, by decide, xv_tbi (xv_t1 (i := 151) rfl) rfl, rfl⟩
theorem fl_X10_60 : xv_FL RX10 60 5 1 false := ⟨xv_ci5, by decide, xv_tbi (xv_t1 (i := 33) rfl) rfl, rfl⟩
theorem fl_X10_76 : xv_FL RX10 76 5 3 true := ⟨xv_ci5, by decide, xv_tbi (xv_t1 (i := 37) rfl) rfl, rfl⟩
theorem fl_X10_80 : xv_FL RX10 80 5 4 true := ⟨xv_ci5, by decide, xv_tbi (xv_t1 (i := 39) rfl) rfl, rfl⟩
theorem fl_X10_83 : xv_FL RX10 83 5 5 true := ⟨xv_ci5, by decide, xv_tbi (xv_t1 (i := 41) rfl) rfl, rfl⟩
theorem fl_X10_86 : xv_FL RX10 86 5 6 true := ⟨xv_ci5, by decide, xv_tbi (xv_t1 (i := 43) rfl) rfl, rfl⟩
theorem fl_X10_91 : xv_FL RX10 91 5 2 false := ⟨xv_ci5, by decide, xv_tbi (xv_t1 (i := 35) rfl) rfl, rfl⟩
theorem fl_X10_136 : xv_FL RX10 136 3 1 true := ⟨xv_ci3, by decide, xv_tbi (xv_t1 (i := 81) rfl) rfl, rfl⟩
theorem fl_X10_148 : xv_FL RX10 148 2 0 true := ⟨xv_ci2, by decide, xv_tbi (xv_t1 (i := 94) rfl) rfl, rfl⟩
theorem fl_X10_151 : xv_FL RX10 151 2 1 true := ⟨xv_ci2, by decide, xv_tbi (xv_t1 (i := 96) rfl) rfl, rfl⟩
theorem fl_X10_155 : xv_FL RX10 155 2 2 false := ⟨xv_ci2, by decide, xv_tbi (xv_t1 (i := 98) rfl) rfl, rfl⟩
theorem fl_X10_323 : xv_FL RX10 323 2 4 false := ⟨xv_ci2, by decide, xv_tbi (xv_t1 (i := 102) rfl) rfl, rfl⟩
theorem fl_X10_161 : xv_FL RX10 161 2 5 false := ⟨xv_ci2, by decide, xv_tbi (xv_t1 (i := 104) rfl) rfl, rfl⟩
theorem fl_X10_164 : xv_FL RX10 164 2 6 false := ⟨xv_ci2, by decide, xv_tbi (xv_t1 (i := 106) rfl) rfl, rfl⟩
theorem fl_X10_167 : xv_FL RX10 167 2 7 true := ⟨xv_ci2, by decide, xv_tbi (xv_t1 (i := 108) rfl) rfl, rfl⟩
theorem fl_X10_170 : xv_FL RX10 170 2 8 true := ⟨xv_ci2, by decide, xv_tbi (xv_t1 (i := 110) rfl) rfl, rfl⟩
theorem fl_X10_173 : xv_FL RX10 173 2 9 true := ⟨xv_ci2, by decide, xv_tbi (xv_t1 (i := 112) rfl) rfl, rfl⟩
theorem fl_X10_179 : xv_FL RX10 179 1 0 true := ⟨xv_ci1, by decide, xv_tbi (xv_t1 (i := 149) rfl) rfl, rfl⟩
theorem fl_X10_185 : xv_FL RX10 185 1 2 false := ⟨xv_ci1, by decide, xv_tbi (xv_t1 (i := 153) rfl) rfl, rfl⟩
theorem fl_X10_188 : xv_FL RX10 188 1 3 false := ⟨xv_ci1, by decide, xv_tbi (xv_t1 (i := 155) rfl) rfl, rfl⟩
theorem fl_X10_194 : xv_FL RX10 194 6 0 false := ⟨xv_ci6, by decide, xv_tbi (xv_t1 (i := 184) rfl) rfl, rfl⟩
theorem fl_X10_201 : xv_FL RX10 201 6 1 false := ⟨xv_ci6, by decide, xv_tbi (xv_t1 (i := 186) rfl) rfl, rfl⟩
theorem fl_X10_204 : xv_FL RX10 204 6 2 false := ⟨xv_ci6, by decide, xv_tbi (xv_t1 (i := 188) rfl) rfl, rfl⟩
theorem fl_X10_217 : xv_FL RX10 217 6 3 false := ⟨xv_ci6, by decide, xv_tbi (xv_t1 (i := 190) rfl) rfl, rfl⟩
theorem fl_X10_218 : xv_FL RX10 218 6 4 true := ⟨xv_ci6, by decide, xv_tbi (xv_t1 (i := 192) rfl) rfl, rfl⟩
theorem fl_X10_221 : xv_FL RX10 221 0 0 false := ⟨xv_ci0, by decide, xv_tbi (xv_t2 (i := 34) rfl) rfl, rfl⟩
theorem fl_X10_228 : xv_FL RX10 228 0 1 false := ⟨xv_ci0, by decide, xv_tbi (xv_t2 (i := 36) rfl) rfl, rfl⟩
theorem fl_X10_247 : xv_FL RX10 247 4 1 true := ⟨xv_ci4, by decide, xv_tbi (xv_t3 (i := 197) rfl) rfl, rfl⟩
theorem fl_X10_251 : xv_FL RX10 251 7 4 false := ⟨xv_ci7, by decide, xv_tbi (xv_t2 (i := 2) rfl) rfl, rfl⟩
theorem fl_X10_274 : xv_FL RX10 274 0 2 false := ⟨xv_ci0, by decide, xv_tbi (xv_t2 (i := 38) rfl) rfl, rfl⟩
theorem fl_X10_290 : xv_FL RX10 290 8 1 false := ⟨xv_ci8, by decide, xv_tbi (xv_t4 (i := 45) rfl) rfl, rfl⟩
theorem fl_X10_292 : xv_FL RX10 292 8 2 false := ⟨xv_ci8, by decide, xv_tbi (xv_t4 (i := 48) rfl) rfl, rfl⟩
theorem fl_X10_308 : xv_FL RX10 308 7 0 false := ⟨xv_ci7, by decide, xv_tbi (xv_t1 (i := 234) rfl) rfl, rfl⟩
theorem fl_X11_7 : xv_FL RX11 7 11 0 false := ⟨xv_ci11, by decide, xv_tbi (xv_t4 (i := 214) rfl) rfl, rfl⟩
theorem fl_X11_13 : xv_FL RX11 13 11 2 true := ⟨xv_ci11, by decide, xv_tbi (xv_t4 (i := 216) rfl) rfl, rfl⟩
theorem fl_X11_17 : xv_FL RX11 17 11 3 true := ⟨xv_ci11, by decide, xv_tbi (xv_t4 (i := 217) rfl) rfl, rfl⟩
theorem fl_X11_20 : xv_FL RX11 20 11 4 true := ⟨xv_ci11, by decide, xv_tbi (xv_t4 (i := 218) rfl) rfl, rfl⟩
theorem fl_X11_23 : xv_FL RX11 23 11 5 true := ⟨xv_ci11, by decide, xv_tbi (xv_t4 (i := 219) rfl) rfl, rfl⟩
theorem fl_X11_27 : xv_FL RX11 27 11 7 true := ⟨xv_ci11, by decide, xv_tbi (xv_t4 (i := 221) rfl) rfl, rfl⟩
theorem fl_X11_30 : xv_FL RX11 30 11 8 true := ⟨xv_ci11, by decide, xv_tbi (xv_t4 (i := 222) rfl) rfl, rfl⟩
theorem fl_X11_33 : xv_FL RX11 33 11 9 true := ⟨xv_ci11, by decide, xv_tbi (xv_t4 (i := 223) rfl) rfl, rfl⟩
theorem fl_X11_36 : xv_FL RX11 36 11 10 true := ⟨xv_ci11, by decide, xv_tbi (xv_t4 (i := 224) rfl) rfl, rfl⟩
theorem fl_X11_39 : xv_FL RX11 39 11 11 true := ⟨xv_ci11, by decide, xv_tbi (xv_t4 (i := 225) rfl) rfl, rfl⟩
theorem fl_X11_42 : xv_FL RX11 42 11 12 true := ⟨xv_ci11, by decide, xv_tbi (xv_t4 (i := 226) rfl) rfl, rfl⟩
theorem fl_X11_45 : xv_FL RX11 45 11 13 true := ⟨xv_ci11, by decide, xv_tbi (xv_t4 (i := 227) rfl) rfl, rfl⟩
theorem fl_X11_48 : xv_FL RX11 48 11 14 true := ⟨xv_ci11, by decide, xv_tbi (xv_t4 (i := 228) rfl) rfl, rfl⟩
theorem fl_X11_51 : xv_FL RX11 51 11 15 false := ⟨xv_ci11, by decide, xv_tbi (xv_t4 (i := 229) rfl) rfl, rfl⟩
theorem fl_X11_54 : xv_FL RX11 54 11 16 true := ⟨xv_ci11, by decide, xv_tbi (xv_t4 (i := 230) rfl) rfl, rfl⟩
theorem fl_X11_57 : xv_FL RX11 57 11 17 true := ⟨xv_ci11, by decide, xv_tbi (xv_t4 (i := 231) rfl) rfl, rfl⟩
theorem fl_X11_60 : xv_FL RX11 60 11 18 true := ⟨xv_ci11, by decide, xv_tbi (xv_t4 (i := 232) rfl) rfl, rfl⟩
theorem fl_X11_63 : xv_FL RX11 63 11 19 true := ⟨xv_ci11, by decide, xv_tbi (xv_t4 (i := 233) rfl) rfl, rfl⟩
theorem fl_X11_66 : xv_FL RX11 66 11 20 true := ⟨xv_ci11, by decide, xv_tbi (xv_t4 (i := 234) rfl) rfl, rfl⟩
theorem fl_X11_69 : xv_FL RX11 69 11 22 true := ⟨xv_ci11, by decide, xv_tbi (xv_t4 (i := 236) rfl) rfl, rfl⟩
theorem fl_X11_72 : xv_FL RX11 72 11 23 true := ⟨xv_ci11, by decide, xv_tbi (xv_t4 (i := 237) rfl) rfl, rfl⟩
theorem fl_X11_75 : xv_FL RX11 75 11 25 true := ⟨xv_ci11, by decide, xv_tbi (xv_t4 (i := 239) rfl) rfl, rfl⟩
theorem fl_X11_78 : xv_FL RX11 78 11 26 true := ⟨xv_ci11, by decide, xv_tbi (xv_t5 (i := 0) rfl) rfl, rfl⟩
theorem fl_X11_81 : xv_FL RX11 81 11 27 false := ⟨xv_ci11, by decide, xv_tbi (xv_t5 (i := 1) rfl) rfl, rfl⟩
theorem fl_X11_84 : xv_FL RX11 84 11 30 true := ⟨xv_ci11, by decide, xv_tbi (xv_t5 (i := 4) rfl) rfl, rfl⟩
theorem fl_X11_87 : xv_FL RX11 87 11 31 true := ⟨xv_ci11, by decide, xv_tbi (xv_t5 (i := 5) rfl) rfl, rfl⟩
theorem fl_X11_90 : xv_FL RX11 90 11 32 true := ⟨xv_ci11, by decide, xv_tbi (xv_t5 (i := 6) rfl) rfl, rfl⟩
theorem fl_X11_93 : xv_FL RX11 93 11 33 true := ⟨xv_ci11, by decide, xv_tbi (xv_t5 (i := 7) rfl) rfl, rfl⟩
theorem fl_X11_96 : xv_FL RX11 96 11 34 true := ⟨xv_ci11, by decide, xv_tbi (xv_t5 (i := 8) rfl) rfl, rfl⟩
theorem fl_X11_100 : xv_FL RX11 100 11 35 true := ⟨xv_ci11, by decide, xv_tbi (xv_t5 (i := 9) rfl) rfl, rfl⟩
theorem fl_X11_103 : xv_FL RX11 103 11 36 true := ⟨xv_ci11, by decide, xv_tbi (xv_t5 (i := 10) rfl) rfl, rfl⟩
theorem fl_X11_106 : xv_FL RX11 106 11 40 true := ⟨xv_ci11, by decide, xv_tbi (xv_t5 (i := 14) rfl) rfl, rfl⟩
theorem fl_X11_109 : xv_FL RX11 109 11 41 true := ⟨xv_ci11, by decide, xv_tbi (xv_t5 (i := 15) rfl) rfl, rfl⟩
theorem fl_X11_112 : xv_FL RX11 112 11 42 true := ⟨xv_ci11, by decide, xv_tbi (xv_t5 (i := 16) rfl) rfl, rfl⟩
theorem fl_X11_115 : xv_FL RX11 115 11 45 true := ⟨xv_ci11, by decide, xv_tbi (xv_t5 (i := 19) rfl) rfl, rfl⟩
theorem fl_X11_118 : xv_FL RX11 118 11 47 true := ⟨xv_ci11, by decide, xv_tbi (xv_t5 (i := 21) rfl) rfl, rfl⟩
theorem fl_X11_121 : xv_FL RX11 121 11 48 true := ⟨xv_ci11, by decide, xv_tbi (xv_t5 (i := 22) rfl) rfl, rfl⟩
theorem fl_X11_135 : xv_FL RX11 135 11 1 false := ⟨xv_ci11, by decide, xv_tbi (xv_t4 (i := 215) rfl) rfl, rfl⟩
theorem fl_X11_145 : xv_FL RX11 145 11 6 false := ⟨xv_ci11, by decide, xv_tbi (xv_t4 (i := 220) rfl) rfl, rfl⟩
theorem fl_X11_190 : xv_FL RX11 190 11 21 false := ⟨xv_ci11, by decide, xv_tbi (xv_t4 (i := 235) rfl) rfl, rfl⟩
theorem fl_X11_218 : xv_FL RX11 218 11 24 false := ⟨xv_ci11, by decide, xv_tbi (xv_t4 (i := 238) rfl) rfl, rfl⟩
theorem fl_X11_237 : xv_FL RX11 237 11 29 false := ⟨xv_ci11, by decide, xv_tbi (xv_t5 (i := 3) rfl) rfl, rfl⟩
theorem fl_X11_240 : xv_FL RX11 240 11 28 false := ⟨xv_ci11, by decide, xv_tbi (xv_t5 (i := 2) rfl) rfl, rfl⟩
theorem fl_X11_252 : xv_FL RX11 252 11 37 false := ⟨xv_ci11, by decide, xv_tbi (xv_t5 (i := 11) rfl) rfl, rfl⟩
theorem fl_X11_258 : xv_FL RX11 258 11 38 false := ⟨xv_ci11, by decide, xv_tbi (xv_t5 (i := 12) rfl) rfl, rfl⟩
theorem fl_X11_276 : xv_FL RX11 276 11 39 false := ⟨xv_ci11, by decide, xv_tbi (xv_t5 (i := 13) rfl) rfl, rfl⟩
theorem fl_X11_286 : xv_FL RX11 286 11 43 false := ⟨xv_ci11, by decide, xv_tbi (xv_t5 (i := 17) rfl) rfl, rfl⟩
theorem fl_X11_301 : xv_FL RX11 301 11 46 false := ⟨xv_ci11, by decide, xv_tbi (xv_t5 (i := 20) rfl) rfl, rfl⟩
theorem fl_X11_304 : xv_FL RX11 304 11 44 false := ⟨xv_ci11, by decide, xv_tbi (xv_t5 (i := 18) rfl) rfl, rfl⟩
theorem ol_X0_3 : Cond.methodLink RX0 3 Lib.objectInit ∈ xv_tb := xv_tbi (xv_t1 (i := 221) rfl) rfl
theorem cl_X0_35 : xv_CNn RX0 35 0 "BoxcarHouses" mX7_init := ⟨cb_X7_init, by decide +kernel, xv_t1 (i := 228) rfl, xv_tbi (xv_t1 (i := 229) rfl) rfl, rfl, rfl⟩
theorem cl_X0_42 : xv_CNn RX0 42 0 "BoxcarHouses" mX9_init := ⟨cb_X9_init, by decide +kernel, xv_t2 (i := 16) rfl, xv_tbi (xv_t2 (i := 17) rfl) rfl, rfl, rfl⟩
theorem cl_X0_47 : xv_CIn RX0 47 4 mX4_init := ⟨cb_X4_init, by decide +kernel, xv_tbi (xv_t3 (i := 187) rfl) rfl, xv_tbi (xv_t3 (i := 188) rfl) rfl, rfl, rfl⟩
theorem cl_X0_50 : xv_CIn RX0 50 1 mX8_init := ⟨cb_X8_init, by decide +kernel, xv_tbi (xv_t4 (i := 38) rfl) rfl, xv_tbi (xv_t4 (i := 39) rfl) rfl, rfl, rfl⟩
theorem cl_X0_53 : xv_CV RX0 53 0 mX4_isOpen := ⟨cb_X4_isOpen, by decide +kernel, xv_tbi (xv_t3 (i := 157) rfl) rfl, xv_tbi (xv_t3 (i := 158) rfl) rfl, xv_tbi (xv_t3 (i := 159) rfl) rfl⟩
theorem cl_X0_57 : xv_CV RX0 57 1 mX4_grow := ⟨cb_X4_grow, by decide +kernel, xv_tbi (xv_t3 (i := 161) rfl) rfl, xv_tbi (xv_t3 (i := 162) rfl) rfl, xv_tbi (xv_t3 (i := 163) rfl) rfl⟩
theorem cl_X0_73 : xv_CV RX0 73 3 mX0_allows := ⟨cb_X0_allows, by decide +kernel, xv_tbi (xv_t4 (i := 127) rfl) rfl, xv_tbi (xv_t4 (i := 129) rfl) rfl, xv_tbi (xv_p2 (i := 9) rfl) rfl⟩
theorem cl_X0_77 : xv_CV RX0 77 1 mX7_copyFrom := ⟨cb_X7_copyFrom, by decide +kernel, xv_tbi (xv_t4 (i := 194) rfl) rfl, xv_tbi (xv_t4 (i := 195) rfl) rfl, xv_tbi (xv_t4 (i := 196) rfl) rfl⟩
theorem ml_X0_81 : Cond.methodLink RX0 81 yJ9_min_7cf53 ∈ xv_tb := xv_tbi (xv_t4 (i := 198) rfl) rfl
theorem cl_X0_87 : xv_CV RX0 87 0 mX7_growByMonth := ⟨cb_X7_growByMonth, by decide +kernel, xv_tbi (xv_t4 (i := 199) rfl) rfl, xv_tbi (xv_t3 (i := 166) rfl) rfl, xv_tbi (xv_t3 (i := 167) rfl) rfl⟩
theorem cl_X0_90 : xv_CV RX0 90 1 mX0_termIn := ⟨cb_X0_termIn, by decide +kernel, xv_tbi (xv_t4 (i := 131) rfl) rfl, xv_tbi (xv_t4 (i := 115) rfl) rfl, xv_tbi (xv_t4 (i := 116) rfl) rfl⟩
theorem cl_X0_94 : xv_CV RX0 94 1 mX0_termOf := ⟨cb_X0_termOf, by decide +kernel, xv_tbi (xv_t4 (i := 132) rfl) rfl, xv_tbi (xv_t4 (i := 71) rfl) rfl, xv_tbi (xv_t4 (i := 72) rfl) rfl⟩
theorem cl_X0_98 : xv_CV RX0 98 3 mX8_saysOf := ⟨cb_X8_saysOf, by decide +kernel, xv_tbi (xv_t4 (i := 133) rfl) rfl, xv_tbi (xv_t4 (i := 134) rfl) rfl, xv_tbi (xv_t4 (i := 135) rfl) rfl⟩
theorem ol_X1_3 : Cond.methodLink RX1 3 Lib.objectInit ∈ xv_tb := xv_tbi (xv_t1 (i := 146) rfl) rfl
theorem cl_X1_39 : xv_CV RX1 39 3 mX1_placeFrom := ⟨cb_X1_placeFrom, by decide +kernel, xv_tbi (xv_t3 (i := 65) rfl) rfl, xv_tbi (xv_t3 (i := 67) rfl) rfl, xv_tbi (xv_p1 (i := 15) rfl) rfl⟩
theorem cl_X1_43 : xv_CV RX1 43 3 mX1_turnedFor := ⟨cb_X1_turnedFor, by decide +kernel, xv_tbi (xv_t3 (i := 69) rfl) rfl, xv_tbi (xv_t3 (i := 71) rfl) rfl, xv_tbi (xv_p2 (i := 0) rfl) rfl⟩
theorem cl_X1_47 : xv_CS RX1 47 1 mJ6_bitCount_0f7a4 := ⟨cb_J6_bitCount_0f7a4, by decide +kernel, xv_tbi (xv_t3 (i := 73) rfl) rfl, xv_tbi (xv_t2 (i := 211) rfl) rfl⟩
theorem ol_X2_3 : Cond.methodLink RX2 3 Lib.objectInit ∈ xv_tb := xv_tbi (xv_t1 (i := 92) rfl) rfl
theorem cl_X2_51 : xv_CV RX2 51 1 mX2_cheapestSort := ⟨cb_X2_cheapestSort, by decide +kernel, xv_tbi (xv_t2 (i := 236) rfl) rfl, xv_tbi (xv_t2 (i := 238) rfl) rfl, xv_tbi (xv_p1 (i := 8) rfl) rfl⟩
theorem cl_X2_55 : xv_CV RX2 55 2 mX2_weighBoards := ⟨cb_X2_weighBoards, by decide +kernel, xv_tbi (xv_t3 (i := 0) rfl) rfl, xv_tbi (xv_t3 (i := 2) rfl) rfl, xv_tbi (xv_p1 (i := 9) rfl) rfl⟩
theorem cl_X2_59 : xv_CV RX2 59 1 mX2_bestNumber := ⟨cb_X2_bestNumber, by decide +kernel, xv_tbi (xv_t3 (i := 4) rfl) rfl, xv_tbi (xv_t3 (i := 6) rfl) rfl, xv_tbi (xv_p1 (i := 10) rfl) rfl⟩
theorem cl_X2_63 : xv_CV RX2 63 1 mX2_readDigits := ⟨cb_X2_readDigits, by decide +kernel, xv_tbi (xv_t3 (i := 17) rfl) rfl, xv_tbi (xv_t3 (i := 19) rfl) rfl, xv_tbi (xv_p1 (i := 12) rfl) rfl⟩
theorem cl_X2_67 : xv_CV RX2 67 2 mX2_describeBoards := ⟨cb_X2_describeBoards, by decide +kernel, xv_tbi (xv_t3 (i := 21) rfl) rfl, xv_tbi (xv_t3 (i := 23) rfl) rfl, xv_tbi (xv_p1 (i := 13) rfl) rfl⟩
theorem cl_X2_71 : xv_CV RX2 71 1 mX2_leastNumber := ⟨cb_X2_leastNumber, by decide +kernel, xv_tbi (xv_t3 (i := 8) rfl) rfl, xv_tbi (xv_t3 (i := 10) rfl) rfl, xv_tbi (xv_p1 (i := 11) rfl) rfl⟩
theorem cl_X2_74 : xv_CS RX2 74 1 mX2_oneForEach := ⟨cb_X2_oneForEach, by decide +kernel, xv_tbi (xv_t3 (i := 13) rfl) rfl, xv_tbi (xv_t3 (i := 14) rfl) rfl⟩
theorem ml_X2_81 : Cond.methodLink RX2 81 yJ9_max_7cf53 ∈ xv_tb := xv_tbi (xv_t3 (i := 25) rfl) rfl
theorem ol_X3_3 : Cond.methodLink RX3 3 Lib.objectInit ∈ xv_tb := xv_tbi (xv_t1 (i := 78) rfl) rfl
theorem cl_X3_18 : xv_CV RX3 18 1 mX3_allBelow := ⟨cb_X3_allBelow, by decide +kernel, xv_tbi (xv_t2 (i := 185) rfl) rfl, xv_tbi (xv_t2 (i := 186) rfl) rfl, xv_tbi (xv_t2 (i := 187) rfl) rfl⟩
theorem cl_X3_22 : xv_CV RX3 22 2 mX3_firstReady := ⟨cb_X3_firstReady, by decide +kernel, xv_tbi (xv_t2 (i := 201) rfl) rfl, xv_tbi (xv_t2 (i := 203) rfl) rfl, xv_tbi (xv_p1 (i := 6) rfl) rfl⟩
theorem ol_X4_3 : Cond.methodLink RX4 3 Lib.objectInit ∈ xv_tb := xv_tbi (xv_t3 (i := 190) rfl) rfl
theorem cl_X4_11 : xv_CNn RX4 11 0 "BoxcarHouses" mX7_init := ⟨cb_X7_init, by decide +kernel, xv_t3 (i := 192) rfl, xv_tbi (xv_t1 (i := 229) rfl) rfl, rfl, rfl⟩
theorem cl_X4_45 : xv_CV RX4 45 0 mX7_growByMonth := ⟨cb_X7_growByMonth, by decide +kernel, xv_tbi (xv_t3 (i := 165) rfl) rfl, xv_tbi (xv_t3 (i := 166) rfl) rfl, xv_tbi (xv_t3 (i := 167) rfl) rfl⟩
theorem cl_X4_48 : xv_CV RX4 48 1 mX4_writeDown := ⟨cb_X4_writeDown, by decide +kernel, xv_tbi (xv_t3 (i := 173) rfl) rfl, xv_tbi (xv_t3 (i := 175) rfl) rfl, xv_tbi (xv_p2 (i := 3) rfl) rfl⟩
theorem ml_X4_52 : Cond.methodLink RX4 52 yJ9_min_f86c9 ∈ xv_tb := xv_tbi (xv_t3 (i := 228) rfl) rfl
theorem ml_X4_61 : Cond.methodLink RX4 61 yJ9_max_f86c9 ∈ xv_tb := xv_tbi (xv_t3 (i := 229) rfl) rfl
theorem cl_X4_64 : xv_CV RX4 64 2 mX4_close := ⟨cb_X4_close, by decide +kernel, xv_tbi (xv_t3 (i := 232) rfl) rfl, xv_tbi (xv_t3 (i := 233) rfl) rfl, xv_tbi (xv_t3 (i := 234) rfl) rfl⟩
theorem ml_X4_68 : Cond.methodLink RX4 68 yJ9_min_7cf53 ∈ xv_tb := xv_tbi (xv_t4 (i := 10) rfl) rfl
theorem ol_X5_3 : Cond.methodLink RX5 3 Lib.objectInit ∈ xv_tb := xv_tbi (xv_t1 (i := 29) rfl) rfl
theorem cl_X5_47 : xv_CV RX5 47 2 mX5_endOf := ⟨cb_X5_endOf, by decide +kernel, xv_tbi (xv_t2 (i := 124) rfl) rfl, xv_tbi (xv_t2 (i := 126) rfl) rfl, xv_tbi (xv_p1 (i := 1) rfl) rfl⟩
theorem cl_X5_51 : xv_CV RX5 51 2 mX5_isAcross := ⟨cb_X5_isAcross, by decide +kernel, xv_tbi (xv_t2 (i := 152) rfl) rfl, xv_tbi (xv_t2 (i := 154) rfl) rfl, xv_tbi (xv_p1 (i := 2) rfl) rfl⟩
theorem cl_X5_55 : xv_CV RX5 55 1 mX5_holds := ⟨cb_X5_holds, by decide +kernel, xv_tbi (xv_t2 (i := 156) rfl) rfl, xv_tbi (xv_t2 (i := 121) rfl) rfl, xv_tbi (xv_t2 (i := 122) rfl) rfl⟩
theorem cl_X5_59 : xv_CV RX5 59 3 mX5_wouldHold := ⟨cb_X5_wouldHold, by decide +kernel, xv_tbi (xv_t2 (i := 157) rfl) rfl, xv_tbi (xv_t2 (i := 159) rfl) rfl, xv_tbi (xv_p1 (i := 3) rfl) rfl⟩
theorem cl_X5_63 : xv_CV RX5 63 2 mX5_wouldBeTooMuch := ⟨cb_X5_wouldBeTooMuch, by decide +kernel, xv_tbi (xv_t2 (i := 165) rfl) rfl, xv_tbi (xv_t2 (i := 167) rfl) rfl, xv_tbi (xv_p1 (i := 5) rfl) rfl⟩
theorem cl_X5_66 : xv_CV RX5 66 4 mX5_endAfter := ⟨cb_X5_endAfter, by decide +kernel, xv_tbi (xv_t2 (i := 161) rfl) rfl, xv_tbi (xv_t2 (i := 163) rfl) rfl, xv_tbi (xv_p1 (i := 4) rfl) rfl⟩
theorem ol_X6_3 : Cond.methodLink RX6 3 Lib.objectInit ∈ xv_tb := xv_tbi (xv_t1 (i := 182) rfl) rfl
theorem cl_X6_43 : xv_CS RX6 43 1 mJ13_bitCount_95d88 := ⟨cb_J13_bitCount_95d88, by decide +kernel, xv_tbi (xv_t3 (i := 106) rfl) rfl, xv_tbi (xv_t3 (i := 107) rfl) rfl⟩
theorem cl_X6_49 : xv_CV RX6 49 1 mX6_badWith := ⟨cb_X6_badWith, by decide +kernel, xv_tbi (xv_t3 (i := 124) rfl) rfl, xv_tbi (xv_t3 (i := 103) rfl) rfl, xv_tbi (xv_t3 (i := 104) rfl) rfl⟩
theorem cl_X6_53 : xv_CV RX6 53 1 mX6_allWith := ⟨cb_X6_allWith, by decide +kernel, xv_tbi (xv_t3 (i := 125) rfl) rfl, xv_tbi (xv_t3 (i := 113) rfl) rfl, xv_tbi (xv_t3 (i := 114) rfl) rfl⟩
theorem cl_X6_56 : xv_CV RX6 56 0 mX6_seekFewest := ⟨cb_X6_seekFewest, by decide +kernel, xv_tbi (xv_t3 (i := 134) rfl) rfl, xv_tbi (xv_t3 (i := 136) rfl) rfl, xv_tbi (xv_p2 (i := 1) rfl) rfl⟩
theorem cl_X6_59 : xv_CV RX6 59 1 mX6_suspects := ⟨cb_X6_suspects, by decide +kernel, xv_tbi (xv_t3 (i := 138) rfl) rfl, xv_tbi (xv_t3 (i := 121) rfl) rfl, xv_tbi (xv_t3 (i := 122) rfl) rfl⟩
theorem cl_X6_64 : xv_CV RX6 64 4 mX6_isCoveredFrom := ⟨cb_X6_isCoveredFrom, by decide +kernel, xv_tbi (xv_t3 (i := 140) rfl) rfl, xv_tbi (xv_t3 (i := 142) rfl) rfl, xv_tbi (xv_p2 (i := 2) rfl) rfl⟩
theorem ol_X7_1 : Cond.methodLink RX7 1 Lib.objectInit ∈ xv_tb := xv_tbi (xv_t1 (i := 231) rfl) rfl
theorem ml_X7_29 : Cond.methodLink RX7 29 yJ9_min_f86c9 ∈ xv_tb := xv_tbi (xv_t3 (i := 170) rfl) rfl
theorem cl_X7_35 : xv_CV RX7 35 0 mX7_partsDue := ⟨cb_X7_partsDue, by decide +kernel, xv_tbi (xv_t4 (i := 174) rfl) rfl, xv_tbi (xv_t4 (i := 26) rfl) rfl, xv_tbi (xv_t4 (i := 27) rfl) rfl⟩
theorem ol_X8_3 : Cond.methodLink RX8 3 Lib.objectInit ∈ xv_tb := xv_tbi (xv_t4 (i := 41) rfl) rfl
theorem cl_X8_33 : xv_CV RX8 33 0 mX8_findWrong := ⟨cb_X8_findWrong, by decide +kernel, xv_tbi (xv_t4 (i := 79) rfl) rfl, xv_tbi (xv_t4 (i := 81) rfl) rfl, xv_tbi (xv_p2 (i := 4) rfl) rfl⟩
theorem cl_X8_37 : xv_CV RX8 37 0 mX9_begin := ⟨cb_X9_begin, by decide +kernel, xv_tbi (xv_t4 (i := 137) rfl) rfl, xv_tbi (xv_t4 (i := 138) rfl) rfl, xv_tbi (xv_t4 (i := 139) rfl) rfl⟩
theorem cl_X8_42 : xv_CV RX8 42 0 mX9_negate := ⟨cb_X9_negate, by decide +kernel, xv_tbi (xv_t4 (i := 141) rfl) rfl, xv_tbi (xv_t4 (i := 142) rfl) rfl, xv_tbi (xv_t4 (i := 143) rfl) rfl⟩
theorem cl_X8_45 : xv_CV RX8 45 0 mX9_beginAll := ⟨cb_X9_beginAll, by decide +kernel, xv_tbi (xv_t4 (i := 145) rfl) rfl, xv_tbi (xv_t4 (i := 146) rfl) rfl, xv_tbi (xv_t4 (i := 147) rfl) rfl⟩
theorem cl_X8_48 : xv_CV RX8 48 0 mX9_enter := ⟨cb_X9_enter, by decide +kernel, xv_tbi (xv_t4 (i := 149) rfl) rfl, xv_tbi (xv_t4 (i := 150) rfl) rfl, xv_tbi (xv_t4 (i := 151) rfl) rfl⟩
theorem cl_X8_51 : xv_CV RX8 51 0 mX9_leave := ⟨cb_X9_leave, by decide +kernel, xv_tbi (xv_t4 (i := 154) rfl) rfl, xv_tbi (xv_t4 (i := 155) rfl) rfl, xv_tbi (xv_t4 (i := 156) rfl) rfl⟩
theorem cl_X8_54 : xv_CS RX8 54 1 mX8_isLetter := ⟨cb_X8_isLetter, by decide +kernel, xv_tbi (xv_t4 (i := 91) rfl) rfl, xv_tbi (xv_t4 (i := 92) rfl) rfl⟩
theorem cl_X8_58 : xv_CV RX8 58 3 mX8_compares := ⟨cb_X8_compares, by decide +kernel, xv_tbi (xv_t4 (i := 166) rfl) rfl, xv_tbi (xv_t4 (i := 168) rfl) rfl, xv_tbi (xv_p2 (i := 10) rfl) rfl⟩
theorem cl_X8_62 : xv_CV RX8 62 1 mX9_take := ⟨cb_X9_take, by decide +kernel, xv_tbi (xv_t4 (i := 178) rfl) rfl, xv_tbi (xv_t4 (i := 163) rfl) rfl, xv_tbi (xv_t4 (i := 164) rfl) rfl⟩
theorem cl_X8_66 : xv_CV RX8 66 0 mX9_isTrue := ⟨cb_X9_isTrue, by decide +kernel, xv_tbi (xv_t4 (i := 179) rfl) rfl, xv_tbi (xv_t4 (i := 159) rfl) rfl, xv_tbi (xv_t4 (i := 160) rfl) rfl⟩
theorem cl_X8_70 : xv_CV RX8 70 2 mX8_wantsAfter := ⟨cb_X8_wantsAfter, by decide +kernel, xv_tbi (xv_t4 (i := 83) rfl) rfl, xv_tbi (xv_t4 (i := 85) rfl) rfl, xv_tbi (xv_p2 (i := 5) rfl) rfl⟩
theorem cl_X8_75 : xv_CV RX8 75 1 mX8_afterStart := ⟨cb_X8_afterStart, by decide +kernel, xv_tbi (xv_t4 (i := 87) rfl) rfl, xv_tbi (xv_t4 (i := 89) rfl) rfl, xv_tbi (xv_p2 (i := 6) rfl) rfl⟩
theorem cl_X8_79 : xv_CS RX8 79 1 mX8_isDigit := ⟨cb_X8_isDigit, by decide +kernel, xv_tbi (xv_t4 (i := 94) rfl) rfl, xv_tbi (xv_t4 (i := 95) rfl) rfl⟩
theorem cl_X8_82 : xv_CV RX8 82 0 mX8_afterDigit := ⟨cb_X8_afterDigit, by decide +kernel, xv_tbi (xv_t4 (i := 97) rfl) rfl, xv_tbi (xv_t4 (i := 99) rfl) rfl, xv_tbi (xv_p2 (i := 7) rfl) rfl⟩
theorem cl_X8_85 : xv_CV RX8 85 1 mX8_afterOne := ⟨cb_X8_afterOne, by decide +kernel, xv_tbi (xv_t4 (i := 101) rfl) rfl, xv_tbi (xv_t4 (i := 103) rfl) rfl, xv_tbi (xv_p2 (i := 8) rfl) rfl⟩
theorem cl_X8_88 : xv_CV RX8 88 2 mX7_valueOf := ⟨cb_X7_valueOf, by decide +kernel, xv_tbi (xv_t4 (i := 170) rfl) rfl, xv_tbi (xv_t4 (i := 171) rfl) rfl, xv_tbi (xv_t4 (i := 172) rfl) rfl⟩
theorem cl_X8_94 : xv_CS RX8 94 1 mX8_isEndOfOne := ⟨cb_X8_isEndOfOne, by decide +kernel, xv_tbi (xv_t4 (i := 175) rfl) rfl, xv_tbi (xv_t4 (i := 176) rfl) rfl⟩
theorem ol_X9_1 : Cond.methodLink RX9 1 Lib.objectInit ∈ xv_tb := xv_tbi (xv_t2 (i := 19) rfl) rfl
theorem cl_X9_25 : xv_CV RX9 25 0 mX9_isTrue := ⟨cb_X9_isTrue, by decide +kernel, xv_tbi (xv_t4 (i := 158) rfl) rfl, xv_tbi (xv_t4 (i := 159) rfl) rfl, xv_tbi (xv_t4 (i := 160) rfl) rfl⟩
theorem cl_X9_29 : xv_CV RX9 29 1 mX9_take := ⟨cb_X9_take, by decide +kernel, xv_tbi (xv_t4 (i := 162) rfl) rfl, xv_tbi (xv_t4 (i := 163) rfl) rfl, xv_tbi (xv_t4 (i := 164) rfl) rfl⟩
theorem ol_X10_1 : Cond.methodLink RX10 1 Lib.objectInit ∈ xv_tb := xv_tbi (xv_t1 (i := 21) rfl) rfl
theorem cl_X10_9 : xv_CNn RX10 9 0 "BoxcarHouses" mX5_init := ⟨cb_X5_init, by decide +kernel, xv_t1 (i := 26) rfl, xv_tbi (xv_t1 (i := 27) rfl) rfl, rfl, rfl⟩
theorem cl_X10_18 : xv_CNn RX10 18 0 "BoxcarHouses" mX3_init := ⟨cb_X3_init, by decide +kernel, xv_t1 (i := 75) rfl, xv_tbi (xv_t1 (i := 76) rfl) rfl, rfl, rfl⟩
theorem cl_X10_25 : xv_CNn RX10 25 0 "BoxcarHouses" mX2_init := ⟨cb_X2_init, by decide +kernel, xv_t1 (i := 89) rfl, xv_tbi (xv_t1 (i := 90) rfl) rfl, rfl, rfl⟩
theorem cl_X10_32 : xv_CNn RX10 32 0 "BoxcarHouses" mX1_init := ⟨cb_X1_init, by decide +kernel, xv_t1 (i := 143) rfl, xv_tbi (xv_t1 (i := 144) rfl) rfl, rfl, rfl⟩
theorem cl_X10_39 : xv_CNn RX10 39 0 "BoxcarHouses" mX6_init := ⟨cb_X6_init, by decide +kernel, xv_t1 (i := 179) rfl, xv_tbi (xv_t1 (i := 180) rfl) rfl, rfl, rfl⟩
theorem cl_X10_46 : xv_CNn RX10 46 0 "BoxcarHouses" mX0_init := ⟨cb_X0_init, by decide +kernel, xv_t1 (i := 218) rfl, xv_tbi (xv_t1 (i := 219) rfl) rfl, rfl, rfl⟩
theorem cl_X10_51 : xv_CS RX10 51 3 mX10_isOutside := ⟨cb_X10_isOutside, by decide +kernel, xv_tbi (xv_t2 (i := 81) rfl) rfl, xv_tbi (xv_t2 (i := 82) rfl) rfl⟩
theorem cl_X10_64 : xv_CV RX10 64 0 mX10_forgetLengths := ⟨cb_X10_forgetLengths, by decide +kernel, xv_tbi (xv_t2 (i := 90) rfl) rfl, xv_tbi (xv_t2 (i := 92) rfl) rfl, xv_tbi (xv_p1 (i := 0) rfl) rfl⟩
theorem cl_X10_67 : xv_CV RX10 67 4 mX5_addPiece := ⟨cb_X5_addPiece, by decide +kernel, xv_tbi (xv_t2 (i := 94) rfl) rfl, xv_tbi (xv_t2 (i := 95) rfl) rfl, xv_tbi (xv_t2 (i := 96) rfl) rfl⟩
theorem cl_X10_71 : xv_CV RX10 71 1 mX5_has := ⟨cb_X5_has, by decide +kernel, xv_tbi (xv_t2 (i := 102) rfl) rfl, xv_tbi (xv_t2 (i := 103) rfl) rfl, xv_tbi (xv_t2 (i := 104) rfl) rfl⟩
theorem cl_X10_94 : xv_CV RX10 94 4 mX5_addMeeting := ⟨cb_X5_addMeeting, by decide +kernel, xv_tbi (xv_t2 (i := 112) rfl) rfl, xv_tbi (xv_t2 (i := 113) rfl) rfl, xv_tbi (xv_t2 (i := 114) rfl) rfl⟩
theorem cl_X10_98 : xv_CV RX10 98 1 mX5_holds := ⟨cb_X5_holds, by decide +kernel, xv_tbi (xv_t2 (i := 120) rfl) rfl, xv_tbi (xv_t2 (i := 121) rfl) rfl, xv_tbi (xv_t2 (i := 122) rfl) rfl⟩
theorem cl_X10_102 : xv_CV RX10 102 0 mX5_canTurnRound := ⟨cb_X5_canTurnRound, by decide +kernel, xv_tbi (xv_t2 (i := 133) rfl) rfl, xv_tbi (xv_t2 (i := 134) rfl) rfl, xv_tbi (xv_t2 (i := 135) rfl) rfl⟩
theorem cl_X10_106 : xv_CV RX10 106 0 mX5_turnRound := ⟨cb_X5_turnRound, by decide +kernel, xv_tbi (xv_t2 (i := 137) rfl) rfl, xv_tbi (xv_t2 (i := 138) rfl) rfl, xv_tbi (xv_t2 (i := 139) rfl) rfl⟩
theorem cl_X10_110 : xv_CS RX10 110 2 mX10_isNoStretch := ⟨cb_X10_isNoStretch, by decide +kernel, xv_tbi (xv_t2 (i := 145) rfl) rfl, xv_tbi (xv_t2 (i := 146) rfl) rfl⟩
theorem cl_X10_114 : xv_CV RX10 114 2 mX5_hindrance := ⟨cb_X5_hindrance, by decide +kernel, xv_tbi (xv_t2 (i := 148) rfl) rfl, xv_tbi (xv_t2 (i := 149) rfl) rfl, xv_tbi (xv_t2 (i := 150) rfl) rfl⟩
theorem cl_X10_118 : xv_CV RX10 118 2 mX5_pullApart := ⟨cb_X5_pullApart, by decide +kernel, xv_tbi (xv_t2 (i := 169) rfl) rfl, xv_tbi (xv_t2 (i := 170) rfl) rfl, xv_tbi (xv_t2 (i := 171) rfl) rfl⟩
