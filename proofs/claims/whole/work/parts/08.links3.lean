/-! links -/
theorem cl_X10_121 : xv_CV RX10 121 2 mX3_rests := ⟨cb_X3_rests, by decide +kernel, xv_tbi (xv_t2 (i := 181) rfl) rfl, xv_tbi (xv_t2 (i := 182) rfl) rfl, xv_tbi (xv_t2 (i := 183) rfl) rfl⟩
theorem cl_X10_128 : xv_CV RX10 128 3 mX3_put := ⟨cb_X3_put, by decide +kernel, xv_tbi (xv_t2 (i := 189) rfl) rfl, xv_tbi (xv_t2 (i := 190) rfl) rfl, xv_tbi (xv_t2 (i := 191) rfl) rfl⟩
theorem cl_X10_132 : xv_CV RX10 132 1 mX3_lineUp := ⟨cb_X3_lineUp, by decide +kernel, xv_tbi (xv_t2 (i := 197) rfl) rfl, xv_tbi (xv_t2 (i := 198) rfl) rfl, xv_tbi (xv_t2 (i := 199) rfl) rfl⟩
theorem cl_X10_139 : xv_CV RX10 139 1 mX3_allBelow := ⟨cb_X3_allBelow, by decide +kernel, xv_tbi (xv_t2 (i := 209) rfl) rfl, xv_tbi (xv_t2 (i := 186) rfl) rfl, xv_tbi (xv_t2 (i := 187) rfl) rfl⟩
theorem cl_X10_143 : xv_CS RX10 143 1 mJ6_bitCount_0f7a4 := ⟨cb_J6_bitCount_0f7a4, by decide +kernel, xv_tbi (xv_t2 (i := 210) rfl) rfl, xv_tbi (xv_t2 (i := 211) rfl) rfl⟩
theorem cl_X10_158 : xv_CV RX10 158 0 mX10_isCut := ⟨cb_X10_isCut, by decide +kernel, xv_tbi (xv_t2 (i := 228) rfl) rfl, xv_tbi (xv_t2 (i := 230) rfl) rfl, xv_tbi (xv_p1 (i := 7) rfl) rfl⟩
theorem cl_X10_176 : xv_CV RX10 176 1 mX2_shortestRest := ⟨cb_X2_shortestRest, by decide +kernel, xv_tbi (xv_t3 (i := 44) rfl) rfl, xv_tbi (xv_t3 (i := 45) rfl) rfl, xv_tbi (xv_t3 (i := 46) rfl) rfl⟩
theorem cl_X10_182 : xv_CV RX10 182 0 mX10_packIfStale := ⟨cb_X10_packIfStale, by decide +kernel, xv_tbi (xv_t3 (i := 57) rfl) rfl, xv_tbi (xv_t3 (i := 59) rfl) rfl, xv_tbi (xv_p1 (i := 14) rfl) rfl⟩
theorem cl_X10_191 : xv_CV RX10 191 1 mX1_turnedBy := ⟨cb_X1_turnedBy, by decide +kernel, xv_tbi (xv_t3 (i := 82) rfl) rfl, xv_tbi (xv_t3 (i := 83) rfl) rfl, xv_tbi (xv_t3 (i := 84) rfl) rfl⟩
theorem cl_X10_197 : xv_CV RX10 197 5 mX6_addReport := ⟨cb_X6_addReport, by decide +kernel, xv_tbi (xv_t3 (i := 90) rfl) rfl, xv_tbi (xv_t3 (i := 91) rfl) rfl, xv_tbi (xv_t3 (i := 92) rfl) rfl⟩
theorem cl_X10_205 : xv_CV RX10 205 1 mX6_badWith := ⟨cb_X6_badWith, by decide +kernel, xv_tbi (xv_t3 (i := 102) rfl) rfl, xv_tbi (xv_t3 (i := 103) rfl) rfl, xv_tbi (xv_t3 (i := 104) rfl) rfl⟩
theorem cl_X10_208 : xv_CV RX10 208 1 mX6_allWith := ⟨cb_X6_allWith, by decide +kernel, xv_tbi (xv_t3 (i := 112) rfl) rfl, xv_tbi (xv_t3 (i := 113) rfl) rfl, xv_tbi (xv_t3 (i := 114) rfl) rfl⟩
theorem cl_X10_211 : xv_CV RX10 211 1 mX6_suspects := ⟨cb_X6_suspects, by decide +kernel, xv_tbi (xv_t3 (i := 120) rfl) rfl, xv_tbi (xv_t3 (i := 121) rfl) rfl, xv_tbi (xv_t3 (i := 122) rfl) rfl⟩
theorem cl_X10_214 : xv_CV RX10 214 0 mX6_seekIfStale := ⟨cb_X6_seekIfStale, by decide +kernel, xv_tbi (xv_t3 (i := 130) rfl) rfl, xv_tbi (xv_t3 (i := 131) rfl) rfl, xv_tbi (xv_t3 (i := 132) rfl) rfl⟩
theorem cl_X10_224 : xv_CV RX10 224 0 mX0_nextMonth := ⟨cb_X0_nextMonth, by decide +kernel, xv_tbi (xv_t3 (i := 153) rfl) rfl, xv_tbi (xv_t3 (i := 154) rfl) rfl, xv_tbi (xv_t3 (i := 155) rfl) rfl⟩
theorem cl_X10_231 : xv_CV RX10 231 3 mX0_lend := ⟨cb_X0_lend, by decide +kernel, xv_tbi (xv_t3 (i := 183) rfl) rfl, xv_tbi (xv_t3 (i := 184) rfl) rfl, xv_tbi (xv_t3 (i := 185) rfl) rfl⟩
theorem cl_X10_235 : xv_CV RX10 235 1 mX0_loanOf := ⟨cb_X0_loanOf, by decide +kernel, xv_tbi (xv_t3 (i := 219) rfl) rfl, xv_tbi (xv_t3 (i := 220) rfl) rfl, xv_tbi (xv_t3 (i := 221) rfl) rfl⟩
theorem cl_X10_239 : xv_CV RX10 239 0 mX4_isOpen := ⟨cb_X4_isOpen, by decide +kernel, xv_tbi (xv_t3 (i := 223) rfl) rfl, xv_tbi (xv_t3 (i := 158) rfl) rfl, xv_tbi (xv_t3 (i := 159) rfl) rfl⟩
theorem cl_X10_244 : xv_CV RX10 244 2 mX4_payIn := ⟨cb_X4_payIn, by decide +kernel, xv_tbi (xv_t3 (i := 224) rfl) rfl, xv_tbi (xv_t3 (i := 225) rfl) rfl, xv_tbi (xv_t3 (i := 226) rfl) rfl⟩
theorem cl_X10_260 : xv_CV RX10 260 1 mX4_owedIn := ⟨cb_X4_owedIn, by decide +kernel, xv_tbi (xv_t4 (i := 6) rfl) rfl, xv_tbi (xv_t4 (i := 7) rfl) rfl, xv_tbi (xv_t4 (i := 8) rfl) rfl⟩
theorem cl_X10_264 : xv_CV RX10 264 1 mX4_dueIn := ⟨cb_X4_dueIn, by decide +kernel, xv_tbi (xv_t4 (i := 13) rfl) rfl, xv_tbi (xv_t4 (i := 14) rfl) rfl, xv_tbi (xv_t4 (i := 15) rfl) rfl⟩
theorem cl_X10_267 : xv_CV RX10 267 1 mX4_howIn := ⟨cb_X4_howIn, by decide +kernel, xv_tbi (xv_t4 (i := 17) rfl) rfl, xv_tbi (xv_t4 (i := 18) rfl) rfl, xv_tbi (xv_t4 (i := 19) rfl) rfl⟩
theorem cl_X10_270 : xv_CV RX10 270 0 mX7_partsDue := ⟨cb_X7_partsDue, by decide +kernel, xv_tbi (xv_t4 (i := 25) rfl) rfl, xv_tbi (xv_t4 (i := 26) rfl) rfl, xv_tbi (xv_t4 (i := 27) rfl) rfl⟩
theorem cl_X10_277 : xv_CV RX10 277 1 mX0_agree := ⟨cb_X0_agree, by decide +kernel, xv_tbi (xv_t4 (i := 33) rfl) rfl, xv_tbi (xv_t4 (i := 34) rfl) rfl, xv_tbi (xv_t4 (i := 35) rfl) rfl⟩
theorem cl_X10_280 : xv_CV RX10 280 1 mX0_termOf := ⟨cb_X0_termOf, by decide +kernel, xv_tbi (xv_t4 (i := 70) rfl) rfl, xv_tbi (xv_t4 (i := 71) rfl) rfl, xv_tbi (xv_t4 (i := 72) rfl) rfl⟩
theorem cl_X10_284 : xv_CV RX10 284 1 mX8_takeBytes := ⟨cb_X8_takeBytes, by decide +kernel, xv_tbi (xv_t4 (i := 74) rfl) rfl, xv_tbi (xv_t4 (i := 75) rfl) rfl, xv_tbi (xv_t4 (i := 76) rfl) rfl⟩
theorem cl_X10_295 : xv_CV RX10 295 1 mX0_termIn := ⟨cb_X0_termIn, by decide +kernel, xv_tbi (xv_t4 (i := 114) rfl) rfl, xv_tbi (xv_t4 (i := 115) rfl) rfl, xv_tbi (xv_t4 (i := 116) rfl) rfl⟩
theorem cl_X10_298 : xv_CV RX10 298 1 mX0_allowsNow := ⟨cb_X0_allowsNow, by decide +kernel, xv_tbi (xv_t4 (i := 123) rfl) rfl, xv_tbi (xv_t4 (i := 124) rfl) rfl, xv_tbi (xv_t4 (i := 125) rfl) rfl⟩
theorem cl_X10_304 : xv_CV RX10 304 2 mX4_close := ⟨cb_X4_close, by decide +kernel, xv_tbi (xv_t4 (i := 185) rfl) rfl, xv_tbi (xv_t3 (i := 233) rfl) rfl, xv_tbi (xv_t3 (i := 234) rfl) rfl⟩
theorem cl_X10_312 : xv_CV RX10 312 1 mX0_monthsUntilAllowed := ⟨cb_X0_monthsUntilAllowed, by decide +kernel, xv_tbi (xv_t4 (i := 190) rfl) rfl, xv_tbi (xv_t4 (i := 191) rfl) rfl, xv_tbi (xv_t4 (i := 192) rfl) rfl⟩
theorem cl_X10_316 : xv_CV RX10 316 0 mX0_openLoans := ⟨cb_X0_openLoans, by decide +kernel, xv_tbi (xv_t4 (i := 204) rfl) rfl, xv_tbi (xv_t4 (i := 205) rfl) rfl, xv_tbi (xv_t4 (i := 206) rfl) rfl⟩
theorem cl_X10_319 : xv_CV RX10 319 2 mX2_seekBest := ⟨cb_X2_seekBest, by decide +kernel, xv_tbi (xv_t2 (i := 232) rfl) rfl, xv_tbi (xv_t2 (i := 233) rfl) rfl, xv_tbi (xv_t2 (i := 234) rfl) rfl⟩
theorem cl_X10_326 : xv_CV RX10 326 3 mX1_seekBest := ⟨cb_X1_seekBest, by decide +kernel, xv_tbi (xv_t3 (i := 61) rfl) rfl, xv_tbi (xv_t3 (i := 62) rfl) rfl, xv_tbi (xv_t3 (i := 63) rfl) rfl⟩
theorem ol_X11_1 : Cond.methodLink RX11 1 Lib.objectInit ∈ xv_tb := xv_tbi (xv_t4 (i := 213) rfl) rfl
theorem cl_X11_126 : xv_CS RX11 126 3 mX11_in := ⟨cb_X11_in, by decide +kernel, xv_tbi (xv_t5 (i := 127) rfl) rfl, xv_tbi (xv_t5 (i := 128) rfl) rfl⟩
theorem cl_X11_139 : xv_CV RX11 139 1 mX11_isPiece := ⟨cb_X11_isPiece, by decide +kernel, xv_tbi (xv_t5 (i := 142) rfl) rfl, xv_tbi (xv_t5 (i := 144) rfl) rfl, xv_tbi (xv_p2 (i := 11) rfl) rfl⟩
theorem cl_X11_148 : xv_CV RX11 148 2 mX11_endOf := ⟨cb_X11_endOf, by decide +kernel, xv_tbi (xv_t5 (i := 156) rfl) rfl, xv_tbi (xv_t5 (i := 158) rfl) rfl, xv_tbi (xv_p2 (i := 12) rfl) rfl⟩
theorem cl_X11_153 : xv_CV RX11 153 2 mX11_isAcross := ⟨cb_X11_isAcross, by decide +kernel, xv_tbi (xv_t5 (i := 177) rfl) rfl, xv_tbi (xv_t5 (i := 179) rfl) rfl, xv_tbi (xv_p2 (i := 14) rfl) rfl⟩
theorem cl_X11_157 : xv_CV RX11 157 4 mX11_then := ⟨cb_X11_then, by decide +kernel, xv_tbi (xv_t5 (i := 181) rfl) rfl, xv_tbi (xv_t5 (i := 183) rfl) rfl, xv_tbi (xv_p2 (i := 15) rfl) rfl⟩
theorem cl_X11_163 : xv_CS RX11 163 2 mX11_mayStretch := ⟨cb_X11_mayStretch, by decide +kernel, xv_tbi (xv_t5 (i := 169) rfl) rfl, xv_tbi (xv_t5 (i := 170) rfl) rfl⟩
theorem cl_X11_166 : xv_CV RX11 166 2 mX11_whyNot := ⟨cb_X11_whyNot, by decide +kernel, xv_tbi (xv_t5 (i := 173) rfl) rfl, xv_tbi (xv_t5 (i := 175) rfl) rfl, xv_tbi (xv_p2 (i := 13) rfl) rfl⟩
theorem cl_X11_169 : xv_CV RX11 169 1 mX11_under := ⟨cb_X11_under, by decide +kernel, xv_tbi (xv_t5 (i := 193) rfl) rfl, xv_tbi (xv_t5 (i := 195) rfl) rfl, xv_tbi (xv_p3 (i := 0) rfl) rfl⟩
theorem cl_X11_173 : xv_CV RX11 173 0 mX11_layOrder := ⟨cb_X11_layOrder, by decide +kernel, xv_tbi (xv_t5 (i := 201) rfl) rfl, xv_tbi (xv_t5 (i := 203) rfl) rfl, xv_tbi (xv_p3 (i := 1) rfl) rfl⟩
theorem cl_X11_176 : xv_CS RX11 176 1 mX11_ones := ⟨cb_X11_ones, by decide +kernel, xv_tbi (xv_t5 (i := 209) rfl) rfl, xv_tbi (xv_t5 (i := 210) rfl) rfl⟩
theorem cl_X11_183 : xv_CV RX11 183 1 mX11_needOf := ⟨cb_X11_needOf, by decide +kernel, xv_tbi (xv_t5 (i := 234) rfl) rfl, xv_tbi (xv_t5 (i := 236) rfl) rfl, xv_tbi (xv_p3 (i := 4) rfl) rfl⟩
theorem cl_X11_186 : xv_CV RX11 186 1 mX11_sortFor := ⟨cb_X11_sortFor, by decide +kernel, xv_tbi (xv_t5 (i := 230) rfl) rfl, xv_tbi (xv_t5 (i := 232) rfl) rfl, xv_tbi (xv_p3 (i := 3) rfl) rfl⟩
theorem cl_X11_193 : xv_CV RX11 193 0 mX11_layCosts := ⟨cb_X11_layCosts, by decide +kernel, xv_tbi (xv_t5 (i := 226) rfl) rfl, xv_tbi (xv_t5 (i := 228) rfl) rfl, xv_tbi (xv_p3 (i := 2) rfl) rfl⟩
theorem cl_X11_196 : xv_CV RX11 196 1 mX11_completion := ⟨cb_X11_completion, by decide +kernel, xv_tbi (xv_t6 (i := 11) rfl) rfl, xv_tbi (xv_t6 (i := 13) rfl) rfl, xv_tbi (xv_p3 (i := 6) rfl) rfl⟩
theorem cl_X11_199 : xv_CV RX11 199 0 mX11_layCut := ⟨cb_X11_layCut, by decide +kernel, xv_tbi (xv_t6 (i := 7) rfl) rfl, xv_tbi (xv_t6 (i := 9) rfl) rfl, xv_tbi (xv_p3 (i := 5) rfl) rfl⟩
theorem cl_X11_203 : xv_CV RX11 203 1 mX11_leftOf := ⟨cb_X11_leftOf, by decide +kernel, xv_tbi (xv_t6 (i := 19) rfl) rfl, xv_tbi (xv_t6 (i := 21) rfl) rfl, xv_tbi (xv_p3 (i := 7) rfl) rfl⟩
theorem cl_X11_208 : xv_CV RX11 208 1 mX11_turnedBy := ⟨cb_X11_turnedBy, by decide +kernel, xv_tbi (xv_t6 (i := 40) rfl) rfl, xv_tbi (xv_t6 (i := 42) rfl) rfl, xv_tbi (xv_p3 (i := 9) rfl) rfl⟩
theorem cl_X11_211 : xv_CS RX11 211 2 mX11_isLesser := ⟨cb_X11_isLesser, by decide +kernel, xv_tbi (xv_t6 (i := 44) rfl) rfl, xv_tbi (xv_t6 (i := 45) rfl) rfl⟩
theorem cl_X11_214 : xv_CV RX11 214 0 mX11_bestCars := ⟨cb_X11_bestCars, by decide +kernel, xv_tbi (xv_t6 (i := 36) rfl) rfl, xv_tbi (xv_t6 (i := 38) rfl) rfl, xv_tbi (xv_p3 (i := 8) rfl) rfl⟩
theorem cl_X11_223 : xv_CV RX11 223 2 mX11_explainsOf := ⟨cb_X11_explainsOf, by decide +kernel, xv_tbi (xv_t6 (i := 68) rfl) rfl, xv_tbi (xv_t6 (i := 70) rfl) rfl, xv_tbi (xv_p3 (i := 10) rfl) rfl⟩
theorem cl_X11_227 : xv_CV RX11 227 1 mX11_isLikely := ⟨cb_X11_isLikely, by decide +kernel, xv_tbi (xv_t6 (i := 76) rfl) rfl, xv_tbi (xv_t6 (i := 78) rfl) rfl, xv_tbi (xv_p3 (i := 11) rfl) rfl⟩
theorem cl_X11_231 : xv_CV RX11 231 1 mX11_explainsAll := ⟨cb_X11_explainsAll, by decide +kernel, xv_tbi (xv_t6 (i := 89) rfl) rfl, xv_tbi (xv_t6 (i := 91) rfl) rfl, xv_tbi (xv_p3 (i := 13) rfl) rfl⟩
theorem cl_X11_234 : xv_CV RX11 234 0 mX11_bestCauses := ⟨cb_X11_bestCauses, by decide +kernel, xv_tbi (xv_t6 (i := 84) rfl) rfl, xv_tbi (xv_t6 (i := 86) rfl) rfl, xv_tbi (xv_p3 (i := 12) rfl) rfl⟩
theorem cl_X11_249 : xv_CV RX11 249 1 mX11_nowOf := ⟨cb_X11_nowOf, by decide +kernel, xv_tbi (xv_t6 (i := 104) rfl) rfl, xv_tbi (xv_t6 (i := 106) rfl) rfl, xv_tbi (xv_p3 (i := 14) rfl) rfl⟩
theorem cl_X11_263 : xv_CV RX11 263 1 mX11_goMonth := ⟨cb_X11_goMonth, by decide +kernel, xv_tbi (xv_t6 (i := 113) rfl) rfl, xv_tbi (xv_t6 (i := 115) rfl) rfl, xv_tbi (xv_p3 (i := 15) rfl) rfl⟩
theorem cl_X11_267 : xv_CV RX11 267 1 mX11_isLoan := ⟨cb_X11_isLoan, by decide +kernel, xv_tbi (xv_t6 (i := 122) rfl) rfl, xv_tbi (xv_t6 (i := 124) rfl) rfl, xv_tbi (xv_p4 (i := 0) rfl) rfl⟩
theorem cl_X11_281 : xv_CV RX11 281 1 mX11_isTerm := ⟨cb_X11_isTerm, by decide +kernel, xv_tbi (xv_t6 (i := 150) rfl) rfl, xv_tbi (xv_t6 (i := 152) rfl) rfl, xv_tbi (xv_p4 (i := 1) rfl) rfl⟩
theorem cl_X11_289 : xv_CV RX11 289 1 mX11_peek := ⟨cb_X11_peek, by decide +kernel, xv_tbi (xv_t6 (i := 163) rfl) rfl, xv_tbi (xv_t6 (i := 165) rfl) rfl, xv_tbi (xv_p4 (i := 3) rfl) rfl⟩
theorem cl_X11_292 : xv_CS RX11 292 1 mX11_letterValue := ⟨cb_X11_letterValue, by decide +kernel, xv_tbi (xv_t6 (i := 175) rfl) rfl, xv_tbi (xv_t6 (i := 176) rfl) rfl⟩
theorem cl_X11_307 : xv_CS RX11 307 1 mX11_binds := ⟨cb_X11_binds, by decide +kernel, xv_tbi (xv_t6 (i := 185) rfl) rfl, xv_tbi (xv_t6 (i := 186) rfl) rfl⟩
theorem cl_X11_310 : xv_CV RX11 310 1 mX11_push := ⟨cb_X11_push, by decide +kernel, xv_tbi (xv_t6 (i := 167) rfl) rfl, xv_tbi (xv_t6 (i := 169) rfl) rfl, xv_tbi (xv_p4 (i := 4) rfl) rfl⟩
theorem cl_X11_313 : xv_CV RX11 313 1 mX11_takeAsking := ⟨cb_X11_takeAsking, by decide +kernel, xv_tbi (xv_t6 (i := 171) rfl) rfl, xv_tbi (xv_t6 (i := 173) rfl) rfl, xv_tbi (xv_p4 (i := 5) rfl) rfl⟩
theorem cl_X11_316 : xv_CV RX11 316 1 mX11_closeTo := ⟨cb_X11_closeTo, by decide +kernel, xv_tbi (xv_t6 (i := 181) rfl) rfl, xv_tbi (xv_t6 (i := 183) rfl) rfl, xv_tbi (xv_p4 (i := 6) rfl) rfl⟩
theorem cl_X11_319 : xv_CV RX11 319 1 mX11_readTerm := ⟨cb_X11_readTerm, by decide +kernel, xv_tbi (xv_t6 (i := 159) rfl) rfl, xv_tbi (xv_t6 (i := 161) rfl) rfl, xv_tbi (xv_p4 (i := 2) rfl) rfl⟩
theorem cl_X11_322 : xv_CV RX11 322 1 mX11_forceIn := ⟨cb_X11_forceIn, by decide +kernel, xv_tbi (xv_t6 (i := 192) rfl) rfl, xv_tbi (xv_t6 (i := 194) rfl) rfl, xv_tbi (xv_p4 (i := 7) rfl) rfl⟩
theorem cl_X11_325 : xv_CV RX11 325 2 mX11_says := ⟨cb_X11_says, by decide +kernel, xv_tbi (xv_t6 (i := 204) rfl) rfl, xv_tbi (xv_t6 (i := 206) rfl) rfl, xv_tbi (xv_p4 (i := 9) rfl) rfl⟩
theorem cl_X11_328 : xv_CV RX11 328 1 mX11_mayTake := ⟨cb_X11_mayTake, by decide +kernel, xv_tbi (xv_t6 (i := 200) rfl) rfl, xv_tbi (xv_t6 (i := 202) rfl) rfl, xv_tbi (xv_p4 (i := 8) rfl) rfl⟩
theorem cl_L_9 : xv_CIn RL 9 0 mX10_init := ⟨cb_X10_init, by decide +kernel, xv_tbi (xv_t1 (i := 18) rfl) rfl, xv_tbi (xv_t1 (i := 19) rfl) rfl, rfl, rfl⟩
theorem cl_L_12 : xv_CIn RL 12 0 mX11_init := ⟨cb_X11_init, by decide +kernel, xv_tbi (xv_t4 (i := 210) rfl) rfl, xv_tbi (xv_t4 (i := 211) rfl) rfl, rfl, rfl⟩
theorem cl_L_13 : xv_CV RL 13 1 mX10_width := ⟨cb_X10_width, by decide +kernel, xv_tbi (xv_t2 (i := 77) rfl) rfl, xv_tbi (xv_t2 (i := 78) rfl) rfl, xv_tbi (xv_t2 (i := 79) rfl) rfl⟩
theorem cl_L_17 : xv_CV RL 17 1 mX11_width := ⟨cb_X11_width, by decide +kernel, xv_tbi (xv_t5 (i := 122) rfl) rfl, xv_tbi (xv_t5 (i := 123) rfl) rfl, xv_tbi (xv_t5 (i := 124) rfl) rfl⟩
theorem cl_L_18 : xv_CV RL 18 4 mX10_piece := ⟨cb_X10_piece, by decide +kernel, xv_tbi (xv_t2 (i := 85) rfl) rfl, xv_tbi (xv_t2 (i := 86) rfl) rfl, xv_tbi (xv_t2 (i := 87) rfl) rfl⟩
theorem cl_L_22 : xv_CV RL 22 4 mX11_piece := ⟨cb_X11_piece, by decide +kernel, xv_tbi (xv_t5 (i := 131) rfl) rfl, xv_tbi (xv_t5 (i := 132) rfl) rfl, xv_tbi (xv_t5 (i := 133) rfl) rfl⟩
theorem cl_L_23 : xv_CV RL 23 2 mX10_about := ⟨cb_X10_about, by decide +kernel, xv_tbi (xv_t2 (i := 98) rfl) rfl, xv_tbi (xv_t2 (i := 99) rfl) rfl, xv_tbi (xv_t2 (i := 100) rfl) rfl⟩
theorem cl_L_27 : xv_CV RL 27 2 mX11_about := ⟨cb_X11_about, by decide +kernel, xv_tbi (xv_t5 (i := 138) rfl) rfl, xv_tbi (xv_t5 (i := 139) rfl) rfl, xv_tbi (xv_t5 (i := 140) rfl) rfl⟩
theorem cl_L_28 : xv_CV RL 28 4 mX10_meet := ⟨cb_X10_meet, by decide +kernel, xv_tbi (xv_t2 (i := 107) rfl) rfl, xv_tbi (xv_t2 (i := 108) rfl) rfl, xv_tbi (xv_t2 (i := 109) rfl) rfl⟩
theorem cl_L_32 : xv_CV RL 32 4 mX11_meet := ⟨cb_X11_meet, by decide +kernel, xv_tbi (xv_t5 (i := 147) rfl) rfl, xv_tbi (xv_t5 (i := 148) rfl) rfl, xv_tbi (xv_t5 (i := 149) rfl) rfl⟩
theorem cl_L_33 : xv_CV RL 33 0 mX10_apart := ⟨cb_X10_apart, by decide +kernel, xv_tbi (xv_t2 (i := 116) rfl) rfl, xv_tbi (xv_t2 (i := 117) rfl) rfl, xv_tbi (xv_t2 (i := 118) rfl) rfl⟩
theorem cl_L_37 : xv_CV RL 37 0 mX11_apart := ⟨cb_X11_apart, by decide +kernel, xv_tbi (xv_t5 (i := 152) rfl) rfl, xv_tbi (xv_t5 (i := 153) rfl) rfl, xv_tbi (xv_t5 (i := 154) rfl) rfl⟩
theorem cl_L_38 : xv_CV RL 38 0 mX10_mirror := ⟨cb_X10_mirror, by decide +kernel, xv_tbi (xv_t2 (i := 129) rfl) rfl, xv_tbi (xv_t2 (i := 130) rfl) rfl, xv_tbi (xv_t2 (i := 131) rfl) rfl⟩
theorem cl_L_41 : xv_CV RL 41 0 mX11_mirror := ⟨cb_X11_mirror, by decide +kernel, xv_tbi (xv_t5 (i := 161) rfl) rfl, xv_tbi (xv_t5 (i := 162) rfl) rfl, xv_tbi (xv_t5 (i := 163) rfl) rfl⟩
theorem cl_L_42 : xv_CV RL 42 2 mX10_stretch := ⟨cb_X10_stretch, by decide +kernel, xv_tbi (xv_t2 (i := 141) rfl) rfl, xv_tbi (xv_t2 (i := 142) rfl) rfl, xv_tbi (xv_t2 (i := 143) rfl) rfl⟩
theorem cl_L_45 : xv_CV RL 45 2 mX11_stretch := ⟨cb_X11_stretch, by decide +kernel, xv_tbi (xv_t5 (i := 185) rfl) rfl, xv_tbi (xv_t5 (i := 186) rfl) rfl, xv_tbi (xv_t5 (i := 187) rfl) rfl⟩
theorem cl_L_46 : xv_CV RL 46 2 mX10_why := ⟨cb_X10_why, by decide +kernel, xv_tbi (xv_t2 (i := 173) rfl) rfl, xv_tbi (xv_t2 (i := 174) rfl) rfl, xv_tbi (xv_t2 (i := 175) rfl) rfl⟩
theorem cl_L_49 : xv_CV RL 49 2 mX11_why := ⟨cb_X11_why, by decide +kernel, xv_tbi (xv_t5 (i := 165) rfl) rfl, xv_tbi (xv_t5 (i := 166) rfl) rfl, xv_tbi (xv_t5 (i := 167) rfl) rfl⟩
theorem cl_L_50 : xv_CV RL 50 3 mX10_lean := ⟨cb_X10_lean, by decide +kernel, xv_tbi (xv_t2 (i := 177) rfl) rfl, xv_tbi (xv_t2 (i := 178) rfl) rfl, xv_tbi (xv_t2 (i := 179) rfl) rfl⟩
theorem cl_L_54 : xv_CV RL 54 3 mX11_lean := ⟨cb_X11_lean, by decide +kernel, xv_tbi (xv_t5 (i := 189) rfl) rfl, xv_tbi (xv_t5 (i := 190) rfl) rfl, xv_tbi (xv_t5 (i := 191) rfl) rfl⟩
theorem cl_L_55 : xv_CV RL 55 1 mX10_order := ⟨cb_X10_order, by decide +kernel, xv_tbi (xv_t2 (i := 193) rfl) rfl, xv_tbi (xv_t2 (i := 194) rfl) rfl, xv_tbi (xv_t2 (i := 195) rfl) rfl⟩
theorem cl_L_58 : xv_CV RL 58 1 mX11_order := ⟨cb_X11_order, by decide +kernel, xv_tbi (xv_t5 (i := 197) rfl) rfl, xv_tbi (xv_t5 (i := 198) rfl) rfl, xv_tbi (xv_t5 (i := 199) rfl) rfl⟩
theorem cl_L_59 : xv_CV RL 59 1 mX10_below := ⟨cb_X10_below, by decide +kernel, xv_tbi (xv_t2 (i := 205) rfl) rfl, xv_tbi (xv_t2 (i := 206) rfl) rfl, xv_tbi (xv_t2 (i := 207) rfl) rfl⟩
theorem cl_L_62 : xv_CV RL 62 1 mX11_below := ⟨cb_X11_below, by decide +kernel, xv_tbi (xv_t5 (i := 205) rfl) rfl, xv_tbi (xv_t5 (i := 206) rfl) rfl, xv_tbi (xv_t5 (i := 207) rfl) rfl⟩
theorem cl_L_63 : xv_CV RL 63 3 mX10_sort := ⟨cb_X10_sort, by decide +kernel, xv_tbi (xv_t2 (i := 216) rfl) rfl, xv_tbi (xv_t2 (i := 217) rfl) rfl, xv_tbi (xv_t2 (i := 218) rfl) rfl⟩
theorem cl_L_67 : xv_CV RL 67 3 mX11_sort := ⟨cb_X11_sort, by decide +kernel, xv_tbi (xv_t5 (i := 212) rfl) rfl, xv_tbi (xv_t5 (i := 213) rfl) rfl, xv_tbi (xv_t5 (i := 214) rfl) rfl⟩
theorem cl_L_68 : xv_CV RL 68 1 mX10_saw := ⟨cb_X10_saw, by decide +kernel, xv_tbi (xv_t2 (i := 220) rfl) rfl, xv_tbi (xv_t2 (i := 221) rfl) rfl, xv_tbi (xv_t2 (i := 222) rfl) rfl⟩
theorem cl_L_71 : xv_CV RL 71 1 mX11_saw := ⟨cb_X11_saw, by decide +kernel, xv_tbi (xv_t5 (i := 218) rfl) rfl, xv_tbi (xv_t5 (i := 219) rfl) rfl, xv_tbi (xv_t5 (i := 220) rfl) rfl⟩
theorem cl_L_72 : xv_CV RL 72 0 mX10_price := ⟨cb_X10_price, by decide +kernel, xv_tbi (xv_t2 (i := 224) rfl) rfl, xv_tbi (xv_t2 (i := 225) rfl) rfl, xv_tbi (xv_t2 (i := 226) rfl) rfl⟩
theorem cl_L_75 : xv_CV RL 75 0 mX11_price := ⟨cb_X11_price, by decide +kernel, xv_tbi (xv_t5 (i := 222) rfl) rfl, xv_tbi (xv_t5 (i := 223) rfl) rfl, xv_tbi (xv_t5 (i := 224) rfl) rfl⟩
theorem cl_L_76 : xv_CV RL 76 0 mX10_boards := ⟨cb_X10_boards, by decide +kernel, xv_tbi (xv_t3 (i := 28) rfl) rfl, xv_tbi (xv_t3 (i := 29) rfl) rfl, xv_tbi (xv_t3 (i := 30) rfl) rfl⟩
theorem cl_L_79 : xv_CV RL 79 0 mX11_boards := ⟨cb_X11_boards, by decide +kernel, xv_tbi (xv_t5 (i := 239) rfl) rfl, xv_tbi (xv_t6 (i := 0) rfl) rfl, xv_tbi (xv_t6 (i := 1) rfl) rfl⟩
theorem cl_L_80 : xv_CV RL 80 1 mX10_board := ⟨cb_X10_board, by decide +kernel, xv_tbi (xv_t3 (i := 32) rfl) rfl, xv_tbi (xv_t3 (i := 33) rfl) rfl, xv_tbi (xv_t3 (i := 34) rfl) rfl⟩
theorem cl_L_83 : xv_CV RL 83 1 mX11_board := ⟨cb_X11_board, by decide +kernel, xv_tbi (xv_t6 (i := 3) rfl) rfl, xv_tbi (xv_t6 (i := 4) rfl) rfl, xv_tbi (xv_t6 (i := 5) rfl) rfl⟩
theorem cl_L_84 : xv_CV RL 84 2 mX10_ofBoard := ⟨cb_X10_ofBoard, by decide +kernel, xv_tbi (xv_t3 (i := 36) rfl) rfl, xv_tbi (xv_t3 (i := 37) rfl) rfl, xv_tbi (xv_t3 (i := 38) rfl) rfl⟩
theorem cl_L_87 : xv_CV RL 87 2 mX11_ofBoard := ⟨cb_X11_ofBoard, by decide +kernel, xv_tbi (xv_t6 (i := 15) rfl) rfl, xv_tbi (xv_t6 (i := 16) rfl) rfl, xv_tbi (xv_t6 (i := 17) rfl) rfl⟩
theorem cl_L_88 : xv_CV RL 88 1 mX10_other := ⟨cb_X10_other, by decide +kernel, xv_tbi (xv_t3 (i := 40) rfl) rfl, xv_tbi (xv_t3 (i := 41) rfl) rfl, xv_tbi (xv_t3 (i := 42) rfl) rfl⟩
theorem cl_L_91 : xv_CV RL 91 1 mX11_other := ⟨cb_X11_other, by decide +kernel, xv_tbi (xv_t6 (i := 23) rfl) rfl, xv_tbi (xv_t6 (i := 24) rfl) rfl, xv_tbi (xv_t6 (i := 25) rfl) rfl⟩
theorem cl_L_92 : xv_CV RL 92 2 mX10_car := ⟨cb_X10_car, by decide +kernel, xv_tbi (xv_t3 (i := 49) rfl) rfl, xv_tbi (xv_t3 (i := 50) rfl) rfl, xv_tbi (xv_t3 (i := 51) rfl) rfl⟩
theorem cl_L_95 : xv_CV RL 95 2 mX11_car := ⟨cb_X11_car, by decide +kernel, xv_tbi (xv_t6 (i := 27) rfl) rfl, xv_tbi (xv_t6 (i := 28) rfl) rfl, xv_tbi (xv_t6 (i := 29) rfl) rfl⟩
theorem cl_L_96 : xv_CV RL 96 0 mX10_packing := ⟨cb_X10_packing, by decide +kernel, xv_tbi (xv_t3 (i := 53) rfl) rfl, xv_tbi (xv_t3 (i := 54) rfl) rfl, xv_tbi (xv_t3 (i := 55) rfl) rfl⟩
theorem cl_L_99 : xv_CV RL 99 0 mX11_packing := ⟨cb_X11_packing, by decide +kernel, xv_tbi (xv_t6 (i := 32) rfl) rfl, xv_tbi (xv_t6 (i := 33) rfl) rfl, xv_tbi (xv_t6 (i := 34) rfl) rfl⟩
theorem cl_L_100 : xv_CV RL 100 1 mX10_carOf := ⟨cb_X10_carOf, by decide +kernel, xv_tbi (xv_t3 (i := 74) rfl) rfl, xv_tbi (xv_t3 (i := 75) rfl) rfl, xv_tbi (xv_t3 (i := 76) rfl) rfl⟩
theorem cl_L_103 : xv_CV RL 103 1 mX11_carOf := ⟨cb_X11_carOf, by decide +kernel, xv_tbi (xv_t6 (i := 47) rfl) rfl, xv_tbi (xv_t6 (i := 48) rfl) rfl, xv_tbi (xv_t6 (i := 49) rfl) rfl⟩
theorem cl_L_104 : xv_CV RL 104 1 mX10_turned := ⟨cb_X10_turned, by decide +kernel, xv_tbi (xv_t3 (i := 78) rfl) rfl, xv_tbi (xv_t3 (i := 79) rfl) rfl, xv_tbi (xv_t3 (i := 80) rfl) rfl⟩
theorem cl_L_107 : xv_CV RL 107 1 mX11_turned := ⟨cb_X11_turned, by decide +kernel, xv_tbi (xv_t6 (i := 51) rfl) rfl, xv_tbi (xv_t6 (i := 52) rfl) rfl, xv_tbi (xv_t6 (i := 53) rfl) rfl⟩
theorem cl_L_108 : xv_CV RL 108 5 mX10_report := ⟨cb_X10_report, by decide +kernel, xv_tbi (xv_t3 (i := 86) rfl) rfl, xv_tbi (xv_t3 (i := 87) rfl) rfl, xv_tbi (xv_t3 (i := 88) rfl) rfl⟩
theorem cl_L_112 : xv_CV RL 112 5 mX11_report := ⟨cb_X11_report, by decide +kernel, xv_tbi (xv_t6 (i := 55) rfl) rfl, xv_tbi (xv_t6 (i := 56) rfl) rfl, xv_tbi (xv_t6 (i := 57) rfl) rfl⟩
theorem cl_L_113 : xv_CV RL 113 1 mX10_sure := ⟨cb_X10_sure, by decide +kernel, xv_tbi (xv_t3 (i := 94) rfl) rfl, xv_tbi (xv_t3 (i := 95) rfl) rfl, xv_tbi (xv_t3 (i := 96) rfl) rfl⟩
theorem cl_L_116 : xv_CV RL 116 1 mX11_sure := ⟨cb_X11_sure, by decide +kernel, xv_tbi (xv_t6 (i := 59) rfl) rfl, xv_tbi (xv_t6 (i := 60) rfl) rfl, xv_tbi (xv_t6 (i := 61) rfl) rfl⟩
theorem cl_L_117 : xv_CV RL 117 2 mX10_explains := ⟨cb_X10_explains, by decide +kernel, xv_tbi (xv_t3 (i := 98) rfl) rfl, xv_tbi (xv_t3 (i := 99) rfl) rfl, xv_tbi (xv_t3 (i := 100) rfl) rfl⟩
theorem cl_L_121 : xv_CV RL 121 2 mX11_explains := ⟨cb_X11_explains, by decide +kernel, xv_tbi (xv_t6 (i := 63) rfl) rfl, xv_tbi (xv_t6 (i := 64) rfl) rfl, xv_tbi (xv_t6 (i := 65) rfl) rfl⟩
theorem cl_L_122 : xv_CV RL 122 1 mX10_likely := ⟨cb_X10_likely, by decide +kernel, xv_tbi (xv_t3 (i := 116) rfl) rfl, xv_tbi (xv_t3 (i := 117) rfl) rfl, xv_tbi (xv_t3 (i := 118) rfl) rfl⟩
theorem cl_L_125 : xv_CV RL 125 1 mX11_likely := ⟨cb_X11_likely, by decide +kernel, xv_tbi (xv_t6 (i := 72) rfl) rfl, xv_tbi (xv_t6 (i := 73) rfl) rfl, xv_tbi (xv_t6 (i := 74) rfl) rfl⟩
theorem cl_L_126 : xv_CV RL 126 0 mX10_causes := ⟨cb_X10_causes, by decide +kernel, xv_tbi (xv_t3 (i := 126) rfl) rfl, xv_tbi (xv_t3 (i := 127) rfl) rfl, xv_tbi (xv_t3 (i := 128) rfl) rfl⟩
theorem cl_L_129 : xv_CV RL 129 0 mX11_causes := ⟨cb_X11_causes, by decide +kernel, xv_tbi (xv_t6 (i := 80) rfl) rfl, xv_tbi (xv_t6 (i := 81) rfl) rfl, xv_tbi (xv_t6 (i := 82) rfl) rfl⟩
theorem cl_L_130 : xv_CV RL 130 1 mX10_cause := ⟨cb_X10_cause, by decide +kernel, xv_tbi (xv_t3 (i := 145) rfl) rfl, xv_tbi (xv_t3 (i := 146) rfl) rfl, xv_tbi (xv_t3 (i := 147) rfl) rfl⟩
theorem cl_L_133 : xv_CV RL 133 1 mX11_cause := ⟨cb_X11_cause, by decide +kernel, xv_tbi (xv_t6 (i := 93) rfl) rfl, xv_tbi (xv_t6 (i := 94) rfl) rfl, xv_tbi (xv_t6 (i := 95) rfl) rfl⟩
theorem cl_L_134 : xv_CV RL 134 1 mX10_pass := ⟨cb_X10_pass, by decide +kernel, xv_tbi (xv_t3 (i := 149) rfl) rfl, xv_tbi (xv_t3 (i := 150) rfl) rfl, xv_tbi (xv_t3 (i := 151) rfl) rfl⟩
theorem cl_L_137 : xv_CV RL 137 1 mX11_pass := ⟨cb_X11_pass, by decide +kernel, xv_tbi (xv_t6 (i := 108) rfl) rfl, xv_tbi (xv_t6 (i := 109) rfl) rfl, xv_tbi (xv_t6 (i := 110) rfl) rfl⟩
theorem cl_L_138 : xv_CV RL 138 3 mX10_loan := ⟨cb_X10_loan, by decide +kernel, xv_tbi (xv_t3 (i := 178) rfl) rfl, xv_tbi (xv_t3 (i := 179) rfl) rfl, xv_tbi (xv_t3 (i := 180) rfl) rfl⟩
theorem cl_L_141 : xv_CV RL 141 3 mX11_loan := ⟨cb_X11_loan, by decide +kernel, xv_tbi (xv_t6 (i := 97) rfl) rfl, xv_tbi (xv_t6 (i := 98) rfl) rfl, xv_tbi (xv_t6 (i := 99) rfl) rfl⟩
theorem cl_L_142 : xv_CV RL 142 2 mX10_pay := ⟨cb_X10_pay, by decide +kernel, xv_tbi (xv_t3 (i := 215) rfl) rfl, xv_tbi (xv_t3 (i := 216) rfl) rfl, xv_tbi (xv_t3 (i := 217) rfl) rfl⟩
theorem cl_L_145 : xv_CV RL 145 2 mX11_pay := ⟨cb_X11_pay, by decide +kernel, xv_tbi (xv_t6 (i := 118) rfl) rfl, xv_tbi (xv_t6 (i := 119) rfl) rfl, xv_tbi (xv_t6 (i := 120) rfl) rfl⟩
theorem cl_L_146 : xv_CV RL 146 2 mX10_work := ⟨cb_X10_work, by decide +kernel, xv_tbi (xv_t3 (i := 236) rfl) rfl, xv_tbi (xv_t3 (i := 237) rfl) rfl, xv_tbi (xv_t3 (i := 238) rfl) rfl⟩
theorem cl_L_149 : xv_CV RL 149 2 mX11_work := ⟨cb_X11_work, by decide +kernel, xv_tbi (xv_t6 (i := 126) rfl) rfl, xv_tbi (xv_t6 (i := 127) rfl) rfl, xv_tbi (xv_t6 (i := 128) rfl) rfl⟩
theorem cl_L_150 : xv_CV RL 150 3 mX10_as := ⟨cb_X10_as, by decide +kernel, xv_tbi (xv_t4 (i := 0) rfl) rfl, xv_tbi (xv_t4 (i := 1) rfl) rfl, xv_tbi (xv_t4 (i := 2) rfl) rfl⟩
theorem cl_L_154 : xv_CV RL 154 3 mX11_as := ⟨cb_X11_as, by decide +kernel, xv_tbi (xv_t6 (i := 130) rfl) rfl, xv_tbi (xv_t6 (i := 131) rfl) rfl, xv_tbi (xv_t6 (i := 132) rfl) rfl⟩
theorem cl_L_155 : xv_CV RL 155 1 mX10_arrears := ⟨cb_X10_arrears, by decide +kernel, xv_tbi (xv_t4 (i := 21) rfl) rfl, xv_tbi (xv_t4 (i := 22) rfl) rfl, xv_tbi (xv_t4 (i := 23) rfl) rfl⟩
theorem cl_L_158 : xv_CV RL 158 1 mX11_arrears := ⟨cb_X11_arrears, by decide +kernel, xv_tbi (xv_t6 (i := 137) rfl) rfl, xv_tbi (xv_t6 (i := 138) rfl) rfl, xv_tbi (xv_t6 (i := 139) rfl) rfl⟩
theorem cl_L_159 : xv_CV RL 159 1 mX10_term := ⟨cb_X10_term, by decide +kernel, xv_tbi (xv_t4 (i := 29) rfl) rfl, xv_tbi (xv_t4 (i := 30) rfl) rfl, xv_tbi (xv_t4 (i := 31) rfl) rfl⟩
theorem cl_L_162 : xv_CV RL 162 1 mX11_term := ⟨cb_X11_term, by decide +kernel, xv_tbi (xv_t6 (i := 141) rfl) rfl, xv_tbi (xv_t6 (i := 142) rfl) rfl, xv_tbi (xv_t6 (i := 143) rfl) rfl⟩
theorem cl_L_165 : xv_CV RL 165 2 mX10_feed := ⟨cb_X10_feed, by decide +kernel, xv_tbi (xv_t4 (i := 66) rfl) rfl, xv_tbi (xv_t4 (i := 67) rfl) rfl, xv_tbi (xv_t4 (i := 68) rfl) rfl⟩
theorem cl_L_169 : xv_CV RL 169 2 mX11_feed := ⟨cb_X11_feed, by decide +kernel, xv_tbi (xv_t6 (i := 146) rfl) rfl, xv_tbi (xv_t6 (i := 147) rfl) rfl, xv_tbi (xv_t6 (i := 148) rfl) rfl⟩
theorem cl_L_170 : xv_CV RL 170 1 mX10_fault := ⟨cb_X10_fault, by decide +kernel, xv_tbi (xv_t4 (i := 106) rfl) rfl, xv_tbi (xv_t4 (i := 107) rfl) rfl, xv_tbi (xv_t4 (i := 108) rfl) rfl⟩
theorem cl_L_173 : xv_CV RL 173 1 mX11_fault := ⟨cb_X11_fault, by decide +kernel, xv_tbi (xv_t6 (i := 155) rfl) rfl, xv_tbi (xv_t6 (i := 156) rfl) rfl, xv_tbi (xv_t6 (i := 157) rfl) rfl⟩
theorem cl_L_174 : xv_CV RL 174 1 mX10_force := ⟨cb_X10_force, by decide +kernel, xv_tbi (xv_t4 (i := 110) rfl) rfl, xv_tbi (xv_t4 (i := 111) rfl) rfl, xv_tbi (xv_t4 (i := 112) rfl) rfl⟩
theorem cl_L_177 : xv_CV RL 177 1 mX11_force := ⟨cb_X11_force, by decide +kernel, xv_tbi (xv_t6 (i := 188) rfl) rfl, xv_tbi (xv_t6 (i := 189) rfl) rfl, xv_tbi (xv_t6 (i := 190) rfl) rfl⟩
theorem cl_L_178 : xv_CV RL 178 1 mX10_may := ⟨cb_X10_may, by decide +kernel, xv_tbi (xv_t4 (i := 119) rfl) rfl, xv_tbi (xv_t4 (i := 120) rfl) rfl, xv_tbi (xv_t4 (i := 121) rfl) rfl⟩
theorem cl_L_181 : xv_CV RL 181 1 mX11_may := ⟨cb_X11_may, by decide +kernel, xv_tbi (xv_t6 (i := 196) rfl) rfl, xv_tbi (xv_t6 (i := 197) rfl) rfl, xv_tbi (xv_t6 (i := 198) rfl) rfl⟩
theorem cl_L_182 : xv_CV RL 182 1 mX10_takeBack := ⟨cb_X10_takeBack, by decide +kernel, xv_tbi (xv_t4 (i := 180) rfl) rfl, xv_tbi (xv_t4 (i := 181) rfl) rfl, xv_tbi (xv_t4 (i := 182) rfl) rfl⟩
theorem cl_L_186 : xv_CV RL 186 1 mX11_takeBack := ⟨cb_X11_takeBack, by decide +kernel, xv_tbi (xv_t6 (i := 208) rfl) rfl, xv_tbi (xv_t6 (i := 209) rfl) rfl, xv_tbi (xv_t6 (i := 210) rfl) rfl⟩
theorem cl_L_187 : xv_CV RL 187 1 mX10_soon := ⟨cb_X10_soon, by decide +kernel, xv_tbi (xv_t4 (i := 186) rfl) rfl, xv_tbi (xv_t4 (i := 187) rfl) rfl, xv_tbi (xv_t4 (i := 188) rfl) rfl⟩
theorem cl_L_190 : xv_CV RL 190 1 mX11_soon := ⟨cb_X11_soon, by decide +kernel, xv_tbi (xv_t6 (i := 213) rfl) rfl, xv_tbi (xv_t6 (i := 214) rfl) rfl, xv_tbi (xv_t6 (i := 215) rfl) rfl⟩
theorem cl_L_191 : xv_CV RL 191 1 mX10_count := ⟨cb_X10_count, by decide +kernel, xv_tbi (xv_t4 (i := 200) rfl) rfl, xv_tbi (xv_t4 (i := 201) rfl) rfl, xv_tbi (xv_t4 (i := 202) rfl) rfl⟩
theorem cl_L_194 : xv_CV RL 194 1 mX11_count := ⟨cb_X11_count, by decide +kernel, xv_tbi (xv_t6 (i := 217) rfl) rfl, xv_tbi (xv_t6 (i := 218) rfl) rfl, xv_tbi (xv_t6 (i := 219) rfl) rfl⟩
theorem ms_J9_max_7cf53 : Cond.static yJ9_max_7cf53 ∈ xv_tb := xv_tbi (xv_t3 (i := 26) rfl) rfl
theorem mc_J9_max_7cf53 : Cond.code yJ9_max_7cf53 cJ9_max_7cf53 2 (some .int) ∈ xv_tb := xv_tbi (xv_t3 (i := 27) rfl) rfl
theorem ms_J9_max_f86c9 : Cond.static yJ9_max_f86c9 ∈ xv_tb := xv_tbi (xv_t3 (i := 230) rfl) rfl
theorem mc_J9_max_f86c9 : Cond.code yJ9_max_f86c9 cJ9_max_f86c9 4 (some .long) ∈ xv_tb := xv_tbi (xv_t3 (i := 231) rfl) rfl
theorem ms_J9_min_7cf53 : Cond.static yJ9_min_7cf53 ∈ xv_tb := xv_tbi (xv_t4 (i := 11) rfl) rfl
theorem mc_J9_min_7cf53 : Cond.code yJ9_min_7cf53 cJ9_min_7cf53 2 (some .int) ∈ xv_tb := xv_tbi (xv_t4 (i := 12) rfl) rfl
theorem ms_J9_min_f86c9 : Cond.static yJ9_min_f86c9 ∈ xv_tb := xv_tbi (xv_t3 (i := 171) rfl) rfl
theorem mc_J9_min_f86c9 : Cond.code yJ9_min_f86c9 cJ9_min_f86c9 4 (some .long) ∈ xv_tb := xv_tbi (xv_t3 (i := 172) rfl) rfl
theorem mi_J9 : Cond.initialized "java/lang/Math" ∈ xv_tb := xv_tbi (xv_t1 (i := 12) rfl) rfl
theorem ow_i : Cond.instanceMethod Lib.objectInit ∈ xv_tb := xv_tbi (xv_t1 (i := 22) rfl) rfl
theorem ow_c : Cond.code Lib.objectInit ⟨#[0xb1]⟩ 1 none ∈ xv_tb := xv_tbi (xv_t1 (i := 23) rfl) rfl
theorem aw_int : Cond.arrayClass .int ∈ xv_tb := xv_tbi (xv_t1 (i := 71) rfl) rfl
theorem aw_byte : Cond.arrayClass .byte ∈ xv_tb := xv_tbi (xv_t4 (i := 65) rfl) rfl
theorem aw_boolean : Cond.arrayClass .boolean ∈ xv_tb := xv_tbi (xv_t1 (i := 72) rfl) rfl
theorem aw_long : Cond.arrayClass .long ∈ xv_tb := xv_tbi (xv_t1 (i := 140) rfl) rfl
theorem nl_X0_21 : xv_NL RX0 21 4 := ⟨xv_ci4, xv_tbi (xv_t1 (i := 222) rfl) rfl, xv_tbi (xv_t3 (i := 176) rfl) rfl, xv_tbi (xv_t1 (i := 14) rfl) rfl⟩
theorem ql_X0_21 : Cond.classLink RX0 21 (xv_cls 4).1 ∈ xv_tb := xv_tbi (xv_t1 (i := 222) rfl) rfl
theorem qo_X0_21 : Cond.arrayOver (.object (xv_cls 4).1) ∈ lw_tbl := xv_t1 (i := 223) rfl
theorem nl_X0_27 : xv_NL RX0 27 8 := ⟨xv_ci8, xv_tbi (xv_t1 (i := 224) rfl) rfl, xv_tbi (xv_t4 (i := 37) rfl) rfl, xv_tbi (xv_t1 (i := 15) rfl) rfl⟩
theorem ql_X0_27 : Cond.classLink RX0 27 (xv_cls 8).1 ∈ xv_tb := xv_tbi (xv_t1 (i := 224) rfl) rfl
theorem qo_X0_27 : Cond.arrayOver (.object (xv_cls 8).1) ∈ lw_tbl := xv_t1 (i := 225) rfl
theorem nl_X0_33 : xv_NL RX0 33 7 := ⟨xv_ci7, xv_tbi (xv_t1 (i := 226) rfl) rfl, xv_tbi (xv_t1 (i := 227) rfl) rfl, xv_tbi (xv_t1 (i := 8) rfl) rfl⟩
theorem nl_X0_40 : xv_NL RX0 40 9 := ⟨xv_ci9, xv_tbi (xv_t2 (i := 14) rfl) rfl, xv_tbi (xv_t2 (i := 15) rfl) rfl, xv_tbi (xv_t1 (i := 9) rfl) rfl⟩
theorem nl_X4_9 : xv_NL RX4 9 7 := ⟨xv_ci7, xv_tbi (xv_t3 (i := 191) rfl) rfl, xv_tbi (xv_t1 (i := 227) rfl) rfl, xv_tbi (xv_t1 (i := 8) rfl) rfl⟩
theorem nl_X10_7 : xv_NL RX10 7 5 := ⟨xv_ci5, xv_tbi (xv_t1 (i := 24) rfl) rfl, xv_tbi (xv_t1 (i := 25) rfl) rfl, xv_tbi (xv_t1 (i := 2) rfl) rfl⟩
theorem nl_X10_16 : xv_NL RX10 16 3 := ⟨xv_ci3, xv_tbi (xv_t1 (i := 73) rfl) rfl, xv_tbi (xv_t1 (i := 74) rfl) rfl, xv_tbi (xv_t1 (i := 3) rfl) rfl⟩
theorem nl_X10_23 : xv_NL RX10 23 2 := ⟨xv_ci2, xv_tbi (xv_t1 (i := 87) rfl) rfl, xv_tbi (xv_t1 (i := 88) rfl) rfl, xv_tbi (xv_t1 (i := 4) rfl) rfl⟩
theorem nl_X10_30 : xv_NL RX10 30 1 := ⟨xv_ci1, xv_tbi (xv_t1 (i := 141) rfl) rfl, xv_tbi (xv_t1 (i := 142) rfl) rfl, xv_tbi (xv_t1 (i := 5) rfl) rfl⟩
theorem nl_X10_37 : xv_NL RX10 37 6 := ⟨xv_ci6, xv_tbi (xv_t1 (i := 177) rfl) rfl, xv_tbi (xv_t1 (i := 178) rfl) rfl, xv_tbi (xv_t1 (i := 6) rfl) rfl⟩
theorem nl_X10_44 : xv_NL RX10 44 0 := ⟨xv_ci0, xv_tbi (xv_t1 (i := 216) rfl) rfl, xv_tbi (xv_t1 (i := 217) rfl) rfl, xv_tbi (xv_t1 (i := 7) rfl) rfl⟩
theorem nl_L_7 : xv_NL RL 7 10 := ⟨xv_ci10, xv_tbi (xv_t1 (i := 16) rfl) rfl, xv_tbi (xv_t1 (i := 17) rfl) rfl, xv_tbi (xv_t1 (i := 1) rfl) rfl⟩
theorem nl_L_10 : xv_NL RL 10 11 := ⟨xv_ci11, xv_tbi (xv_t4 (i := 208) rfl) rfl, xv_tbi (xv_t4 (i := 209) rfl) rfl, xv_tbi (xv_t1 (i := 10) rfl) rfl⟩
theorem ld_X0_60 : Jvm.Cond.constant RX0 60 (-900009) ∈ xv_tb := xv_tbi (xv_t4 (i := 118) rfl) rfl
theorem ld_X1_19 : Jvm.Cond.constant RX1 19 (-900009) ∈ xv_tb := xv_tbi (xv_t1 (i := 147) rfl) rfl
theorem ld_J6_265 : Jvm.Cond.constant RJ6 265 (1431655765) ∈ xv_tb := xv_tbi (xv_t2 (i := 213) rfl) rfl
theorem ld_J6_266 : Jvm.Cond.constant RJ6 266 (858993459) ∈ xv_tb := xv_tbi (xv_t2 (i := 214) rfl) rfl
theorem ld_J6_267 : Jvm.Cond.constant RJ6 267 (252645135) ∈ xv_tb := xv_tbi (xv_t2 (i := 215) rfl) rfl
theorem ld_X2_70 : Jvm.Cond.constant RX2 70 (-900009) ∈ xv_tb := xv_tbi (xv_t3 (i := 48) rfl) rfl
theorem ld_X6_63 : Jvm.Cond.constant RX6 63 (-900009) ∈ xv_tb := xv_tbi (xv_t3 (i := 139) rfl) rfl
theorem ld_X8_74 : Jvm.Cond.constant RX8 74 (-900009) ∈ xv_tb := xv_tbi (xv_t4 (i := 105) rfl) rfl
theorem ld_X10_55 : Jvm.Cond.constant RX10 55 (-900002) ∈ xv_tb := xv_tbi (xv_t2 (i := 84) rfl) rfl
theorem ld_X10_63 : Jvm.Cond.constant RX10 63 (-900004) ∈ xv_tb := xv_tbi (xv_t2 (i := 89) rfl) rfl
theorem ld_X10_75 : Jvm.Cond.constant RX10 75 (-900001) ∈ xv_tb := xv_tbi (xv_t2 (i := 106) rfl) rfl
theorem ld_X10_90 : Jvm.Cond.constant RX10 90 (-900003) ∈ xv_tb := xv_tbi (xv_t2 (i := 111) rfl) rfl
theorem ld_X10_101 : Jvm.Cond.constant RX10 101 (-900009) ∈ xv_tb := xv_tbi (xv_t2 (i := 128) rfl) rfl
theorem ld_X10_227 : Jvm.Cond.constant RX10 227 (100000) ∈ xv_tb := xv_tbi (xv_t3 (i := 182) rfl) rfl
theorem ld_X11_130 : Jvm.Cond.constant RX11 130 (-900002) ∈ xv_tb := xv_tbi (xv_t5 (i := 130) rfl) rfl
theorem ld_X11_138 : Jvm.Cond.constant RX11 138 (-900004) ∈ xv_tb := xv_tbi (xv_t5 (i := 137) rfl) rfl
theorem ld_X11_143 : Jvm.Cond.constant RX11 143 (-900001) ∈ xv_tb := xv_tbi (xv_t5 (i := 146) rfl) rfl
theorem ld_X11_144 : Jvm.Cond.constant RX11 144 (-900003) ∈ xv_tb := xv_tbi (xv_t5 (i := 151) rfl) rfl
theorem ld_X11_152 : Jvm.Cond.constant RX11 152 (-900009) ∈ xv_tb := xv_tbi (xv_t5 (i := 160) rfl) rfl
theorem ld_X11_189 : Jvm.Cond.constant RX11 189 (100000000) ∈ xv_tb := xv_tbi (xv_t5 (i := 238) rfl) rfl
theorem ld_X11_230 : Jvm.Cond.constant RX11 230 (65536) ∈ xv_tb := xv_tbi (xv_t6 (i := 88) rfl) rfl
theorem ld_X7_27 : Jvm.Cond.constantLong RX7 27 (1000) ∈ xv_tb := xv_tbi (xv_t3 (i := 169) rfl) rfl
theorem ld_X9_23 : Jvm.Cond.constantLong RX9 23 (-1) ∈ xv_tb := xv_tbi (xv_t4 (i := 153) rfl) rfl
theorem ld_X2_77 : Jvm.Cond.constantLong RX2 77 (743008370688) ∈ xv_tb := xv_tbi (xv_t3 (i := 12) rfl) rfl
theorem ld_X2_79 : Jvm.Cond.constantLong RX2 79 (12) ∈ xv_tb := xv_tbi (xv_t3 (i := 16) rfl) rfl
theorem ld_J13_314 : Jvm.Cond.constantLong RJ13 314 (6148914691236517205) ∈ xv_tb := xv_tbi (xv_t3 (i := 109) rfl) rfl
theorem ld_J13_316 : Jvm.Cond.constantLong RJ13 316 (3689348814741910323) ∈ xv_tb := xv_tbi (xv_t3 (i := 110) rfl) rfl
theorem ld_J13_318 : Jvm.Cond.constantLong RJ13 318 (1085102592571150095) ∈ xv_tb := xv_tbi (xv_t3 (i := 111) rfl) rfl
theorem ld_X6_68 : Jvm.Cond.constantLong RX6 68 (-1) ∈ xv_tb := xv_tbi (xv_t3 (i := 144) rfl) rfl
theorem ld_X8_31 : Jvm.Cond.constantLong RX8 31 (255) ∈ xv_tb := xv_tbi (xv_t4 (i := 78) rfl) rfl
theorem ld_X10_256 : Jvm.Cond.constantLong RX10 256 (-900001) ∈ xv_tb := xv_tbi (xv_t4 (i := 4) rfl) rfl
theorem ld_X10_258 : Jvm.Cond.constantLong RX10 258 (-900002) ∈ xv_tb := xv_tbi (xv_t4 (i := 5) rfl) rfl
theorem ld_X10_302 : Jvm.Cond.constantLong RX10 302 (-900003) ∈ xv_tb := xv_tbi (xv_t4 (i := 184) rfl) rfl
theorem ld_X11_124 : Jvm.Cond.constantLong RX11 124 (400) ∈ xv_tb := xv_tbi (xv_t5 (i := 126) rfl) rfl
theorem ld_X11_131 : Jvm.Cond.constantLong RX11 131 (200) ∈ xv_tb := xv_tbi (xv_t5 (i := 135) rfl) rfl
theorem ld_X11_133 : Jvm.Cond.constantLong RX11 133 (9) ∈ xv_tb := xv_tbi (xv_t5 (i := 136) rfl) rfl
theorem ld_X11_161 : Jvm.Cond.constantLong RX11 161 (100) ∈ xv_tb := xv_tbi (xv_t5 (i := 172) rfl) rfl
theorem ld_X11_179 : Jvm.Cond.constantLong RX11 179 (3) ∈ xv_tb := xv_tbi (xv_t5 (i := 216) rfl) rfl
theorem ld_X11_181 : Jvm.Cond.constantLong RX11 181 (9999) ∈ xv_tb := xv_tbi (xv_t5 (i := 217) rfl) rfl
theorem ld_X11_206 : Jvm.Cond.constantLong RX11 206 (3000) ∈ xv_tb := xv_tbi (xv_t6 (i := 31) rfl) rfl
theorem ld_X11_221 : Jvm.Cond.constantLong RX11 221 (15) ∈ xv_tb := xv_tbi (xv_t6 (i := 67) rfl) rfl
theorem ld_X11_243 : Jvm.Cond.constantLong RX11 243 (100000) ∈ xv_tb := xv_tbi (xv_t6 (i := 101) rfl) rfl
theorem ld_X11_245 : Jvm.Cond.constantLong RX11 245 (50) ∈ xv_tb := xv_tbi (xv_t6 (i := 102) rfl) rfl
theorem ld_X11_247 : Jvm.Cond.constantLong RX11 247 (10000) ∈ xv_tb := xv_tbi (xv_t6 (i := 103) rfl) rfl
theorem ld_X11_256 : Jvm.Cond.constantLong RX11 256 (1000) ∈ xv_tb := xv_tbi (xv_t6 (i := 117) rfl) rfl
theorem ld_X11_261 : Jvm.Cond.constantLong RX11 261 (60) ∈ xv_tb := xv_tbi (xv_t6 (i := 112) rfl) rfl
theorem ld_X11_270 : Jvm.Cond.constantLong RX11 270 (-900001) ∈ xv_tb := xv_tbi (xv_t6 (i := 134) rfl) rfl
theorem ld_X11_272 : Jvm.Cond.constantLong RX11 272 (2) ∈ xv_tb := xv_tbi (xv_t6 (i := 135) rfl) rfl
theorem ld_X11_274 : Jvm.Cond.constantLong RX11 274 (-900002) ∈ xv_tb := xv_tbi (xv_t6 (i := 136) rfl) rfl
theorem ld_X11_279 : Jvm.Cond.constantLong RX11 279 (599) ∈ xv_tb := xv_tbi (xv_t6 (i := 145) rfl) rfl
theorem ld_X11_284 : Jvm.Cond.constantLong RX11 284 (255) ∈ xv_tb := xv_tbi (xv_t6 (i := 154) rfl) rfl
theorem ld_X11_295 : Jvm.Cond.constantLong RX11 295 (62) ∈ xv_tb := xv_tbi (xv_t6 (i := 178) rfl) rfl
theorem ld_X11_297 : Jvm.Cond.constantLong RX11 297 (48) ∈ xv_tb := xv_tbi (xv_t6 (i := 179) rfl) rfl
theorem ld_X11_299 : Jvm.Cond.constantLong RX11 299 (57) ∈ xv_tb := xv_tbi (xv_t6 (i := 180) rfl) rfl
theorem ld_X11_331 : Jvm.Cond.constantLong RX11 331 (-900003) ∈ xv_tb := xv_tbi (xv_t6 (i := 212) rfl) rfl
theorem ld_L_163 : Jvm.Cond.constantLong RL 163 (4294967295) ∈ xv_tb := xv_tbi (xv_t6 (i := 221) rfl) rfl
