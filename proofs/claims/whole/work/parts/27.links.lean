theorem zin_0 {w : Cond} (h : w ∈ k2_sels lw_privs) : w ∈ lw_tbl := List.mem_append_left _ h
theorem zin_1 {w : Cond} (h : w ∈ tables_1_1) : w ∈ lw_tbl := (List.mem_append_right _ (List.mem_append_left _ h))
theorem zin_2 {w : Cond} (h : w ∈ tables_1_2) : w ∈ lw_tbl := (List.mem_append_right _ (List.mem_append_right _ (List.mem_append_left _ h)))
theorem zin_3 {w : Cond} (h : w ∈ tables_1_3) : w ∈ lw_tbl := (List.mem_append_right _ (List.mem_append_right _ (List.mem_append_right _ (List.mem_append_left _ h))))
theorem zin_4 {w : Cond} (h : w ∈ tables_1_4) : w ∈ lw_tbl := (List.mem_append_right _ (List.mem_append_right _ (List.mem_append_right _ (List.mem_append_right _ (List.mem_append_left _ h)))))
theorem zin_5 {w : Cond} (h : w ∈ tables_1_5) : w ∈ lw_tbl := (List.mem_append_right _ (List.mem_append_right _ (List.mem_append_right _ (List.mem_append_right _ (List.mem_append_right _ (List.mem_append_left _ h))))))
theorem zin_6 {w : Cond} (h : w ∈ tables_1_6) : w ∈ lw_tbl := (List.mem_append_right _ (List.mem_append_right _ (List.mem_append_right _ (List.mem_append_right _ (List.mem_append_right _ (List.mem_append_right _ (List.mem_append_left _ h)))))))
theorem zin_7 {w : Cond} (h : w ∈ tables_1_7) : w ∈ lw_tbl := (List.mem_append_right _ (List.mem_append_right _ (List.mem_append_right _ (List.mem_append_right _ (List.mem_append_right _ (List.mem_append_right _ (List.mem_append_right _ (List.mem_append_left _ h))))))))
theorem zin_8 {w : Cond} (h : w ∈ tables_1_8) : w ∈ lw_tbl := (List.mem_append_right _ (List.mem_append_right _ (List.mem_append_right _ (List.mem_append_right _ (List.mem_append_right _ (List.mem_append_right _ (List.mem_append_right _ (List.mem_append_right _ h))))))))
set_option maxRecDepth 20000 in
theorem fl_X10_10 : zFL RX10 10 10 14 0 2 2 := ⟨by decide, by decide, by decide, rfl, rfl, rfl, (zTb_in (zin_2 (List.mem_of_getElem? (i := 13) rfl)) rfl)⟩
set_option maxRecDepth 20000 in
theorem fl_X10_21 : zFL RX10 21 10 14 1 2 2 := ⟨by decide, by decide, by decide, rfl, rfl, rfl, (zTb_in (zin_2 (List.mem_of_getElem? (i := 14) rfl)) rfl)⟩
set_option maxRecDepth 20000 in
theorem fl_X10_28 : zFL RX10 28 10 14 2 2 2 := ⟨by decide, by decide, by decide, rfl, rfl, rfl, (zTb_in (zin_2 (List.mem_of_getElem? (i := 15) rfl)) rfl)⟩
set_option maxRecDepth 20000 in
theorem fl_X10_34 : zFL RX10 34 10 14 3 2 2 := ⟨by decide, by decide, by decide, rfl, rfl, rfl, (zTb_in (zin_2 (List.mem_of_getElem? (i := 16) rfl)) rfl)⟩
set_option maxRecDepth 20000 in
theorem fl_X10_40 : zFL RX10 40 10 14 4 2 2 := ⟨by decide, by decide, by decide, rfl, rfl, rfl, (zTb_in (zin_2 (List.mem_of_getElem? (i := 17) rfl)) rfl)⟩
set_option maxRecDepth 20000 in
theorem fl_X10_47 : zFL RX10 47 10 14 5 2 2 := ⟨by decide, by decide, by decide, rfl, rfl, rfl, (zTb_in (zin_2 (List.mem_of_getElem? (i := 18) rfl)) rfl)⟩
set_option maxRecDepth 20000 in
theorem fl_X10_54 : zFL RX10 54 10 14 6 2 2 := ⟨by decide, by decide, by decide, rfl, rfl, rfl, (zTb_in (zin_2 (List.mem_of_getElem? (i := 19) rfl)) rfl)⟩
set_option maxRecDepth 20000 in
theorem fl_X10_61 : zFL RX10 61 10 14 7 2 2 := ⟨by decide, by decide, by decide, rfl, rfl, rfl, (zTb_in (zin_2 (List.mem_of_getElem? (i := 20) rfl)) rfl)⟩
set_option maxRecDepth 20000 in
theorem fl_X10_68 : zFL RX10 68 10 14 8 2 2 := ⟨by decide, by decide, by decide, rfl, rfl, rfl, (zTb_in (zin_2 (List.mem_of_getElem? (i := 21) rfl)) rfl)⟩
set_option maxRecDepth 20000 in
theorem fl_X10_75 : zFL RX10 75 10 14 9 2 2 := ⟨by decide, by decide, by decide, rfl, rfl, rfl, (zTb_in (zin_2 (List.mem_of_getElem? (i := 22) rfl)) rfl)⟩
set_option maxRecDepth 20000 in
theorem fl_X10_79 : zFL RX10 79 10 14 13 0 0 := ⟨by decide, by decide, by decide, rfl, rfl, rfl, (zTb_in (zin_2 (List.mem_of_getElem? (i := 26) rfl)) rfl)⟩
set_option maxRecDepth 20000 in
theorem fl_X10_83 : zFL RX10 83 9 2 1 0 0 := ⟨by decide, by decide, by decide, rfl, rfl, rfl, (zTb_in (zin_1 (List.mem_of_getElem? (i := 38) rfl)) rfl)⟩
set_option maxRecDepth 20000 in
theorem fl_X10_94 : zFL RX10 94 10 14 10 0 0 := ⟨by decide, by decide, by decide, rfl, rfl, rfl, (zTb_in (zin_2 (List.mem_of_getElem? (i := 23) rfl)) rfl)⟩
set_option maxRecDepth 20000 in
theorem fl_X10_97 : zFL RX10 97 4 7 0 2 2 := ⟨by decide, by decide, by decide, rfl, rfl, rfl, (zTb_in (zin_1 (List.mem_of_getElem? (i := 53) rfl)) rfl)⟩
set_option maxRecDepth 20000 in
theorem fl_X10_101 : zFL RX10 101 4 7 1 0 0 := ⟨by decide, by decide, by decide, rfl, rfl, rfl, (zTb_in (zin_1 (List.mem_of_getElem? (i := 55) rfl)) rfl)⟩
set_option maxRecDepth 20000 in
theorem fl_X10_119 : zFL RX10 119 7 1 0 2 2 := ⟨by decide, by decide, by decide, rfl, rfl, rfl, (zTb_in (zin_3 (List.mem_of_getElem? (i := 50) rfl)) rfl)⟩
set_option maxRecDepth 20000 in
theorem fl_X10_135 : zFL RX10 135 10 14 12 0 0 := ⟨by decide, by decide, by decide, rfl, rfl, rfl, (zTb_in (zin_2 (List.mem_of_getElem? (i := 25) rfl)) rfl)⟩
set_option maxRecDepth 20000 in
theorem fl_X10_144 : zFL RX10 144 10 14 11 0 0 := ⟨by decide, by decide, by decide, rfl, rfl, rfl, (zTb_in (zin_2 (List.mem_of_getElem? (i := 24) rfl)) rfl)⟩
set_option maxRecDepth 20000 in
theorem fl_X10_149 : zFL RX10 149 8 14 0 0 0 := ⟨by decide, by decide, by decide, rfl, rfl, rfl, (zTb_in (zin_3 (List.mem_of_getElem? (i := 161) rfl)) rfl)⟩
set_option maxRecDepth 20000 in
theorem fl_X10_152 : zFL RX10 152 8 14 1 2 2 := ⟨by decide, by decide, by decide, rfl, rfl, rfl, (zTb_in (zin_3 (List.mem_of_getElem? (i := 163) rfl)) rfl)⟩
set_option maxRecDepth 20000 in
theorem fl_X10_166 : zFL RX10 166 3 9 0 0 0 := ⟨by decide, by decide, by decide, rfl, rfl, rfl, (zTb_in (zin_1 (List.mem_of_getElem? (i := 104) rfl)) rfl)⟩
set_option maxRecDepth 20000 in
theorem fl_X10_177 : zFL RX10 177 3 9 1 0 0 := ⟨by decide, by decide, by decide, rfl, rfl, rfl, (zTb_in (zin_1 (List.mem_of_getElem? (i := 106) rfl)) rfl)⟩
set_option maxRecDepth 20000 in
theorem fl_X10_198 : zFL RX10 198 3 9 2 2 2 := ⟨by decide, by decide, by decide, rfl, rfl, rfl, (zTb_in (zin_1 (List.mem_of_getElem? (i := 108) rfl)) rfl)⟩
set_option maxRecDepth 20000 in
theorem fl_X10_201 : zFL RX10 201 5 2 0 2 2 := ⟨by decide, by decide, by decide, rfl, rfl, rfl, (zTb_in (zin_1 (List.mem_of_getElem? (i := 171) rfl)) rfl)⟩
set_option maxRecDepth 20000 in
theorem fl_X10_229 : zFL RX10 229 1 7 0 0 0 := ⟨by decide, by decide, by decide, rfl, rfl, rfl, (zTb_in (zin_1 (List.mem_of_getElem? (i := 141) rfl)) rfl)⟩
set_option maxRecDepth 20000 in
theorem fl_X10_232 : zFL RX10 232 1 7 1 0 0 := ⟨by decide, by decide, by decide, rfl, rfl, rfl, (zTb_in (zin_1 (List.mem_of_getElem? (i := 143) rfl)) rfl)⟩
set_option maxRecDepth 20000 in
theorem fl_X10_243 : zFL RX10 243 6 12 0 0 0 := ⟨by decide, by decide, by decide, rfl, rfl, rfl, (zTb_in (zin_1 (List.mem_of_getElem? (i := 185) rfl)) rfl)⟩
set_option maxRecDepth 20000 in
theorem fl_X10_252 : zFL RX10 252 6 12 1 0 0 := ⟨by decide, by decide, by decide, rfl, rfl, rfl, (zTb_in (zin_1 (List.mem_of_getElem? (i := 187) rfl)) rfl)⟩
set_option maxRecDepth 20000 in
theorem fl_X10_255 : zFL RX10 255 6 12 2 0 0 := ⟨by decide, by decide, by decide, rfl, rfl, rfl, (zTb_in (zin_1 (List.mem_of_getElem? (i := 189) rfl)) rfl)⟩
set_option maxRecDepth 20000 in
theorem fl_X10_264 : zFL RX10 264 8 14 11 3 0 := ⟨by decide, by decide, by decide, rfl, rfl, rfl, (zTb_in (zin_3 (List.mem_of_getElem? (i := 181) rfl)) rfl)⟩
set_option maxRecDepth 20000 in
theorem fl_X10_277 : zFL RX10 277 8 14 12 0 0 := ⟨by decide, by decide, by decide, rfl, rfl, rfl, (zTb_in (zin_3 (List.mem_of_getElem? (i := 183) rfl)) rfl)⟩
set_option maxRecDepth 20000 in
theorem fl_X10_288 : zFL RX10 288 8 14 9 2 2 := ⟨by decide, by decide, by decide, rfl, rfl, rfl, (zTb_in (zin_3 (List.mem_of_getElem? (i := 177) rfl)) rfl)⟩
set_option maxRecDepth 20000 in
theorem fl_X10_302 : zFL RX10 302 2 6 1 2 2 := ⟨by decide, by decide, by decide, rfl, rfl, rfl, (zTb_in (zin_1 (List.mem_of_getElem? (i := 233) rfl)) rfl)⟩
set_option maxRecDepth 20000 in
theorem fl_X10_305 : zFL RX10 305 2 6 2 2 2 := ⟨by decide, by decide, by decide, rfl, rfl, rfl, (zTb_in (zin_1 (List.mem_of_getElem? (i := 235) rfl)) rfl)⟩
set_option maxRecDepth 20000 in
theorem fl_X10_311 : zFL RX10 311 2 6 3 2 2 := ⟨by decide, by decide, by decide, rfl, rfl, rfl, (zTb_in (zin_1 (List.mem_of_getElem? (i := 237) rfl)) rfl)⟩
set_option maxRecDepth 20000 in
theorem fl_X10_314 : zFL RX10 314 2 6 0 0 0 := ⟨by decide, by decide, by decide, rfl, rfl, rfl, (zTb_in (zin_1 (List.mem_of_getElem? (i := 231) rfl)) rfl)⟩
set_option maxRecDepth 20000 in
theorem fl_X10_316 : zFL RX10 316 8 14 10 2 2 := ⟨by decide, by decide, by decide, rfl, rfl, rfl, (zTb_in (zin_3 (List.mem_of_getElem? (i := 179) rfl)) rfl)⟩
set_option maxRecDepth 20000 in
theorem fl_X10_325 : zFL RX10 325 8 14 2 2 2 := ⟨by decide, by decide, by decide, rfl, rfl, rfl, (zTb_in (zin_3 (List.mem_of_getElem? (i := 165) rfl)) rfl)⟩
set_option maxRecDepth 20000 in
theorem fl_X10_328 : zFL RX10 328 8 14 3 2 2 := ⟨by decide, by decide, by decide, rfl, rfl, rfl, (zTb_in (zin_3 (List.mem_of_getElem? (i := 167) rfl)) rfl)⟩
set_option maxRecDepth 20000 in
theorem fl_X10_331 : zFL RX10 331 8 14 5 2 2 := ⟨by decide, by decide, by decide, rfl, rfl, rfl, (zTb_in (zin_3 (List.mem_of_getElem? (i := 170) rfl)) rfl)⟩
set_option maxRecDepth 20000 in
theorem fl_X10_334 : zFL RX10 334 8 14 6 2 2 := ⟨by decide, by decide, by decide, rfl, rfl, rfl, (zTb_in (zin_3 (List.mem_of_getElem? (i := 172) rfl)) rfl)⟩
set_option maxRecDepth 20000 in
theorem fl_X10_337 : zFL RX10 337 8 14 8 2 2 := ⟨by decide, by decide, by decide, rfl, rfl, rfl, (zTb_in (zin_3 (List.mem_of_getElem? (i := 175) rfl)) rfl)⟩
set_option maxRecDepth 20000 in
theorem fl_X0_11 : zFL RX0 11 0 3 0 2 2 := ⟨by decide, by decide, by decide, rfl, rfl, rfl, (zTb_in (zin_1 (List.mem_of_getElem? (i := 82) rfl)) rfl)⟩
set_option maxRecDepth 20000 in
theorem fl_X0_15 : zFL RX0 15 0 3 1 2 2 := ⟨by decide, by decide, by decide, rfl, rfl, rfl, (zTb_in (zin_1 (List.mem_of_getElem? (i := 83) rfl)) rfl)⟩
set_option maxRecDepth 20000 in
theorem fl_X0_18 : zFL RX0 18 0 3 2 0 0 := ⟨by decide, by decide, by decide, rfl, rfl, rfl, (zTb_in (zin_1 (List.mem_of_getElem? (i := 84) rfl)) rfl)⟩
set_option maxRecDepth 20000 in
theorem fl_X1_11 : zFL RX1 11 1 7 2 2 2 := ⟨by decide, by decide, by decide, rfl, rfl, rfl, (zTb_in (zin_1 (List.mem_of_getElem? (i := 144) rfl)) rfl)⟩
set_option maxRecDepth 20000 in
theorem fl_X1_15 : zFL RX1 15 1 7 3 2 2 := ⟨by decide, by decide, by decide, rfl, rfl, rfl, (zTb_in (zin_1 (List.mem_of_getElem? (i := 145) rfl)) rfl)⟩
set_option maxRecDepth 20000 in
theorem fl_X1_18 : zFL RX1 18 1 7 4 2 2 := ⟨by decide, by decide, by decide, rfl, rfl, rfl, (zTb_in (zin_1 (List.mem_of_getElem? (i := 146) rfl)) rfl)⟩
set_option maxRecDepth 20000 in
theorem fl_X1_21 : zFL RX1 21 1 7 5 2 2 := ⟨by decide, by decide, by decide, rfl, rfl, rfl, (zTb_in (zin_1 (List.mem_of_getElem? (i := 147) rfl)) rfl)⟩
set_option maxRecDepth 20000 in
theorem fl_X1_26 : zFL RX1 26 1 7 0 0 0 := ⟨by decide, by decide, by decide, rfl, rfl, rfl, (zTb_in (zin_1 (List.mem_of_getElem? (i := 140) rfl)) rfl)⟩
set_option maxRecDepth 20000 in
theorem fl_X1_30 : zFL RX1 30 1 7 1 0 0 := ⟨by decide, by decide, by decide, rfl, rfl, rfl, (zTb_in (zin_1 (List.mem_of_getElem? (i := 142) rfl)) rfl)⟩
set_option maxRecDepth 20000 in
theorem fl_X1_33 : zFL RX1 33 1 7 6 0 0 := ⟨by decide, by decide, by decide, rfl, rfl, rfl, (zTb_in (zin_1 (List.mem_of_getElem? (i := 148) rfl)) rfl)⟩
set_option maxRecDepth 20000 in
theorem fl_X2_11 : zFL RX2 11 2 6 1 2 2 := ⟨by decide, by decide, by decide, rfl, rfl, rfl, (zTb_in (zin_1 (List.mem_of_getElem? (i := 232) rfl)) rfl)⟩
set_option maxRecDepth 20000 in
theorem fl_X2_15 : zFL RX2 15 2 6 2 2 2 := ⟨by decide, by decide, by decide, rfl, rfl, rfl, (zTb_in (zin_1 (List.mem_of_getElem? (i := 234) rfl)) rfl)⟩
set_option maxRecDepth 20000 in
theorem fl_X2_18 : zFL RX2 18 2 6 3 2 2 := ⟨by decide, by decide, by decide, rfl, rfl, rfl, (zTb_in (zin_1 (List.mem_of_getElem? (i := 236) rfl)) rfl)⟩
set_option maxRecDepth 20000 in
theorem fl_X2_21 : zFL RX2 21 2 6 4 2 2 := ⟨by decide, by decide, by decide, rfl, rfl, rfl, (zTb_in (zin_1 (List.mem_of_getElem? (i := 238) rfl)) rfl)⟩
set_option maxRecDepth 20000 in
theorem fl_X2_24 : zFL RX2 24 2 6 5 2 2 := ⟨by decide, by decide, by decide, rfl, rfl, rfl, (zTb_in (zin_1 (List.mem_of_getElem? (i := 239) rfl)) rfl)⟩
set_option maxRecDepth 20000 in
theorem fl_X2_27 : zFL RX2 27 2 6 0 0 0 := ⟨by decide, by decide, by decide, rfl, rfl, rfl, (zTb_in (zin_1 (List.mem_of_getElem? (i := 230) rfl)) rfl)⟩
set_option maxRecDepth 20000 in
theorem fl_X3_9 : zFL RX3 9 3 9 2 2 2 := ⟨by decide, by decide, by decide, rfl, rfl, rfl, (zTb_in (zin_1 (List.mem_of_getElem? (i := 107) rfl)) rfl)⟩
set_option maxRecDepth 20000 in
theorem fl_X3_15 : zFL RX3 15 3 9 3 2 2 := ⟨by decide, by decide, by decide, rfl, rfl, rfl, (zTb_in (zin_1 (List.mem_of_getElem? (i := 109) rfl)) rfl)⟩
set_option maxRecDepth 20000 in
theorem fl_X3_18 : zFL RX3 18 3 9 4 2 2 := ⟨by decide, by decide, by decide, rfl, rfl, rfl, (zTb_in (zin_1 (List.mem_of_getElem? (i := 110) rfl)) rfl)⟩
set_option maxRecDepth 20000 in
theorem fl_X3_21 : zFL RX3 21 3 9 5 2 2 := ⟨by decide, by decide, by decide, rfl, rfl, rfl, (zTb_in (zin_1 (List.mem_of_getElem? (i := 111) rfl)) rfl)⟩
set_option maxRecDepth 20000 in
theorem fl_X3_24 : zFL RX3 24 3 9 6 2 2 := ⟨by decide, by decide, by decide, rfl, rfl, rfl, (zTb_in (zin_1 (List.mem_of_getElem? (i := 112) rfl)) rfl)⟩
set_option maxRecDepth 20000 in
theorem fl_X3_27 : zFL RX3 27 3 9 7 2 2 := ⟨by decide, by decide, by decide, rfl, rfl, rfl, (zTb_in (zin_1 (List.mem_of_getElem? (i := 113) rfl)) rfl)⟩
set_option maxRecDepth 20000 in
theorem fl_X3_30 : zFL RX3 30 3 9 8 2 2 := ⟨by decide, by decide, by decide, rfl, rfl, rfl, (zTb_in (zin_1 (List.mem_of_getElem? (i := 114) rfl)) rfl)⟩
set_option maxRecDepth 20000 in
theorem fl_X3_33 : zFL RX3 33 3 9 0 0 0 := ⟨by decide, by decide, by decide, rfl, rfl, rfl, (zTb_in (zin_1 (List.mem_of_getElem? (i := 103) rfl)) rfl)⟩
set_option maxRecDepth 20000 in
theorem fl_X3_37 : zFL RX3 37 3 9 1 0 0 := ⟨by decide, by decide, by decide, rfl, rfl, rfl, (zTb_in (zin_1 (List.mem_of_getElem? (i := 105) rfl)) rfl)⟩
set_option maxRecDepth 20000 in
theorem fl_X3_58 : zFL RX3 58 8 14 0 0 0 := ⟨by decide, by decide, by decide, rfl, rfl, rfl, (zTb_in (zin_3 (List.mem_of_getElem? (i := 160) rfl)) rfl)⟩
set_option maxRecDepth 20000 in
theorem fl_X4_11 : zFL RX4 11 4 7 0 2 2 := ⟨by decide, by decide, by decide, rfl, rfl, rfl, (zTb_in (zin_1 (List.mem_of_getElem? (i := 52) rfl)) rfl)⟩
set_option maxRecDepth 20000 in
theorem fl_X4_15 : zFL RX4 15 4 7 2 2 2 := ⟨by decide, by decide, by decide, rfl, rfl, rfl, (zTb_in (zin_1 (List.mem_of_getElem? (i := 56) rfl)) rfl)⟩
set_option maxRecDepth 20000 in
theorem fl_X4_19 : zFL RX4 19 4 7 1 0 0 := ⟨by decide, by decide, by decide, rfl, rfl, rfl, (zTb_in (zin_1 (List.mem_of_getElem? (i := 54) rfl)) rfl)⟩
set_option maxRecDepth 20000 in
theorem fl_X4_23 : zFL RX4 23 4 7 3 0 0 := ⟨by decide, by decide, by decide, rfl, rfl, rfl, (zTb_in (zin_1 (List.mem_of_getElem? (i := 57) rfl)) rfl)⟩
set_option maxRecDepth 20000 in
theorem fl_X4_33 : zFL RX4 33 4 7 5 0 0 := ⟨by decide, by decide, by decide, rfl, rfl, rfl, (zTb_in (zin_1 (List.mem_of_getElem? (i := 59) rfl)) rfl)⟩
set_option maxRecDepth 20000 in
theorem fl_X4_36 : zFL RX4 36 4 7 4 0 0 := ⟨by decide, by decide, by decide, rfl, rfl, rfl, (zTb_in (zin_1 (List.mem_of_getElem? (i := 58) rfl)) rfl)⟩
set_option maxRecDepth 20000 in
theorem fl_X4_48 : zFL RX4 48 4 7 6 0 0 := ⟨by decide, by decide, by decide, rfl, rfl, rfl, (zTb_in (zin_1 (List.mem_of_getElem? (i := 60) rfl)) rfl)⟩
set_option maxRecDepth 20000 in
theorem fl_X5_11 : zFL RX5 11 5 2 0 2 2 := ⟨by decide, by decide, by decide, rfl, rfl, rfl, (zTb_in (zin_1 (List.mem_of_getElem? (i := 170) rfl)) rfl)⟩
set_option maxRecDepth 20000 in
theorem fl_X5_17 : zFL RX5 17 5 2 1 2 2 := ⟨by decide, by decide, by decide, rfl, rfl, rfl, (zTb_in (zin_1 (List.mem_of_getElem? (i := 172) rfl)) rfl)⟩
set_option maxRecDepth 20000 in
theorem fl_X5_27 : zFL RX5 27 8 14 0 0 0 := ⟨by decide, by decide, by decide, rfl, rfl, rfl, (zTb_in (zin_3 (List.mem_of_getElem? (i := 159) rfl)) rfl)⟩
set_option maxRecDepth 20000 in
theorem fl_X6_11 : zFL RX6 11 6 12 3 2 2 := ⟨by decide, by decide, by decide, rfl, rfl, rfl, (zTb_in (zin_1 (List.mem_of_getElem? (i := 190) rfl)) rfl)⟩
set_option maxRecDepth 20000 in
theorem fl_X6_15 : zFL RX6 15 6 12 4 2 2 := ⟨by decide, by decide, by decide, rfl, rfl, rfl, (zTb_in (zin_1 (List.mem_of_getElem? (i := 191) rfl)) rfl)⟩
set_option maxRecDepth 20000 in
theorem fl_X6_18 : zFL RX6 18 6 12 6 2 2 := ⟨by decide, by decide, by decide, rfl, rfl, rfl, (zTb_in (zin_1 (List.mem_of_getElem? (i := 193) rfl)) rfl)⟩
set_option maxRecDepth 20000 in
theorem fl_X6_21 : zFL RX6 21 6 12 8 2 2 := ⟨by decide, by decide, by decide, rfl, rfl, rfl, (zTb_in (zin_1 (List.mem_of_getElem? (i := 195) rfl)) rfl)⟩
set_option maxRecDepth 20000 in
theorem fl_X6_24 : zFL RX6 24 6 12 9 2 2 := ⟨by decide, by decide, by decide, rfl, rfl, rfl, (zTb_in (zin_1 (List.mem_of_getElem? (i := 196) rfl)) rfl)⟩
set_option maxRecDepth 20000 in
theorem fl_X6_28 : zFL RX6 28 6 12 0 0 0 := ⟨by decide, by decide, by decide, rfl, rfl, rfl, (zTb_in (zin_1 (List.mem_of_getElem? (i := 184) rfl)) rfl)⟩
set_option maxRecDepth 20000 in
theorem fl_X6_60 : zFL RX6 60 6 12 5 0 0 := ⟨by decide, by decide, by decide, rfl, rfl, rfl, (zTb_in (zin_1 (List.mem_of_getElem? (i := 192) rfl)) rfl)⟩
set_option maxRecDepth 20000 in
theorem fl_X6_81 : zFL RX6 81 6 12 1 0 0 := ⟨by decide, by decide, by decide, rfl, rfl, rfl, (zTb_in (zin_1 (List.mem_of_getElem? (i := 186) rfl)) rfl)⟩
set_option maxRecDepth 20000 in
theorem fl_X6_84 : zFL RX6 84 6 12 2 0 0 := ⟨by decide, by decide, by decide, rfl, rfl, rfl, (zTb_in (zin_1 (List.mem_of_getElem? (i := 188) rfl)) rfl)⟩
set_option maxRecDepth 20000 in
theorem fl_X6_94 : zFL RX6 94 6 12 11 2 2 := ⟨by decide, by decide, by decide, rfl, rfl, rfl, (zTb_in (zin_1 (List.mem_of_getElem? (i := 198) rfl)) rfl)⟩
set_option maxRecDepth 20000 in
theorem fl_X6_104 : zFL RX6 104 6 12 7 0 0 := ⟨by decide, by decide, by decide, rfl, rfl, rfl, (zTb_in (zin_1 (List.mem_of_getElem? (i := 194) rfl)) rfl)⟩
set_option maxRecDepth 20000 in
theorem fl_X6_107 : zFL RX6 107 6 12 10 1 1 := ⟨by decide, by decide, by decide, rfl, rfl, rfl, (zTb_in (zin_1 (List.mem_of_getElem? (i := 197) rfl)) rfl)⟩
set_option maxRecDepth 20000 in
theorem fl_X7_7 : zFL RX7 7 7 1 0 2 2 := ⟨by decide, by decide, by decide, rfl, rfl, rfl, (zTb_in (zin_3 (List.mem_of_getElem? (i := 49) rfl)) rfl)⟩
set_option maxRecDepth 20000 in
theorem fl_X8_18 : zFL RX8 18 8 14 0 0 0 := ⟨by decide, by decide, by decide, rfl, rfl, rfl, (zTb_in (zin_3 (List.mem_of_getElem? (i := 158) rfl)) rfl)⟩
set_option maxRecDepth 20000 in
theorem fl_X8_29 : zFL RX8 29 8 14 1 2 2 := ⟨by decide, by decide, by decide, rfl, rfl, rfl, (zTb_in (zin_3 (List.mem_of_getElem? (i := 162) rfl)) rfl)⟩
set_option maxRecDepth 20000 in
theorem fl_X8_33 : zFL RX8 33 8 14 2 2 2 := ⟨by decide, by decide, by decide, rfl, rfl, rfl, (zTb_in (zin_3 (List.mem_of_getElem? (i := 164) rfl)) rfl)⟩
set_option maxRecDepth 20000 in
theorem fl_X8_36 : zFL RX8 36 8 14 3 2 2 := ⟨by decide, by decide, by decide, rfl, rfl, rfl, (zTb_in (zin_3 (List.mem_of_getElem? (i := 166) rfl)) rfl)⟩
set_option maxRecDepth 20000 in
theorem fl_X8_39 : zFL RX8 39 8 14 4 2 2 := ⟨by decide, by decide, by decide, rfl, rfl, rfl, (zTb_in (zin_3 (List.mem_of_getElem? (i := 168) rfl)) rfl)⟩
set_option maxRecDepth 20000 in
theorem fl_X8_42 : zFL RX8 42 8 14 5 2 2 := ⟨by decide, by decide, by decide, rfl, rfl, rfl, (zTb_in (zin_3 (List.mem_of_getElem? (i := 169) rfl)) rfl)⟩
set_option maxRecDepth 20000 in
theorem fl_X8_45 : zFL RX8 45 8 14 6 2 2 := ⟨by decide, by decide, by decide, rfl, rfl, rfl, (zTb_in (zin_3 (List.mem_of_getElem? (i := 171) rfl)) rfl)⟩
set_option maxRecDepth 20000 in
theorem fl_X8_48 : zFL RX8 48 8 14 7 2 2 := ⟨by decide, by decide, by decide, rfl, rfl, rfl, (zTb_in (zin_3 (List.mem_of_getElem? (i := 173) rfl)) rfl)⟩
set_option maxRecDepth 20000 in
theorem fl_X8_51 : zFL RX8 51 8 14 8 2 2 := ⟨by decide, by decide, by decide, rfl, rfl, rfl, (zTb_in (zin_3 (List.mem_of_getElem? (i := 174) rfl)) rfl)⟩
set_option maxRecDepth 20000 in
theorem fl_X8_54 : zFL RX8 54 8 14 9 2 2 := ⟨by decide, by decide, by decide, rfl, rfl, rfl, (zTb_in (zin_3 (List.mem_of_getElem? (i := 176) rfl)) rfl)⟩
set_option maxRecDepth 20000 in
theorem fl_X8_57 : zFL RX8 57 8 14 10 2 2 := ⟨by decide, by decide, by decide, rfl, rfl, rfl, (zTb_in (zin_3 (List.mem_of_getElem? (i := 178) rfl)) rfl)⟩
set_option maxRecDepth 20000 in
theorem fl_X8_76 : zFL RX8 76 8 14 11 3 0 := ⟨by decide, by decide, by decide, rfl, rfl, rfl, (zTb_in (zin_3 (List.mem_of_getElem? (i := 180) rfl)) rfl)⟩
set_option maxRecDepth 20000 in
theorem fl_X8_93 : zFL RX8 93 8 14 12 0 0 := ⟨by decide, by decide, by decide, rfl, rfl, rfl, (zTb_in (zin_3 (List.mem_of_getElem? (i := 182) rfl)) rfl)⟩
set_option maxRecDepth 20000 in
theorem fl_X8_96 : zFL RX8 96 8 14 13 0 0 := ⟨by decide, by decide, by decide, rfl, rfl, rfl, (zTb_in (zin_3 (List.mem_of_getElem? (i := 184) rfl)) rfl)⟩
set_option maxRecDepth 20000 in
theorem fl_X9_9 : zFL RX9 9 9 2 0 2 2 := ⟨by decide, by decide, by decide, rfl, rfl, rfl, (zTb_in (zin_1 (List.mem_of_getElem? (i := 37) rfl)) rfl)⟩
set_option maxRecDepth 20000 in
theorem fl_X9_15 : zFL RX9 15 9 2 1 0 0 := ⟨by decide, by decide, by decide, rfl, rfl, rfl, (zTb_in (zin_1 (List.mem_of_getElem? (i := 39) rfl)) rfl)⟩
set_option maxRecDepth 20000 in
theorem fl_X11_9 : zFL RX11 9 11 64 0 2 2 := ⟨by decide, by decide, by decide, rfl, rfl, rfl, (zTb_in (zin_5 (List.mem_of_getElem? (i := 182) rfl)) rfl)⟩
set_option maxRecDepth 20000 in
theorem fl_X11_13 : zFL RX11 13 11 64 6 2 2 := ⟨by decide, by decide, by decide, rfl, rfl, rfl, (zTb_in (zin_5 (List.mem_of_getElem? (i := 188) rfl)) rfl)⟩
set_option maxRecDepth 20000 in
theorem fl_X11_17 : zFL RX11 17 11 64 9 2 2 := ⟨by decide, by decide, by decide, rfl, rfl, rfl, (zTb_in (zin_5 (List.mem_of_getElem? (i := 191) rfl)) rfl)⟩
set_option maxRecDepth 20000 in
theorem fl_X11_20 : zFL RX11 20 11 64 10 2 2 := ⟨by decide, by decide, by decide, rfl, rfl, rfl, (zTb_in (zin_5 (List.mem_of_getElem? (i := 192) rfl)) rfl)⟩
set_option maxRecDepth 20000 in
theorem fl_X11_23 : zFL RX11 23 11 64 13 2 2 := ⟨by decide, by decide, by decide, rfl, rfl, rfl, (zTb_in (zin_5 (List.mem_of_getElem? (i := 195) rfl)) rfl)⟩
set_option maxRecDepth 20000 in
theorem fl_X11_26 : zFL RX11 26 11 64 14 2 2 := ⟨by decide, by decide, by decide, rfl, rfl, rfl, (zTb_in (zin_5 (List.mem_of_getElem? (i := 196) rfl)) rfl)⟩
set_option maxRecDepth 20000 in
theorem fl_X11_29 : zFL RX11 29 11 64 15 2 2 := ⟨by decide, by decide, by decide, rfl, rfl, rfl, (zTb_in (zin_5 (List.mem_of_getElem? (i := 197) rfl)) rfl)⟩
set_option maxRecDepth 20000 in
theorem fl_X11_32 : zFL RX11 32 11 64 18 2 2 := ⟨by decide, by decide, by decide, rfl, rfl, rfl, (zTb_in (zin_5 (List.mem_of_getElem? (i := 200) rfl)) rfl)⟩
set_option maxRecDepth 20000 in
theorem fl_X11_35 : zFL RX11 35 11 64 19 2 2 := ⟨by decide, by decide, by decide, rfl, rfl, rfl, (zTb_in (zin_5 (List.mem_of_getElem? (i := 201) rfl)) rfl)⟩
set_option maxRecDepth 20000 in
theorem fl_X11_38 : zFL RX11 38 11 64 22 2 2 := ⟨by decide, by decide, by decide, rfl, rfl, rfl, (zTb_in (zin_5 (List.mem_of_getElem? (i := 204) rfl)) rfl)⟩
set_option maxRecDepth 20000 in
theorem fl_X11_41 : zFL RX11 41 11 64 23 2 2 := ⟨by decide, by decide, by decide, rfl, rfl, rfl, (zTb_in (zin_5 (List.mem_of_getElem? (i := 205) rfl)) rfl)⟩
set_option maxRecDepth 20000 in
theorem fl_X11_44 : zFL RX11 44 11 64 24 2 2 := ⟨by decide, by decide, by decide, rfl, rfl, rfl, (zTb_in (zin_5 (List.mem_of_getElem? (i := 206) rfl)) rfl)⟩
set_option maxRecDepth 20000 in
theorem fl_X11_47 : zFL RX11 47 11 64 25 2 2 := ⟨by decide, by decide, by decide, rfl, rfl, rfl, (zTb_in (zin_5 (List.mem_of_getElem? (i := 207) rfl)) rfl)⟩
set_option maxRecDepth 20000 in
theorem fl_X11_50 : zFL RX11 50 11 64 26 2 2 := ⟨by decide, by decide, by decide, rfl, rfl, rfl, (zTb_in (zin_5 (List.mem_of_getElem? (i := 208) rfl)) rfl)⟩
set_option maxRecDepth 20000 in
theorem fl_X11_53 : zFL RX11 53 11 64 27 2 2 := ⟨by decide, by decide, by decide, rfl, rfl, rfl, (zTb_in (zin_5 (List.mem_of_getElem? (i := 209) rfl)) rfl)⟩
set_option maxRecDepth 20000 in
theorem fl_X11_56 : zFL RX11 56 11 64 28 2 2 := ⟨by decide, by decide, by decide, rfl, rfl, rfl, (zTb_in (zin_5 (List.mem_of_getElem? (i := 210) rfl)) rfl)⟩
set_option maxRecDepth 20000 in
theorem fl_X11_59 : zFL RX11 59 11 64 29 2 2 := ⟨by decide, by decide, by decide, rfl, rfl, rfl, (zTb_in (zin_5 (List.mem_of_getElem? (i := 211) rfl)) rfl)⟩
set_option maxRecDepth 20000 in
theorem fl_X11_62 : zFL RX11 62 11 64 30 2 2 := ⟨by decide, by decide, by decide, rfl, rfl, rfl, (zTb_in (zin_5 (List.mem_of_getElem? (i := 212) rfl)) rfl)⟩
set_option maxRecDepth 20000 in
theorem fl_X11_65 : zFL RX11 65 11 64 31 2 2 := ⟨by decide, by decide, by decide, rfl, rfl, rfl, (zTb_in (zin_5 (List.mem_of_getElem? (i := 213) rfl)) rfl)⟩
set_option maxRecDepth 20000 in
theorem fl_X11_68 : zFL RX11 68 11 64 32 2 2 := ⟨by decide, by decide, by decide, rfl, rfl, rfl, (zTb_in (zin_5 (List.mem_of_getElem? (i := 214) rfl)) rfl)⟩
set_option maxRecDepth 20000 in
theorem fl_X11_72 : zFL RX11 72 11 64 33 0 0 := ⟨by decide, by decide, by decide, rfl, rfl, rfl, (zTb_in (zin_5 (List.mem_of_getElem? (i := 215) rfl)) rfl)⟩
set_option maxRecDepth 20000 in
theorem fl_X11_76 : zFL RX11 76 11 64 34 2 2 := ⟨by decide, by decide, by decide, rfl, rfl, rfl, (zTb_in (zin_5 (List.mem_of_getElem? (i := 216) rfl)) rfl)⟩
set_option maxRecDepth 20000 in
theorem fl_X11_79 : zFL RX11 79 11 64 35 2 2 := ⟨by decide, by decide, by decide, rfl, rfl, rfl, (zTb_in (zin_5 (List.mem_of_getElem? (i := 217) rfl)) rfl)⟩
set_option maxRecDepth 20000 in
theorem fl_X11_82 : zFL RX11 82 11 64 36 2 2 := ⟨by decide, by decide, by decide, rfl, rfl, rfl, (zTb_in (zin_5 (List.mem_of_getElem? (i := 218) rfl)) rfl)⟩
set_option maxRecDepth 20000 in
theorem fl_X11_85 : zFL RX11 85 11 64 38 2 2 := ⟨by decide, by decide, by decide, rfl, rfl, rfl, (zTb_in (zin_5 (List.mem_of_getElem? (i := 220) rfl)) rfl)⟩
set_option maxRecDepth 20000 in
theorem fl_X11_88 : zFL RX11 88 11 64 39 2 2 := ⟨by decide, by decide, by decide, rfl, rfl, rfl, (zTb_in (zin_5 (List.mem_of_getElem? (i := 221) rfl)) rfl)⟩
set_option maxRecDepth 20000 in
theorem fl_X11_91 : zFL RX11 91 11 64 40 2 2 := ⟨by decide, by decide, by decide, rfl, rfl, rfl, (zTb_in (zin_5 (List.mem_of_getElem? (i := 222) rfl)) rfl)⟩
set_option maxRecDepth 20000 in
theorem fl_X11_94 : zFL RX11 94 11 64 41 2 2 := ⟨by decide, by decide, by decide, rfl, rfl, rfl, (zTb_in (zin_5 (List.mem_of_getElem? (i := 223) rfl)) rfl)⟩
set_option maxRecDepth 20000 in
theorem fl_X11_97 : zFL RX11 97 11 64 42 2 2 := ⟨by decide, by decide, by decide, rfl, rfl, rfl, (zTb_in (zin_5 (List.mem_of_getElem? (i := 224) rfl)) rfl)⟩
set_option maxRecDepth 20000 in
theorem fl_X11_100 : zFL RX11 100 11 64 43 2 2 := ⟨by decide, by decide, by decide, rfl, rfl, rfl, (zTb_in (zin_5 (List.mem_of_getElem? (i := 225) rfl)) rfl)⟩
set_option maxRecDepth 20000 in
theorem fl_X11_103 : zFL RX11 103 11 64 47 2 2 := ⟨by decide, by decide, by decide, rfl, rfl, rfl, (zTb_in (zin_5 (List.mem_of_getElem? (i := 229) rfl)) rfl)⟩
set_option maxRecDepth 20000 in
theorem fl_X11_106 : zFL RX11 106 11 64 48 2 2 := ⟨by decide, by decide, by decide, rfl, rfl, rfl, (zTb_in (zin_5 (List.mem_of_getElem? (i := 230) rfl)) rfl)⟩
set_option maxRecDepth 20000 in
theorem fl_X11_109 : zFL RX11 109 11 64 49 2 2 := ⟨by decide, by decide, by decide, rfl, rfl, rfl, (zTb_in (zin_5 (List.mem_of_getElem? (i := 231) rfl)) rfl)⟩
set_option maxRecDepth 20000 in
theorem fl_X11_112 : zFL RX11 112 11 64 51 2 2 := ⟨by decide, by decide, by decide, rfl, rfl, rfl, (zTb_in (zin_5 (List.mem_of_getElem? (i := 233) rfl)) rfl)⟩
set_option maxRecDepth 20000 in
theorem fl_X11_115 : zFL RX11 115 11 64 52 2 2 := ⟨by decide, by decide, by decide, rfl, rfl, rfl, (zTb_in (zin_5 (List.mem_of_getElem? (i := 234) rfl)) rfl)⟩
set_option maxRecDepth 20000 in
theorem fl_X11_119 : zFL RX11 119 11 64 53 2 2 := ⟨by decide, by decide, by decide, rfl, rfl, rfl, (zTb_in (zin_5 (List.mem_of_getElem? (i := 235) rfl)) rfl)⟩
set_option maxRecDepth 20000 in
theorem fl_X11_122 : zFL RX11 122 11 64 55 2 2 := ⟨by decide, by decide, by decide, rfl, rfl, rfl, (zTb_in (zin_5 (List.mem_of_getElem? (i := 237) rfl)) rfl)⟩
set_option maxRecDepth 20000 in
theorem fl_X11_125 : zFL RX11 125 11 64 56 2 2 := ⟨by decide, by decide, by decide, rfl, rfl, rfl, (zTb_in (zin_5 (List.mem_of_getElem? (i := 238) rfl)) rfl)⟩
set_option maxRecDepth 20000 in
theorem fl_X11_128 : zFL RX11 128 11 64 57 2 2 := ⟨by decide, by decide, by decide, rfl, rfl, rfl, (zTb_in (zin_5 (List.mem_of_getElem? (i := 239) rfl)) rfl)⟩
set_option maxRecDepth 20000 in
theorem fl_X11_131 : zFL RX11 131 11 64 58 2 2 := ⟨by decide, by decide, by decide, rfl, rfl, rfl, (zTb_in (zin_6 (List.mem_of_getElem? (i := 0) rfl)) rfl)⟩
set_option maxRecDepth 20000 in
theorem fl_X11_134 : zFL RX11 134 11 64 59 2 2 := ⟨by decide, by decide, by decide, rfl, rfl, rfl, (zTb_in (zin_6 (List.mem_of_getElem? (i := 1) rfl)) rfl)⟩
set_option maxRecDepth 20000 in
theorem fl_X11_137 : zFL RX11 137 11 64 60 2 2 := ⟨by decide, by decide, by decide, rfl, rfl, rfl, (zTb_in (zin_6 (List.mem_of_getElem? (i := 2) rfl)) rfl)⟩
set_option maxRecDepth 20000 in
theorem fl_X11_140 : zFL RX11 140 11 64 1 0 0 := ⟨by decide, by decide, by decide, rfl, rfl, rfl, (zTb_in (zin_5 (List.mem_of_getElem? (i := 183) rfl)) rfl)⟩
set_option maxRecDepth 20000 in
theorem fl_X11_159 : zFL RX11 159 11 64 2 0 0 := ⟨by decide, by decide, by decide, rfl, rfl, rfl, (zTb_in (zin_5 (List.mem_of_getElem? (i := 184) rfl)) rfl)⟩
set_option maxRecDepth 20000 in
theorem fl_X11_162 : zFL RX11 162 11 64 4 0 0 := ⟨by decide, by decide, by decide, rfl, rfl, rfl, (zTb_in (zin_5 (List.mem_of_getElem? (i := 186) rfl)) rfl)⟩
set_option maxRecDepth 20000 in
theorem fl_X11_165 : zFL RX11 165 11 64 5 0 0 := ⟨by decide, by decide, by decide, rfl, rfl, rfl, (zTb_in (zin_5 (List.mem_of_getElem? (i := 187) rfl)) rfl)⟩
set_option maxRecDepth 20000 in
theorem fl_X11_168 : zFL RX11 168 11 64 3 0 0 := ⟨by decide, by decide, by decide, rfl, rfl, rfl, (zTb_in (zin_5 (List.mem_of_getElem? (i := 185) rfl)) rfl)⟩
set_option maxRecDepth 20000 in
theorem fl_X11_183 : zFL RX11 183 11 64 7 0 0 := ⟨by decide, by decide, by decide, rfl, rfl, rfl, (zTb_in (zin_5 (List.mem_of_getElem? (i := 189) rfl)) rfl)⟩
set_option maxRecDepth 20000 in
theorem fl_X11_186 : zFL RX11 186 11 64 11 0 0 := ⟨by decide, by decide, by decide, rfl, rfl, rfl, (zTb_in (zin_5 (List.mem_of_getElem? (i := 193) rfl)) rfl)⟩
set_option maxRecDepth 20000 in
theorem fl_X11_192 : zFL RX11 192 11 64 8 0 0 := ⟨by decide, by decide, by decide, rfl, rfl, rfl, (zTb_in (zin_5 (List.mem_of_getElem? (i := 190) rfl)) rfl)⟩
set_option maxRecDepth 20000 in
theorem fl_X11_239 : zFL RX11 239 11 64 12 0 0 := ⟨by decide, by decide, by decide, rfl, rfl, rfl, (zTb_in (zin_5 (List.mem_of_getElem? (i := 194) rfl)) rfl)⟩
set_option maxRecDepth 20000 in
theorem fl_X11_254 : zFL RX11 254 11 64 54 0 0 := ⟨by decide, by decide, by decide, rfl, rfl, rfl, (zTb_in (zin_5 (List.mem_of_getElem? (i := 236) rfl)) rfl)⟩
set_option maxRecDepth 20000 in
theorem fl_X11_287 : zFL RX11 287 11 64 16 0 0 := ⟨by decide, by decide, by decide, rfl, rfl, rfl, (zTb_in (zin_5 (List.mem_of_getElem? (i := 198) rfl)) rfl)⟩
set_option maxRecDepth 20000 in
theorem fl_X11_298 : zFL RX11 298 11 64 17 0 0 := ⟨by decide, by decide, by decide, rfl, rfl, rfl, (zTb_in (zin_5 (List.mem_of_getElem? (i := 199) rfl)) rfl)⟩
set_option maxRecDepth 20000 in
theorem fl_X11_319 : zFL RX11 319 11 64 20 0 0 := ⟨by decide, by decide, by decide, rfl, rfl, rfl, (zTb_in (zin_5 (List.mem_of_getElem? (i := 202) rfl)) rfl)⟩
set_option maxRecDepth 20000 in
theorem fl_X11_325 : zFL RX11 325 11 64 21 0 0 := ⟨by decide, by decide, by decide, rfl, rfl, rfl, (zTb_in (zin_5 (List.mem_of_getElem? (i := 203) rfl)) rfl)⟩
set_option maxRecDepth 20000 in
theorem fl_X11_347 : zFL RX11 347 11 64 44 0 0 := ⟨by decide, by decide, by decide, rfl, rfl, rfl, (zTb_in (zin_5 (List.mem_of_getElem? (i := 226) rfl)) rfl)⟩
set_option maxRecDepth 20000 in
theorem fl_X11_350 : zFL RX11 350 11 64 45 0 0 := ⟨by decide, by decide, by decide, rfl, rfl, rfl, (zTb_in (zin_5 (List.mem_of_getElem? (i := 227) rfl)) rfl)⟩
set_option maxRecDepth 20000 in
theorem fl_X11_353 : zFL RX11 353 11 64 46 0 0 := ⟨by decide, by decide, by decide, rfl, rfl, rfl, (zTb_in (zin_5 (List.mem_of_getElem? (i := 228) rfl)) rfl)⟩
set_option maxRecDepth 20000 in
theorem fl_X11_388 : zFL RX11 388 11 64 50 0 0 := ⟨by decide, by decide, by decide, rfl, rfl, rfl, (zTb_in (zin_5 (List.mem_of_getElem? (i := 232) rfl)) rfl)⟩
set_option maxRecDepth 20000 in
theorem fl_X11_397 : zFL RX11 397 11 64 61 0 0 := ⟨by decide, by decide, by decide, rfl, rfl, rfl, (zTb_in (zin_6 (List.mem_of_getElem? (i := 3) rfl)) rfl)⟩
set_option maxRecDepth 20000 in
theorem fl_X11_400 : zFL RX11 400 11 64 62 0 0 := ⟨by decide, by decide, by decide, rfl, rfl, rfl, (zTb_in (zin_6 (List.mem_of_getElem? (i := 4) rfl)) rfl)⟩
set_option maxRecDepth 20000 in
theorem fl_X11_430 : zFL RX11 430 11 64 37 0 0 := ⟨by decide, by decide, by decide, rfl, rfl, rfl, (zTb_in (zin_5 (List.mem_of_getElem? (i := 219) rfl)) rfl)⟩
set_option maxRecDepth 20000 in
theorem fl_X11_433 : zFL RX11 433 11 64 63 0 0 := ⟨by decide, by decide, by decide, rfl, rfl, rfl, (zTb_in (zin_6 (List.mem_of_getElem? (i := 5) rfl)) rfl)⟩
set_option maxRecDepth 20000 in
theorem ml_X10_1 : Cond.methodLink RX10 1 objectInit ∈ zTb := (zTb_in (zin_1 (List.mem_of_getElem? (i := 28) rfl)) rfl)
set_option maxRecDepth 20000 in
theorem ml_X10_18 : zLI RX10 18 yX4_init cX4_init 2 1 := ⟨⟨(zTb_in (zin_1 (List.mem_of_getElem? (i := 48) rfl)) rfl), (zTb_in (zin_1 (List.mem_of_getElem? (i := 50) rfl)) rfl), (zTb_in (zin_1 (List.mem_of_getElem? (i := 3) rfl)) rfl), ⟨by decide, by decide⟩, by decide +kernel, by decide⟩, rfl, (zTb_in (zin_1 (List.mem_of_getElem? (i := 49) rfl)) rfl)⟩
set_option maxRecDepth 20000 in
theorem ml_X10_86 : zLV RX10 86 9 yX9_append cX9_append 3 none 1 := ⟨⟨(zTb_in (zin_2 (List.mem_of_getElem? (i := 60) rfl)) rfl), (zTb_in (zin_2 (List.mem_of_getElem? (i := 63) rfl)) rfl), (zTb_in (zin_1 (List.mem_of_getElem? (i := 2) rfl)) rfl), ⟨by decide, by decide⟩, by decide +kernel, by decide⟩, ⟨(zTb_in (zin_2 (List.mem_of_getElem? (i := 61) rfl)) rfl), (zTb_in (zin_2 (List.mem_of_getElem? (i := 62) rfl)) rfl)⟩, by decide⟩
set_option maxRecDepth 20000 in
theorem ml_X10_90 : zLV RX10 90 4 yX4_parse cX4_parse 1 (some .int) 0 := ⟨⟨(zTb_in (zin_2 (List.mem_of_getElem? (i := 72) rfl)) rfl), (zTb_in (zin_2 (List.mem_of_getElem? (i := 75) rfl)) rfl), (zTb_in (zin_1 (List.mem_of_getElem? (i := 3) rfl)) rfl), ⟨by decide, by decide⟩, by decide +kernel, by decide⟩, ⟨(zTb_in (zin_2 (List.mem_of_getElem? (i := 73) rfl)) rfl), (zTb_in (zin_2 (List.mem_of_getElem? (i := 74) rfl)) rfl)⟩, by decide⟩
set_option maxRecDepth 20000 in
theorem ml_X10_104 : zLS RX10 104 yJ7_copyOf_59c91 cJ7_copyOf_59c91 3 (some (.array .int)) 2 := ⟨⟨(zTb_in (zin_3 (List.mem_of_getElem? (i := 31) rfl)) rfl), (zTb_in (zin_3 (List.mem_of_getElem? (i := 33) rfl)) rfl), (zTb_in (zin_1 (List.mem_of_getElem? (i := 18) rfl)) rfl), ⟨by decide, by decide⟩, by decide +kernel, by decide⟩, (zTb_in (zin_3 (List.mem_of_getElem? (i := 32) rfl)) rfl)⟩
set_option maxRecDepth 20000 in
theorem ml_X10_110 : zLI RX10 110 yX7_init cX7_init 2 1 := ⟨⟨(zTb_in (zin_3 (List.mem_of_getElem? (i := 45) rfl)) rfl), (zTb_in (zin_3 (List.mem_of_getElem? (i := 47) rfl)) rfl), (zTb_in (zin_1 (List.mem_of_getElem? (i := 17) rfl)) rfl), ⟨by decide, by decide⟩, by decide +kernel, by decide⟩, rfl, (zTb_in (zin_3 (List.mem_of_getElem? (i := 46) rfl)) rfl)⟩
set_option maxRecDepth 20000 in
theorem ml_X10_113 : zLV RX10 113 10 yX10_sheetAt cX10_sheetAt 2 (some (.object "TableHouse$Sheet")) 1 := ⟨⟨(zTb_in (zin_3 (List.mem_of_getElem? (i := 58) rfl)) rfl), (zTb_in (zin_3 (List.mem_of_getElem? (i := 61) rfl)) rfl), (zTb_in (zin_1 (List.mem_of_getElem? (i := 1) rfl)) rfl), ⟨by decide, by decide⟩, by decide +kernel, by decide⟩, ⟨(zTb_in (zin_3 (List.mem_of_getElem? (i := 60) rfl)) rfl), (zTb_in (zin_0 (List.mem_of_getElem? (i := 15) rfl)) rfl)⟩, by decide⟩
set_option maxRecDepth 20000 in
theorem ml_X10_120 : zLV RX10 120 0 yX0_evaluate cX0_evaluate 13 none 3 := ⟨⟨(zTb_in (zin_3 (List.mem_of_getElem? (i := 64) rfl)) rfl), (zTb_in (zin_3 (List.mem_of_getElem? (i := 67) rfl)) rfl), (zTb_in (zin_1 (List.mem_of_getElem? (i := 4) rfl)) rfl), ⟨by decide, by decide⟩, by decide +kernel, by decide⟩, ⟨(zTb_in (zin_3 (List.mem_of_getElem? (i := 65) rfl)) rfl), (zTb_in (zin_3 (List.mem_of_getElem? (i := 66) rfl)) rfl)⟩, by decide⟩
set_option maxRecDepth 20000 in
theorem ml_X10_124 : zLV RX10 124 0 yX0_isNone cX0_isNone 1 (some .boolean) 0 := ⟨⟨(zTb_in (zin_3 (List.mem_of_getElem? (i := 129) rfl)) rfl), (zTb_in (zin_3 (List.mem_of_getElem? (i := 132) rfl)) rfl), (zTb_in (zin_1 (List.mem_of_getElem? (i := 4) rfl)) rfl), ⟨by decide, by decide⟩, by decide +kernel, by decide⟩, ⟨(zTb_in (zin_3 (List.mem_of_getElem? (i := 130) rfl)) rfl), (zTb_in (zin_3 (List.mem_of_getElem? (i := 131) rfl)) rfl)⟩, by decide⟩
set_option maxRecDepth 20000 in
theorem ml_X10_128 : zLV RX10 128 0 yX0_numerator cX0_numerator 1 (some .long) 0 := ⟨⟨(zTb_in (zin_3 (List.mem_of_getElem? (i := 133) rfl)) rfl), (zTb_in (zin_3 (List.mem_of_getElem? (i := 87) rfl)) rfl), (zTb_in (zin_1 (List.mem_of_getElem? (i := 4) rfl)) rfl), ⟨by decide, by decide⟩, by decide +kernel, by decide⟩, ⟨(zTb_in (zin_3 (List.mem_of_getElem? (i := 85) rfl)) rfl), (zTb_in (zin_3 (List.mem_of_getElem? (i := 86) rfl)) rfl)⟩, by decide⟩
set_option maxRecDepth 20000 in
theorem ml_X10_132 : zLV RX10 132 0 yX0_denominator cX0_denominator 1 (some .long) 0 := ⟨⟨(zTb_in (zin_3 (List.mem_of_getElem? (i := 134) rfl)) rfl), (zTb_in (zin_3 (List.mem_of_getElem? (i := 91) rfl)) rfl), (zTb_in (zin_1 (List.mem_of_getElem? (i := 4) rfl)) rfl), ⟨by decide, by decide⟩, by decide +kernel, by decide⟩, ⟨(zTb_in (zin_3 (List.mem_of_getElem? (i := 89) rfl)) rfl), (zTb_in (zin_3 (List.mem_of_getElem? (i := 90) rfl)) rfl)⟩, by decide⟩
set_option maxRecDepth 20000 in
theorem ml_X10_138 : zLS RX10 138 yJ9_min_7cf53 cJ9_min_7cf53 2 (some .int) 2 := ⟨⟨(zTb_in (zin_3 (List.mem_of_getElem? (i := 139) rfl)) rfl), (zTb_in (zin_2 (List.mem_of_getElem? (i := 161) rfl)) rfl), (zTb_in (zin_1 (List.mem_of_getElem? (i := 15) rfl)) rfl), ⟨by decide, by decide⟩, by decide +kernel, by decide⟩, (zTb_in (zin_2 (List.mem_of_getElem? (i := 160) rfl)) rfl)⟩
set_option maxRecDepth 20000 in
theorem ml_X10_147 : zLI RX10 147 yX8_init cX8_init 2 1 := ⟨⟨(zTb_in (zin_3 (List.mem_of_getElem? (i := 145) rfl)) rfl), (zTb_in (zin_3 (List.mem_of_getElem? (i := 147) rfl)) rfl), (zTb_in (zin_1 (List.mem_of_getElem? (i := 21) rfl)) rfl), ⟨by decide, by decide⟩, by decide +kernel, by decide⟩, rfl, (zTb_in (zin_3 (List.mem_of_getElem? (i := 146) rfl)) rfl)⟩
set_option maxRecDepth 20000 in
theorem ml_X10_155 : zLV RX10 155 0 yX0_rounded cX0_rounded 4 (some .int) 1 := ⟨⟨(zTb_in (zin_3 (List.mem_of_getElem? (i := 214) rfl)) rfl), (zTb_in (zin_3 (List.mem_of_getElem? (i := 217) rfl)) rfl), (zTb_in (zin_1 (List.mem_of_getElem? (i := 4) rfl)) rfl), ⟨by decide, by decide⟩, by decide +kernel, by decide⟩, ⟨(zTb_in (zin_3 (List.mem_of_getElem? (i := 215) rfl)) rfl), (zTb_in (zin_3 (List.mem_of_getElem? (i := 216) rfl)) rfl)⟩, by decide⟩
set_option maxRecDepth 20000 in
theorem ml_X10_159 : zLV RX10 159 10 yX10_tableAt cX10_tableAt 2 (some (.object "TableHouse$Table")) 1 := ⟨⟨(zTb_in (zin_3 (List.mem_of_getElem? (i := 234) rfl)) rfl), (zTb_in (zin_3 (List.mem_of_getElem? (i := 237) rfl)) rfl), (zTb_in (zin_1 (List.mem_of_getElem? (i := 1) rfl)) rfl), ⟨by decide, by decide⟩, by decide +kernel, by decide⟩, ⟨(zTb_in (zin_3 (List.mem_of_getElem? (i := 236) rfl)) rfl), (zTb_in (zin_0 (List.mem_of_getElem? (i := 24) rfl)) rfl)⟩, by decide⟩
set_option maxRecDepth 20000 in
theorem ml_X10_163 : zLV RX10 163 8 yX8_truthOf cX8_truthOf 2 (some .int) 1 := ⟨⟨(zTb_in (zin_3 (List.mem_of_getElem? (i := 238) rfl)) rfl), (zTb_in (zin_4 (List.mem_of_getElem? (i := 1) rfl)) rfl), (zTb_in (zin_1 (List.mem_of_getElem? (i := 21) rfl)) rfl), ⟨by decide, by decide⟩, by decide +kernel, by decide⟩, ⟨(zTb_in (zin_3 (List.mem_of_getElem? (i := 239) rfl)) rfl), (zTb_in (zin_4 (List.mem_of_getElem? (i := 0) rfl)) rfl)⟩, by decide⟩
set_option maxRecDepth 20000 in
theorem ml_X10_169 : zLV RX10 169 3 yX3_has cX3_has 3 (some .boolean) 2 := ⟨⟨(zTb_in (zin_4 (List.mem_of_getElem? (i := 14) rfl)) rfl), (zTb_in (zin_4 (List.mem_of_getElem? (i := 17) rfl)) rfl), (zTb_in (zin_1 (List.mem_of_getElem? (i := 5) rfl)) rfl), ⟨by decide, by decide⟩, by decide +kernel, by decide⟩, ⟨(zTb_in (zin_4 (List.mem_of_getElem? (i := 15) rfl)) rfl), (zTb_in (zin_4 (List.mem_of_getElem? (i := 16) rfl)) rfl)⟩, by decide⟩
set_option maxRecDepth 20000 in
theorem ml_X10_173 : zLV RX10 173 3 yX3_tellHabit cX3_tellHabit 6 (some .boolean) 3 := ⟨⟨(zTb_in (zin_4 (List.mem_of_getElem? (i := 18) rfl)) rfl), (zTb_in (zin_4 (List.mem_of_getElem? (i := 21) rfl)) rfl), (zTb_in (zin_1 (List.mem_of_getElem? (i := 5) rfl)) rfl), ⟨by decide, by decide⟩, by decide +kernel, by decide⟩, ⟨(zTb_in (zin_4 (List.mem_of_getElem? (i := 19) rfl)) rfl), (zTb_in (zin_4 (List.mem_of_getElem? (i := 20) rfl)) rfl)⟩, by decide⟩
set_option maxRecDepth 20000 in
theorem ml_X10_180 : zLV RX10 180 3 yX3_writes cX3_writes 6 (some .int) 3 := ⟨⟨(zTb_in (zin_4 (List.mem_of_getElem? (i := 27) rfl)) rfl), (zTb_in (zin_4 (List.mem_of_getElem? (i := 30) rfl)) rfl), (zTb_in (zin_1 (List.mem_of_getElem? (i := 5) rfl)) rfl), ⟨by decide, by decide⟩, by decide +kernel, by decide⟩, ⟨(zTb_in (zin_4 (List.mem_of_getElem? (i := 28) rfl)) rfl), (zTb_in (zin_4 (List.mem_of_getElem? (i := 29) rfl)) rfl)⟩, by decide⟩
set_option maxRecDepth 20000 in
theorem ml_X10_184 : zLV RX10 184 8 yX8_mayWork cX8_mayWork 3 (some .boolean) 2 := ⟨⟨(zTb_in (zin_4 (List.mem_of_getElem? (i := 39) rfl)) rfl), (zTb_in (zin_4 (List.mem_of_getElem? (i := 42) rfl)) rfl), (zTb_in (zin_1 (List.mem_of_getElem? (i := 21) rfl)) rfl), ⟨by decide, by decide⟩, by decide +kernel, by decide⟩, ⟨(zTb_in (zin_4 (List.mem_of_getElem? (i := 40) rfl)) rfl), (zTb_in (zin_4 (List.mem_of_getElem? (i := 41) rfl)) rfl)⟩, by decide⟩
set_option maxRecDepth 20000 in
theorem ml_X10_187 : zLV RX10 187 8 yX8_takeWork cX8_takeWork 7 none 5 := ⟨⟨(zTb_in (zin_4 (List.mem_of_getElem? (i := 48) rfl)) rfl), (zTb_in (zin_4 (List.mem_of_getElem? (i := 51) rfl)) rfl), (zTb_in (zin_1 (List.mem_of_getElem? (i := 21) rfl)) rfl), ⟨by decide, by decide⟩, by decide +kernel, by decide⟩, ⟨(zTb_in (zin_4 (List.mem_of_getElem? (i := 49) rfl)) rfl), (zTb_in (zin_4 (List.mem_of_getElem? (i := 50) rfl)) rfl)⟩, by decide⟩
set_option maxRecDepth 20000 in
theorem ml_X10_191 : zLV RX10 191 8 yX8_figureOf cX8_figureOf 2 (some .int) 1 := ⟨⟨(zTb_in (zin_4 (List.mem_of_getElem? (i := 56) rfl)) rfl), (zTb_in (zin_4 (List.mem_of_getElem? (i := 59) rfl)) rfl), (zTb_in (zin_1 (List.mem_of_getElem? (i := 21) rfl)) rfl), ⟨by decide, by decide⟩, by decide +kernel, by decide⟩, ⟨(zTb_in (zin_4 (List.mem_of_getElem? (i := 57) rfl)) rfl), (zTb_in (zin_4 (List.mem_of_getElem? (i := 58) rfl)) rfl)⟩, by decide⟩
set_option maxRecDepth 20000 in
theorem ml_X10_194 : zLV RX10 194 3 yX3_findPair cX3_findPair 6 none 1 := ⟨⟨(zTb_in (zin_4 (List.mem_of_getElem? (i := 64) rfl)) rfl), (zTb_in (zin_4 (List.mem_of_getElem? (i := 67) rfl)) rfl), (zTb_in (zin_1 (List.mem_of_getElem? (i := 5) rfl)) rfl), ⟨by decide, by decide⟩, by decide +kernel, by decide⟩, ⟨(zTb_in (zin_4 (List.mem_of_getElem? (i := 65) rfl)) rfl), (zTb_in (zin_4 (List.mem_of_getElem? (i := 66) rfl)) rfl)⟩, by decide⟩
set_option maxRecDepth 20000 in
theorem ml_X10_205 : zLV RX10 205 8 yX8_differences cX8_differences 6 (some .boolean) 3 := ⟨⟨(zTb_in (zin_4 (List.mem_of_getElem? (i := 85) rfl)) rfl), (zTb_in (zin_4 (List.mem_of_getElem? (i := 88) rfl)) rfl), (zTb_in (zin_1 (List.mem_of_getElem? (i := 21) rfl)) rfl), ⟨by decide, by decide⟩, by decide +kernel, by decide⟩, ⟨(zTb_in (zin_4 (List.mem_of_getElem? (i := 86) rfl)) rfl), (zTb_in (zin_4 (List.mem_of_getElem? (i := 87) rfl)) rfl)⟩, by decide⟩
set_option maxRecDepth 20000 in
theorem ml_X10_209 : zLV RX10 209 1 yX1_setTo cX1_setTo 6 none 1 := ⟨⟨(zTb_in (zin_4 (List.mem_of_getElem? (i := 96) rfl)) rfl), (zTb_in (zin_4 (List.mem_of_getElem? (i := 99) rfl)) rfl), (zTb_in (zin_1 (List.mem_of_getElem? (i := 6) rfl)) rfl), ⟨by decide, by decide⟩, by decide +kernel, by decide⟩, ⟨(zTb_in (zin_4 (List.mem_of_getElem? (i := 97) rfl)) rfl), (zTb_in (zin_4 (List.mem_of_getElem? (i := 98) rfl)) rfl)⟩, by decide⟩
set_option maxRecDepth 20000 in
theorem ml_X10_213 : zLS RX10 213 yX5_settingCost cX5_settingCost 1 (some .int) 1 := ⟨⟨(zTb_in (zin_4 (List.mem_of_getElem? (i := 101) rfl)) rfl), (zTb_in (zin_4 (List.mem_of_getElem? (i := 103) rfl)) rfl), (zTb_in (zin_1 (List.mem_of_getElem? (i := 7) rfl)) rfl), ⟨by decide, by decide⟩, by decide +kernel, by decide⟩, (zTb_in (zin_4 (List.mem_of_getElem? (i := 102) rfl)) rfl)⟩
set_option maxRecDepth 20000 in
theorem ml_X10_216 : zLV RX10 216 1 yX1_tellStick cX1_tellStick 4 (some .boolean) 3 := ⟨⟨(zTb_in (zin_4 (List.mem_of_getElem? (i := 108) rfl)) rfl), (zTb_in (zin_4 (List.mem_of_getElem? (i := 111) rfl)) rfl), (zTb_in (zin_1 (List.mem_of_getElem? (i := 6) rfl)) rfl), ⟨by decide, by decide⟩, by decide +kernel, by decide⟩, ⟨(zTb_in (zin_4 (List.mem_of_getElem? (i := 109) rfl)) rfl), (zTb_in (zin_4 (List.mem_of_getElem? (i := 110) rfl)) rfl)⟩, by decide⟩
set_option maxRecDepth 20000 in
theorem ml_X10_219 : zLV RX10 219 1 yX1_turnOnce cX1_turnOnce 4 none 0 := ⟨⟨(zTb_in (zin_4 (List.mem_of_getElem? (i := 116) rfl)) rfl), (zTb_in (zin_4 (List.mem_of_getElem? (i := 119) rfl)) rfl), (zTb_in (zin_1 (List.mem_of_getElem? (i := 6) rfl)) rfl), ⟨by decide, by decide⟩, by decide +kernel, by decide⟩, ⟨(zTb_in (zin_4 (List.mem_of_getElem? (i := 117) rfl)) rfl), (zTb_in (zin_4 (List.mem_of_getElem? (i := 118) rfl)) rfl)⟩, by decide⟩
set_option maxRecDepth 20000 in
theorem ml_X10_222 : zLV RX10 222 1 yX1_numberOf cX1_numberOf 4 (some .int) 1 := ⟨⟨(zTb_in (zin_4 (List.mem_of_getElem? (i := 128) rfl)) rfl), (zTb_in (zin_4 (List.mem_of_getElem? (i := 131) rfl)) rfl), (zTb_in (zin_1 (List.mem_of_getElem? (i := 6) rfl)) rfl), ⟨by decide, by decide⟩, by decide +kernel, by decide⟩, ⟨(zTb_in (zin_4 (List.mem_of_getElem? (i := 129) rfl)) rfl), (zTb_in (zin_4 (List.mem_of_getElem? (i := 130) rfl)) rfl)⟩, by decide⟩
set_option maxRecDepth 20000 in
theorem ml_X10_225 : zLS RX10 225 yX10_shown cX10_shown 2 (some .int) 1 := ⟨⟨(zTb_in (zin_4 (List.mem_of_getElem? (i := 132) rfl)) rfl), (zTb_in (zin_4 (List.mem_of_getElem? (i := 134) rfl)) rfl), (zTb_in (zin_1 (List.mem_of_getElem? (i := 1) rfl)) rfl), ⟨by decide, by decide⟩, by decide +kernel, by decide⟩, (zTb_in (zin_4 (List.mem_of_getElem? (i := 133) rfl)) rfl)⟩
set_option maxRecDepth 20000 in
theorem ml_X10_235 : zLV RX10 235 5 yX5_leastCost cX5_leastCost 6 (some .int) 2 := ⟨⟨(zTb_in (zin_4 (List.mem_of_getElem? (i := 145) rfl)) rfl), (zTb_in (zin_4 (List.mem_of_getElem? (i := 148) rfl)) rfl), (zTb_in (zin_1 (List.mem_of_getElem? (i := 7) rfl)) rfl), ⟨by decide, by decide⟩, by decide +kernel, by decide⟩, ⟨(zTb_in (zin_4 (List.mem_of_getElem? (i := 146) rfl)) rfl), (zTb_in (zin_4 (List.mem_of_getElem? (i := 147) rfl)) rfl)⟩, by decide⟩
set_option maxRecDepth 20000 in
theorem ml_X10_239 : zLV RX10 239 6 yX6_tell cX6_tell 2 (some .boolean) 1 := ⟨⟨(zTb_in (zin_4 (List.mem_of_getElem? (i := 173) rfl)) rfl), (zTb_in (zin_4 (List.mem_of_getElem? (i := 176) rfl)) rfl), (zTb_in (zin_1 (List.mem_of_getElem? (i := 8) rfl)) rfl), ⟨by decide, by decide⟩, by decide +kernel, by decide⟩, ⟨(zTb_in (zin_4 (List.mem_of_getElem? (i := 174) rfl)) rfl), (zTb_in (zin_4 (List.mem_of_getElem? (i := 175) rfl)) rfl)⟩, by decide⟩
set_option maxRecDepth 20000 in
theorem ml_X10_244 : zLV RX10 244 6 yX6_layFigures cX6_layFigures 7 (some .int) 3 := ⟨⟨(zTb_in (zin_4 (List.mem_of_getElem? (i := 186) rfl)) rfl), (zTb_in (zin_4 (List.mem_of_getElem? (i := 189) rfl)) rfl), (zTb_in (zin_1 (List.mem_of_getElem? (i := 8) rfl)) rfl), ⟨by decide, by decide⟩, by decide +kernel, by decide⟩, ⟨(zTb_in (zin_4 (List.mem_of_getElem? (i := 187) rfl)) rfl), (zTb_in (zin_4 (List.mem_of_getElem? (i := 188) rfl)) rfl)⟩, by decide⟩
set_option maxRecDepth 20000 in
theorem ml_X10_248 : zLV RX10 248 6 yX6_search cX6_search 9 (some .boolean) 3 := ⟨⟨(zTb_in (zin_4 (List.mem_of_getElem? (i := 202) rfl)) rfl), (zTb_in (zin_4 (List.mem_of_getElem? (i := 205) rfl)) rfl), (zTb_in (zin_1 (List.mem_of_getElem? (i := 8) rfl)) rfl), ⟨by decide, by decide⟩, by decide +kernel, by decide⟩, ⟨(zTb_in (zin_4 (List.mem_of_getElem? (i := 203) rfl)) rfl), (zTb_in (zin_4 (List.mem_of_getElem? (i := 204) rfl)) rfl)⟩, by decide⟩
set_option maxRecDepth 20000 in
theorem ml_X10_258 : zLV RX10 258 6 yX6_valueBetween cX6_valueBetween 14 (some .int) 3 := ⟨⟨(zTb_in (zin_5 (List.mem_of_getElem? (i := 19) rfl)) rfl), (zTb_in (zin_5 (List.mem_of_getElem? (i := 22) rfl)) rfl), (zTb_in (zin_1 (List.mem_of_getElem? (i := 8) rfl)) rfl), ⟨by decide, by decide⟩, by decide +kernel, by decide⟩, ⟨(zTb_in (zin_5 (List.mem_of_getElem? (i := 20) rfl)) rfl), (zTb_in (zin_5 (List.mem_of_getElem? (i := 21) rfl)) rfl)⟩, by decide⟩
set_option maxRecDepth 20000 in
theorem ml_X10_261 : zLV RX10 261 6 yX6_boundAt cX6_boundAt 3 (some .int) 1 := ⟨⟨(zTb_in (zin_5 (List.mem_of_getElem? (i := 37) rfl)) rfl), (zTb_in (zin_5 (List.mem_of_getElem? (i := 40) rfl)) rfl), (zTb_in (zin_1 (List.mem_of_getElem? (i := 8) rfl)) rfl), ⟨by decide, by decide⟩, by decide +kernel, by decide⟩, ⟨(zTb_in (zin_5 (List.mem_of_getElem? (i := 38) rfl)) rfl), (zTb_in (zin_5 (List.mem_of_getElem? (i := 39) rfl)) rfl)⟩, by decide⟩
set_option maxRecDepth 20000 in
theorem ml_X10_268 : zLV RX10 268 8 yX8_allAgreed cX8_allAgreed 2 (some .boolean) 0 := ⟨⟨(zTb_in (zin_5 (List.mem_of_getElem? (i := 50) rfl)) rfl), (zTb_in (zin_5 (List.mem_of_getElem? (i := 53) rfl)) rfl), (zTb_in (zin_1 (List.mem_of_getElem? (i := 21) rfl)) rfl), ⟨by decide, by decide⟩, by decide +kernel, by decide⟩, ⟨(zTb_in (zin_5 (List.mem_of_getElem? (i := 51) rfl)) rfl), (zTb_in (zin_5 (List.mem_of_getElem? (i := 52) rfl)) rfl)⟩, by decide⟩
set_option maxRecDepth 20000 in
theorem ml_X10_271 : zLV RX10 271 8 yX8_agreedEntries cX8_agreedEntries 3 (some .int) 0 := ⟨⟨(zTb_in (zin_5 (List.mem_of_getElem? (i := 54) rfl)) rfl), (zTb_in (zin_5 (List.mem_of_getElem? (i := 57) rfl)) rfl), (zTb_in (zin_1 (List.mem_of_getElem? (i := 21) rfl)) rfl), ⟨by decide, by decide⟩, by decide +kernel, by decide⟩, ⟨(zTb_in (zin_5 (List.mem_of_getElem? (i := 55) rfl)) rfl), (zTb_in (zin_5 (List.mem_of_getElem? (i := 56) rfl)) rfl)⟩, by decide⟩
set_option maxRecDepth 20000 in
theorem ml_X10_274 : zLV RX10 274 10 yX10_plateAt cX10_plateAt 3 (some (.object "TableHouse$Table")) 1 := ⟨⟨(zTb_in (zin_5 (List.mem_of_getElem? (i := 66) rfl)) rfl), (zTb_in (zin_5 (List.mem_of_getElem? (i := 69) rfl)) rfl), (zTb_in (zin_1 (List.mem_of_getElem? (i := 1) rfl)) rfl), ⟨by decide, by decide⟩, by decide +kernel, by decide⟩, ⟨(zTb_in (zin_5 (List.mem_of_getElem? (i := 68) rfl)) rfl), (zTb_in (zin_0 (List.mem_of_getElem? (i := 44) rfl)) rfl)⟩, by decide⟩
set_option maxRecDepth 20000 in
theorem ml_X10_281 : zLV RX10 281 8 yX8_printCopies cX8_printCopies 6 none 2 := ⟨⟨(zTb_in (zin_5 (List.mem_of_getElem? (i := 71) rfl)) rfl), (zTb_in (zin_5 (List.mem_of_getElem? (i := 74) rfl)) rfl), (zTb_in (zin_1 (List.mem_of_getElem? (i := 21) rfl)) rfl), ⟨by decide, by decide⟩, by decide +kernel, by decide⟩, ⟨(zTb_in (zin_5 (List.mem_of_getElem? (i := 72) rfl)) rfl), (zTb_in (zin_5 (List.mem_of_getElem? (i := 73) rfl)) rfl)⟩, by decide⟩
set_option maxRecDepth 20000 in
theorem ml_X10_285 : zLV RX10 285 8 yX8_isAgreed cX8_isAgreed 2 (some .boolean) 1 := ⟨⟨(zTb_in (zin_5 (List.mem_of_getElem? (i := 83) rfl)) rfl), (zTb_in (zin_4 (List.mem_of_getElem? (i := 46) rfl)) rfl), (zTb_in (zin_1 (List.mem_of_getElem? (i := 21) rfl)) rfl), ⟨by decide, by decide⟩, by decide +kernel, by decide⟩, ⟨(zTb_in (zin_4 (List.mem_of_getElem? (i := 44) rfl)) rfl), (zTb_in (zin_4 (List.mem_of_getElem? (i := 45) rfl)) rfl)⟩, by decide⟩
set_option maxRecDepth 20000 in
theorem ml_X10_291 : zLV RX10 291 8 yX8_readable cX8_readable 5 (some .int) 1 := ⟨⟨(zTb_in (zin_5 (List.mem_of_getElem? (i := 88) rfl)) rfl), (zTb_in (zin_5 (List.mem_of_getElem? (i := 91) rfl)) rfl), (zTb_in (zin_1 (List.mem_of_getElem? (i := 21) rfl)) rfl), ⟨by decide, by decide⟩, by decide +kernel, by decide⟩, ⟨(zTb_in (zin_5 (List.mem_of_getElem? (i := 89) rfl)) rfl), (zTb_in (zin_5 (List.mem_of_getElem? (i := 90) rfl)) rfl)⟩, by decide⟩
set_option maxRecDepth 20000 in
theorem ml_X10_294 : zLS RX10 294 yX10_isWritable cX10_isWritable 1 (some .boolean) 1 := ⟨⟨(zTb_in (zin_5 (List.mem_of_getElem? (i := 101) rfl)) rfl), (zTb_in (zin_5 (List.mem_of_getElem? (i := 103) rfl)) rfl), (zTb_in (zin_1 (List.mem_of_getElem? (i := 1) rfl)) rfl), ⟨by decide, by decide⟩, by decide +kernel, by decide⟩, (zTb_in (zin_5 (List.mem_of_getElem? (i := 102) rfl)) rfl)⟩
set_option maxRecDepth 20000 in
theorem ml_X10_297 : zLV RX10 297 2 yX2_tell cX2_tell 6 (some .int) 5 := ⟨⟨(zTb_in (zin_5 (List.mem_of_getElem? (i := 106) rfl)) rfl), (zTb_in (zin_5 (List.mem_of_getElem? (i := 109) rfl)) rfl), (zTb_in (zin_1 (List.mem_of_getElem? (i := 9) rfl)) rfl), ⟨by decide, by decide⟩, by decide +kernel, by decide⟩, ⟨(zTb_in (zin_5 (List.mem_of_getElem? (i := 107) rfl)) rfl), (zTb_in (zin_5 (List.mem_of_getElem? (i := 108) rfl)) rfl)⟩, by decide⟩
set_option maxRecDepth 20000 in
theorem ml_X10_300 : zLV RX10 300 2 yX2_has cX2_has 2 (some .boolean) 1 := ⟨⟨(zTb_in (zin_5 (List.mem_of_getElem? (i := 114) rfl)) rfl), (zTb_in (zin_5 (List.mem_of_getElem? (i := 117) rfl)) rfl), (zTb_in (zin_1 (List.mem_of_getElem? (i := 9) rfl)) rfl), ⟨by decide, by decide⟩, by decide +kernel, by decide⟩, ⟨(zTb_in (zin_5 (List.mem_of_getElem? (i := 115) rfl)) rfl), (zTb_in (zin_5 (List.mem_of_getElem? (i := 116) rfl)) rfl)⟩, by decide⟩
set_option maxRecDepth 20000 in
theorem ml_X10_308 : zLV RX10 308 2 yX2_applied cX2_applied 9 (some .int) 5 := ⟨⟨(zTb_in (zin_5 (List.mem_of_getElem? (i := 118) rfl)) rfl), (zTb_in (zin_5 (List.mem_of_getElem? (i := 121) rfl)) rfl), (zTb_in (zin_1 (List.mem_of_getElem? (i := 9) rfl)) rfl), ⟨by decide, by decide⟩, by decide +kernel, by decide⟩, ⟨(zTb_in (zin_5 (List.mem_of_getElem? (i := 119) rfl)) rfl), (zTb_in (zin_5 (List.mem_of_getElem? (i := 120) rfl)) rfl)⟩, by decide⟩
set_option maxRecDepth 20000 in
theorem ml_X10_315 : zLV RX10 315 8 yX8_has cX8_has 2 (some .boolean) 1 := ⟨⟨(zTb_in (zin_5 (List.mem_of_getElem? (i := 130) rfl)) rfl), (zTb_in (zin_4 (List.mem_of_getElem? (i := 5) rfl)) rfl), (zTb_in (zin_1 (List.mem_of_getElem? (i := 21) rfl)) rfl), ⟨by decide, by decide⟩, by decide +kernel, by decide⟩, ⟨(zTb_in (zin_4 (List.mem_of_getElem? (i := 3) rfl)) rfl), (zTb_in (zin_4 (List.mem_of_getElem? (i := 4) rfl)) rfl)⟩, by decide⟩
set_option maxRecDepth 20000 in
theorem ml_X10_319 : zLV RX10 319 8 yX8_sharedFalse cX8_sharedFalse 3 (some .int) 0 := ⟨⟨(zTb_in (zin_5 (List.mem_of_getElem? (i := 135) rfl)) rfl), (zTb_in (zin_5 (List.mem_of_getElem? (i := 138) rfl)) rfl), (zTb_in (zin_1 (List.mem_of_getElem? (i := 21) rfl)) rfl), ⟨by decide, by decide⟩, by decide +kernel, by decide⟩, ⟨(zTb_in (zin_5 (List.mem_of_getElem? (i := 136) rfl)) rfl), (zTb_in (zin_5 (List.mem_of_getElem? (i := 137) rfl)) rfl)⟩, by decide⟩
set_option maxRecDepth 20000 in
theorem ml_X10_322 : zLV RX10 322 8 yX8_isCopied cX8_isCopied 7 (some .boolean) 0 := ⟨⟨(zTb_in (zin_5 (List.mem_of_getElem? (i := 147) rfl)) rfl), (zTb_in (zin_5 (List.mem_of_getElem? (i := 150) rfl)) rfl), (zTb_in (zin_1 (List.mem_of_getElem? (i := 21) rfl)) rfl), ⟨by decide, by decide⟩, by decide +kernel, by decide⟩, ⟨(zTb_in (zin_5 (List.mem_of_getElem? (i := 148) rfl)) rfl), (zTb_in (zin_5 (List.mem_of_getElem? (i := 149) rfl)) rfl)⟩, by decide⟩
set_option maxRecDepth 20000 in
theorem ml_X10_340 : zLV RX10 340 8 yX8_falsehood cX8_falsehood 2 (some .int) 1 := ⟨⟨(zTb_in (zin_5 (List.mem_of_getElem? (i := 160) rfl)) rfl), (zTb_in (zin_5 (List.mem_of_getElem? (i := 163) rfl)) rfl), (zTb_in (zin_1 (List.mem_of_getElem? (i := 21) rfl)) rfl), ⟨by decide, by decide⟩, by decide +kernel, by decide⟩, ⟨(zTb_in (zin_5 (List.mem_of_getElem? (i := 161) rfl)) rfl), (zTb_in (zin_5 (List.mem_of_getElem? (i := 162) rfl)) rfl)⟩, by decide⟩
set_option maxRecDepth 20000 in
theorem ml_X10_343 : zLV RX10 343 10 yX10_countOfTable cX10_countOfTable 4 (some .int) 2 := ⟨⟨(zTb_in (zin_5 (List.mem_of_getElem? (i := 168) rfl)) rfl), (zTb_in (zin_5 (List.mem_of_getElem? (i := 171) rfl)) rfl), (zTb_in (zin_1 (List.mem_of_getElem? (i := 1) rfl)) rfl), ⟨by decide, by decide⟩, by decide +kernel, by decide⟩, ⟨(zTb_in (zin_5 (List.mem_of_getElem? (i := 170) rfl)) rfl), (zTb_in (zin_0 (List.mem_of_getElem? (i := 46) rfl)) rfl)⟩, by decide⟩
set_option maxRecDepth 20000 in
theorem ml_X10_346 : zLV RX10 346 8 yX8_falseEntries cX8_falseEntries 3 (some .int) 0 := ⟨⟨(zTb_in (zin_5 (List.mem_of_getElem? (i := 172) rfl)) rfl), (zTb_in (zin_5 (List.mem_of_getElem? (i := 175) rfl)) rfl), (zTb_in (zin_1 (List.mem_of_getElem? (i := 21) rfl)) rfl), ⟨by decide, by decide⟩, by decide +kernel, by decide⟩, ⟨(zTb_in (zin_5 (List.mem_of_getElem? (i := 173) rfl)) rfl), (zTb_in (zin_5 (List.mem_of_getElem? (i := 174) rfl)) rfl)⟩, by decide⟩
set_option maxRecDepth 20000 in
theorem ml_X10_357 : zLS RX10 357 yJ9_abs_067f4 cJ9_abs_067f4 2 (some .long) 1 := ⟨⟨(zTb_in (zin_3 (List.mem_of_getElem? (i := 227) rfl)) rfl), (zTb_in (zin_3 (List.mem_of_getElem? (i := 74) rfl)) rfl), (zTb_in (zin_1 (List.mem_of_getElem? (i := 15) rfl)) rfl), ⟨by decide, by decide⟩, by decide +kernel, by decide⟩, (zTb_in (zin_3 (List.mem_of_getElem? (i := 73) rfl)) rfl)⟩
set_option maxRecDepth 20000 in
theorem ml_X0_3 : Cond.methodLink RX0 3 objectInit ∈ zTb := (zTb_in (zin_1 (List.mem_of_getElem? (i := 81) rfl)) rfl)
set_option maxRecDepth 20000 in
theorem ml_X0_22 : zLV RX0 22 0 yX0_pushReduced cX0_pushReduced 12 none 2 := ⟨⟨(zTb_in (zin_3 (List.mem_of_getElem? (i := 68) rfl)) rfl), (zTb_in (zin_3 (List.mem_of_getElem? (i := 71) rfl)) rfl), (zTb_in (zin_1 (List.mem_of_getElem? (i := 4) rfl)) rfl), ⟨by decide, by decide⟩, by decide +kernel, by decide⟩, ⟨(zTb_in (zin_3 (List.mem_of_getElem? (i := 70) rfl)) rfl), (zTb_in (zin_0 (List.mem_of_getElem? (i := 16) rfl)) rfl)⟩, by decide⟩
set_option maxRecDepth 20000 in
theorem ml_X0_26 : zLV RX0 26 0 yX0_numerator cX0_numerator 1 (some .long) 0 := ⟨⟨(zTb_in (zin_3 (List.mem_of_getElem? (i := 84) rfl)) rfl), (zTb_in (zin_3 (List.mem_of_getElem? (i := 87) rfl)) rfl), (zTb_in (zin_1 (List.mem_of_getElem? (i := 4) rfl)) rfl), ⟨by decide, by decide⟩, by decide +kernel, by decide⟩, ⟨(zTb_in (zin_3 (List.mem_of_getElem? (i := 85) rfl)) rfl), (zTb_in (zin_3 (List.mem_of_getElem? (i := 86) rfl)) rfl)⟩, by decide⟩
set_option maxRecDepth 20000 in
theorem ml_X0_30 : zLV RX0 30 0 yX0_denominator cX0_denominator 1 (some .long) 0 := ⟨⟨(zTb_in (zin_3 (List.mem_of_getElem? (i := 88) rfl)) rfl), (zTb_in (zin_3 (List.mem_of_getElem? (i := 91) rfl)) rfl), (zTb_in (zin_1 (List.mem_of_getElem? (i := 4) rfl)) rfl), ⟨by decide, by decide⟩, by decide +kernel, by decide⟩, ⟨(zTb_in (zin_3 (List.mem_of_getElem? (i := 89) rfl)) rfl), (zTb_in (zin_3 (List.mem_of_getElem? (i := 90) rfl)) rfl)⟩, by decide⟩
set_option maxRecDepth 20000 in
theorem ml_X0_33 : zLV RX0 33 0 yX0_push cX0_push 5 none 2 := ⟨⟨(zTb_in (zin_3 (List.mem_of_getElem? (i := 78) rfl)) rfl), (zTb_in (zin_3 (List.mem_of_getElem? (i := 81) rfl)) rfl), (zTb_in (zin_1 (List.mem_of_getElem? (i := 4) rfl)) rfl), ⟨by decide, by decide⟩, by decide +kernel, by decide⟩, ⟨(zTb_in (zin_3 (List.mem_of_getElem? (i := 80) rfl)) rfl), (zTb_in (zin_0 (List.mem_of_getElem? (i := 17) rfl)) rfl)⟩, by decide⟩
set_option maxRecDepth 20000 in
theorem ml_X0_38 : zLS RX0 38 yX0_placeIn cX0_placeIn 2 (some .int) 2 := ⟨⟨(zTb_in (zin_3 (List.mem_of_getElem? (i := 92) rfl)) rfl), (zTb_in (zin_3 (List.mem_of_getElem? (i := 94) rfl)) rfl), (zTb_in (zin_1 (List.mem_of_getElem? (i := 4) rfl)) rfl), ⟨by decide, by decide⟩, by decide +kernel, by decide⟩, (zTb_in (zin_3 (List.mem_of_getElem? (i := 93) rfl)) rfl)⟩
set_option maxRecDepth 20000 in
theorem ml_X0_42 : zLV RX0 42 0 yX0_choose cX0_choose 14 (some .int) 2 := ⟨⟨(zTb_in (zin_3 (List.mem_of_getElem? (i := 95) rfl)) rfl), (zTb_in (zin_3 (List.mem_of_getElem? (i := 98) rfl)) rfl), (zTb_in (zin_1 (List.mem_of_getElem? (i := 4) rfl)) rfl), ⟨by decide, by decide⟩, by decide +kernel, by decide⟩, ⟨(zTb_in (zin_3 (List.mem_of_getElem? (i := 97) rfl)) rfl), (zTb_in (zin_0 (List.mem_of_getElem? (i := 18) rfl)) rfl)⟩, by decide⟩
set_option maxRecDepth 20000 in
theorem ml_X0_45 : zLV RX0 45 0 yX0_apply cX0_apply 6 none 1 := ⟨⟨(zTb_in (zin_3 (List.mem_of_getElem? (i := 106) rfl)) rfl), (zTb_in (zin_3 (List.mem_of_getElem? (i := 109) rfl)) rfl), (zTb_in (zin_1 (List.mem_of_getElem? (i := 4) rfl)) rfl), ⟨by decide, by decide⟩, by decide +kernel, by decide⟩, ⟨(zTb_in (zin_3 (List.mem_of_getElem? (i := 108) rfl)) rfl), (zTb_in (zin_0 (List.mem_of_getElem? (i := 20) rfl)) rfl)⟩, by decide⟩
set_option maxRecDepth 20000 in
theorem ml_X0_49 : zLV RX0 49 0 yX0_isNone cX0_isNone 1 (some .boolean) 0 := ⟨⟨(zTb_in (zin_3 (List.mem_of_getElem? (i := 218) rfl)) rfl), (zTb_in (zin_3 (List.mem_of_getElem? (i := 132) rfl)) rfl), (zTb_in (zin_1 (List.mem_of_getElem? (i := 4) rfl)) rfl), ⟨by decide, by decide⟩, by decide +kernel, by decide⟩, ⟨(zTb_in (zin_3 (List.mem_of_getElem? (i := 130) rfl)) rfl), (zTb_in (zin_3 (List.mem_of_getElem? (i := 131) rfl)) rfl)⟩, by decide⟩
set_option maxRecDepth 20000 in
theorem ml_X0_66 : zLV RX0 66 0 yX0_drop cX0_drop 1 none 0 := ⟨⟨(zTb_in (zin_3 (List.mem_of_getElem? (i := 99) rfl)) rfl), (zTb_in (zin_3 (List.mem_of_getElem? (i := 102) rfl)) rfl), (zTb_in (zin_1 (List.mem_of_getElem? (i := 4) rfl)) rfl), ⟨by decide, by decide⟩, by decide +kernel, by decide⟩, ⟨(zTb_in (zin_3 (List.mem_of_getElem? (i := 101) rfl)) rfl), (zTb_in (zin_0 (List.mem_of_getElem? (i := 19) rfl)) rfl)⟩, by decide⟩
set_option maxRecDepth 20000 in
theorem ml_X0_69 : zLS RX0 69 yJ13_compare_74951 cJ13_compare_74951 4 (some .int) 2 := ⟨⟨(zTb_in (zin_3 (List.mem_of_getElem? (i := 103) rfl)) rfl), (zTb_in (zin_3 (List.mem_of_getElem? (i := 105) rfl)) rfl), (zTb_in (zin_1 (List.mem_of_getElem? (i := 20) rfl)) rfl), ⟨by decide, by decide⟩, by decide +kernel, by decide⟩, (zTb_in (zin_3 (List.mem_of_getElem? (i := 104) rfl)) rfl)⟩
set_option maxRecDepth 20000 in
theorem ml_X0_75 : zLV RX0 75 0 yX0_pushRoot cX0_pushRoot 14 none 2 := ⟨⟨(zTb_in (zin_3 (List.mem_of_getElem? (i := 110) rfl)) rfl), (zTb_in (zin_3 (List.mem_of_getElem? (i := 113) rfl)) rfl), (zTb_in (zin_1 (List.mem_of_getElem? (i := 4) rfl)) rfl), ⟨by decide, by decide⟩, by decide +kernel, by decide⟩, ⟨(zTb_in (zin_3 (List.mem_of_getElem? (i := 112) rfl)) rfl), (zTb_in (zin_0 (List.mem_of_getElem? (i := 21) rfl)) rfl)⟩, by decide⟩
set_option maxRecDepth 20000 in
theorem ml_X0_78 : zLS RX0 78 yJ9_floorDiv_f86c9 cJ9_floorDiv_f86c9 6 (some .long) 2 := ⟨⟨(zTb_in (zin_3 (List.mem_of_getElem? (i := 118) rfl)) rfl), (zTb_in (zin_3 (List.mem_of_getElem? (i := 120) rfl)) rfl), (zTb_in (zin_1 (List.mem_of_getElem? (i := 15) rfl)) rfl), ⟨by decide, by decide⟩, by decide +kernel, by decide⟩, (zTb_in (zin_3 (List.mem_of_getElem? (i := 119) rfl)) rfl)⟩
set_option maxRecDepth 20000 in
theorem ml_X0_83 : zLV RX0 83 0 yX0_applyToTwo cX0_applyToTwo 10 none 3 := ⟨⟨(zTb_in (zin_3 (List.mem_of_getElem? (i := 121) rfl)) rfl), (zTb_in (zin_3 (List.mem_of_getElem? (i := 124) rfl)) rfl), (zTb_in (zin_1 (List.mem_of_getElem? (i := 4) rfl)) rfl), ⟨by decide, by decide⟩, by decide +kernel, by decide⟩, ⟨(zTb_in (zin_3 (List.mem_of_getElem? (i := 123) rfl)) rfl), (zTb_in (zin_0 (List.mem_of_getElem? (i := 22) rfl)) rfl)⟩, by decide⟩
set_option maxRecDepth 20000 in
theorem ml_X0_87 : zLV RX0 87 0 yX0_pushOne cX0_pushOne 10 none 5 := ⟨⟨(zTb_in (zin_3 (List.mem_of_getElem? (i := 125) rfl)) rfl), (zTb_in (zin_3 (List.mem_of_getElem? (i := 128) rfl)) rfl), (zTb_in (zin_1 (List.mem_of_getElem? (i := 4) rfl)) rfl), ⟨by decide, by decide⟩, by decide +kernel, by decide⟩, ⟨(zTb_in (zin_3 (List.mem_of_getElem? (i := 127) rfl)) rfl), (zTb_in (zin_0 (List.mem_of_getElem? (i := 23) rfl)) rfl)⟩, by decide⟩
set_option maxRecDepth 20000 in
theorem ml_X0_99 : zLS RX0 99 yJ9_abs_067f4 cJ9_abs_067f4 2 (some .long) 1 := ⟨⟨(zTb_in (zin_3 (List.mem_of_getElem? (i := 72) rfl)) rfl), (zTb_in (zin_3 (List.mem_of_getElem? (i := 74) rfl)) rfl), (zTb_in (zin_1 (List.mem_of_getElem? (i := 15) rfl)) rfl), ⟨by decide, by decide⟩, by decide +kernel, by decide⟩, (zTb_in (zin_3 (List.mem_of_getElem? (i := 73) rfl)) rfl)⟩
set_option maxRecDepth 20000 in
theorem ml_X0_103 : zLS RX0 103 yX0_commonDivisor cX0_commonDivisor 11 (some .long) 2 := ⟨⟨(zTb_in (zin_3 (List.mem_of_getElem? (i := 75) rfl)) rfl), (zTb_in (zin_3 (List.mem_of_getElem? (i := 77) rfl)) rfl), (zTb_in (zin_1 (List.mem_of_getElem? (i := 4) rfl)) rfl), ⟨by decide, by decide⟩, by decide +kernel, by decide⟩, (zTb_in (zin_3 (List.mem_of_getElem? (i := 76) rfl)) rfl)⟩
set_option maxRecDepth 20000 in
theorem ml_X1_3 : Cond.methodLink RX1 3 objectInit ∈ zTb := (zTb_in (zin_1 (List.mem_of_getElem? (i := 139) rfl)) rfl)
set_option maxRecDepth 20000 in
theorem ml_X1_36 : zLV RX1 36 1 yX1_stuckNow cX1_stuckNow 4 (some .long) 0 := ⟨⟨(zTb_in (zin_4 (List.mem_of_getElem? (i := 120) rfl)) rfl), (zTb_in (zin_4 (List.mem_of_getElem? (i := 123) rfl)) rfl), (zTb_in (zin_1 (List.mem_of_getElem? (i := 6) rfl)) rfl), ⟨by decide, by decide⟩, by decide +kernel, by decide⟩, ⟨(zTb_in (zin_4 (List.mem_of_getElem? (i := 122) rfl)) rfl), (zTb_in (zin_0 (List.mem_of_getElem? (i := 27) rfl)) rfl)⟩, by decide⟩
set_option maxRecDepth 20000 in
theorem ml_X1_40 : zLV RX1 40 1 yX1_addNextColumn cX1_addNextColumn 8 none 2 := ⟨⟨(zTb_in (zin_4 (List.mem_of_getElem? (i := 124) rfl)) rfl), (zTb_in (zin_4 (List.mem_of_getElem? (i := 127) rfl)) rfl), (zTb_in (zin_1 (List.mem_of_getElem? (i := 6) rfl)) rfl), ⟨by decide, by decide⟩, by decide +kernel, by decide⟩, ⟨(zTb_in (zin_4 (List.mem_of_getElem? (i := 126) rfl)) rfl), (zTb_in (zin_0 (List.mem_of_getElem? (i := 28) rfl)) rfl)⟩, by decide⟩
set_option maxRecDepth 20000 in
theorem ml_X2_3 : Cond.methodLink RX2 3 objectInit ∈ zTb := (zTb_in (zin_1 (List.mem_of_getElem? (i := 229) rfl)) rfl)
set_option maxRecDepth 20000 in
theorem ml_X3_3 : Cond.methodLink RX3 3 objectInit ∈ zTb := (zTb_in (zin_1 (List.mem_of_getElem? (i := 102) rfl)) rfl)
set_option maxRecDepth 20000 in
theorem ml_X3_45 : zLS RX3 45 yJ9_abs_0f7a4 cJ9_abs_0f7a4 1 (some .int) 1 := ⟨⟨(zTb_in (zin_4 (List.mem_of_getElem? (i := 32) rfl)) rfl), (zTb_in (zin_4 (List.mem_of_getElem? (i := 34) rfl)) rfl), (zTb_in (zin_1 (List.mem_of_getElem? (i := 15) rfl)) rfl), ⟨by decide, by decide⟩, by decide +kernel, by decide⟩, (zTb_in (zin_4 (List.mem_of_getElem? (i := 33) rfl)) rfl)⟩
set_option maxRecDepth 20000 in
theorem ml_X3_50 : zLV RX3 50 3 yX3_fillWouldWrite cX3_fillWouldWrite 6 none 1 := ⟨⟨(zTb_in (zin_4 (List.mem_of_getElem? (i := 68) rfl)) rfl), (zTb_in (zin_4 (List.mem_of_getElem? (i := 71) rfl)) rfl), (zTb_in (zin_1 (List.mem_of_getElem? (i := 5) rfl)) rfl), ⟨by decide, by decide⟩, by decide +kernel, by decide⟩, ⟨(zTb_in (zin_4 (List.mem_of_getElem? (i := 70) rfl)) rfl), (zTb_in (zin_0 (List.mem_of_getElem? (i := 25) rfl)) rfl)⟩, by decide⟩
set_option maxRecDepth 20000 in
theorem ml_X3_54 : zLV RX3 54 3 yX3_weigh cX3_weigh 13 none 5 := ⟨⟨(zTb_in (zin_4 (List.mem_of_getElem? (i := 77) rfl)) rfl), (zTb_in (zin_4 (List.mem_of_getElem? (i := 80) rfl)) rfl), (zTb_in (zin_1 (List.mem_of_getElem? (i := 5) rfl)) rfl), ⟨by decide, by decide⟩, by decide +kernel, by decide⟩, ⟨(zTb_in (zin_4 (List.mem_of_getElem? (i := 79) rfl)) rfl), (zTb_in (zin_0 (List.mem_of_getElem? (i := 26) rfl)) rfl)⟩, by decide⟩
set_option maxRecDepth 20000 in
theorem ml_X3_63 : zLS RX3 63 yX3_slotOf cX3_slotOf 3 (some .int) 3 := ⟨⟨(zTb_in (zin_4 (List.mem_of_getElem? (i := 72) rfl)) rfl), (zTb_in (zin_4 (List.mem_of_getElem? (i := 74) rfl)) rfl), (zTb_in (zin_1 (List.mem_of_getElem? (i := 5) rfl)) rfl), ⟨by decide, by decide⟩, by decide +kernel, by decide⟩, (zTb_in (zin_4 (List.mem_of_getElem? (i := 73) rfl)) rfl)⟩
set_option maxRecDepth 20000 in
theorem ml_X3_67 : zLV RX3 67 8 yX8_truthOf cX8_truthOf 2 (some .int) 1 := ⟨⟨(zTb_in (zin_4 (List.mem_of_getElem? (i := 75) rfl)) rfl), (zTb_in (zin_4 (List.mem_of_getElem? (i := 1) rfl)) rfl), (zTb_in (zin_1 (List.mem_of_getElem? (i := 21) rfl)) rfl), ⟨by decide, by decide⟩, by decide +kernel, by decide⟩, ⟨(zTb_in (zin_3 (List.mem_of_getElem? (i := 239) rfl)) rfl), (zTb_in (zin_4 (List.mem_of_getElem? (i := 0) rfl)) rfl)⟩, by decide⟩
set_option maxRecDepth 20000 in
theorem ml_X3_70 : zLV RX3 70 3 yX3_writes cX3_writes 6 (some .int) 3 := ⟨⟨(zTb_in (zin_4 (List.mem_of_getElem? (i := 76) rfl)) rfl), (zTb_in (zin_4 (List.mem_of_getElem? (i := 30) rfl)) rfl), (zTb_in (zin_1 (List.mem_of_getElem? (i := 5) rfl)) rfl), ⟨by decide, by decide⟩, by decide +kernel, by decide⟩, ⟨(zTb_in (zin_4 (List.mem_of_getElem? (i := 28) rfl)) rfl), (zTb_in (zin_4 (List.mem_of_getElem? (i := 29) rfl)) rfl)⟩, by decide⟩
set_option maxRecDepth 20000 in
theorem ml_X4_3 : Cond.methodLink RX4 3 objectInit ∈ zTb := (zTb_in (zin_1 (List.mem_of_getElem? (i := 51) rfl)) rfl)
set_option maxRecDepth 20000 in
theorem ml_X4_26 : zLV RX4 26 4 yX4_advance cX4_advance 2 none 0 := ⟨⟨(zTb_in (zin_2 (List.mem_of_getElem? (i := 76) rfl)) rfl), (zTb_in (zin_2 (List.mem_of_getElem? (i := 79) rfl)) rfl), (zTb_in (zin_1 (List.mem_of_getElem? (i := 3) rfl)) rfl), ⟨by decide, by decide⟩, by decide +kernel, by decide⟩, ⟨(zTb_in (zin_2 (List.mem_of_getElem? (i := 78) rfl)) rfl), (zTb_in (zin_0 (List.mem_of_getElem? (i := 0) rfl)) rfl)⟩, by decide⟩
set_option maxRecDepth 20000 in
theorem ml_X4_29 : zLV RX4 29 4 yX4_sum cX4_sum 4 (some .boolean) 1 := ⟨⟨(zTb_in (zin_2 (List.mem_of_getElem? (i := 221) rfl)) rfl), (zTb_in (zin_2 (List.mem_of_getElem? (i := 224) rfl)) rfl), (zTb_in (zin_1 (List.mem_of_getElem? (i := 3) rfl)) rfl), ⟨by decide, by decide⟩, by decide +kernel, by decide⟩, ⟨(zTb_in (zin_2 (List.mem_of_getElem? (i := 223) rfl)) rfl), (zTb_in (zin_0 (List.mem_of_getElem? (i := 4) rfl)) rfl)⟩, by decide⟩
set_option maxRecDepth 20000 in
theorem ml_X4_39 : zLV RX4 39 4 yX4_product cX4_product 4 (some .boolean) 1 := ⟨⟨(zTb_in (zin_2 (List.mem_of_getElem? (i := 225) rfl)) rfl), (zTb_in (zin_2 (List.mem_of_getElem? (i := 228) rfl)) rfl), (zTb_in (zin_1 (List.mem_of_getElem? (i := 3) rfl)) rfl), ⟨by decide, by decide⟩, by decide +kernel, by decide⟩, ⟨(zTb_in (zin_2 (List.mem_of_getElem? (i := 227) rfl)) rfl), (zTb_in (zin_0 (List.mem_of_getElem? (i := 5) rfl)) rfl)⟩, by decide⟩
set_option maxRecDepth 20000 in
theorem ml_X4_42 : zLV RX4 42 4 yX4_emit cX4_emit 2 (some .boolean) 1 := ⟨⟨(zTb_in (zin_2 (List.mem_of_getElem? (i := 233) rfl)) rfl), (zTb_in (zin_2 (List.mem_of_getElem? (i := 236) rfl)) rfl), (zTb_in (zin_1 (List.mem_of_getElem? (i := 3) rfl)) rfl), ⟨by decide, by decide⟩, by decide +kernel, by decide⟩, ⟨(zTb_in (zin_2 (List.mem_of_getElem? (i := 235) rfl)) rfl), (zTb_in (zin_0 (List.mem_of_getElem? (i := 7) rfl)) rfl)⟩, by decide⟩
set_option maxRecDepth 20000 in
theorem ml_X4_45 : zLV RX4 45 4 yX4_factor cX4_factor 3 (some .boolean) 1 := ⟨⟨(zTb_in (zin_2 (List.mem_of_getElem? (i := 229) rfl)) rfl), (zTb_in (zin_2 (List.mem_of_getElem? (i := 232) rfl)) rfl), (zTb_in (zin_1 (List.mem_of_getElem? (i := 3) rfl)) rfl), ⟨by decide, by decide⟩, by decide +kernel, by decide⟩, ⟨(zTb_in (zin_2 (List.mem_of_getElem? (i := 231) rfl)) rfl), (zTb_in (zin_0 (List.mem_of_getElem? (i := 6) rfl)) rfl)⟩, by decide⟩
set_option maxRecDepth 20000 in
theorem ml_X4_51 : zLV RX4 51 4 yX4_opens cX4_opens 1 (some .boolean) 0 := ⟨⟨(zTb_in (zin_3 (List.mem_of_getElem? (i := 1) rfl)) rfl), (zTb_in (zin_3 (List.mem_of_getElem? (i := 4) rfl)) rfl), (zTb_in (zin_1 (List.mem_of_getElem? (i := 3) rfl)) rfl), ⟨by decide, by decide⟩, by decide +kernel, by decide⟩, ⟨(zTb_in (zin_3 (List.mem_of_getElem? (i := 3) rfl)) rfl), (zTb_in (zin_0 (List.mem_of_getElem? (i := 9) rfl)) rfl)⟩, by decide⟩
set_option maxRecDepth 20000 in
theorem ml_X4_55 : zLV RX4 55 4 yX4_opened cX4_opened 3 (some .boolean) 2 := ⟨⟨(zTb_in (zin_3 (List.mem_of_getElem? (i := 5) rfl)) rfl), (zTb_in (zin_3 (List.mem_of_getElem? (i := 8) rfl)) rfl), (zTb_in (zin_1 (List.mem_of_getElem? (i := 3) rfl)) rfl), ⟨by decide, by decide⟩, by decide +kernel, by decide⟩, ⟨(zTb_in (zin_3 (List.mem_of_getElem? (i := 7) rfl)) rfl), (zTb_in (zin_0 (List.mem_of_getElem? (i := 10) rfl)) rfl)⟩, by decide⟩
set_option maxRecDepth 20000 in
theorem ml_X4_59 : zLV RX4 59 4 yX4_pass cX4_pass 2 (some .boolean) 1 := ⟨⟨(zTb_in (zin_3 (List.mem_of_getElem? (i := 9) rfl)) rfl), (zTb_in (zin_3 (List.mem_of_getElem? (i := 12) rfl)) rfl), (zTb_in (zin_1 (List.mem_of_getElem? (i := 3) rfl)) rfl), ⟨by decide, by decide⟩, by decide +kernel, by decide⟩, ⟨(zTb_in (zin_3 (List.mem_of_getElem? (i := 11) rfl)) rfl), (zTb_in (zin_0 (List.mem_of_getElem? (i := 11) rfl)) rfl)⟩, by decide⟩
set_option maxRecDepth 20000 in
theorem ml_X4_62 : zLV RX4 62 4 yX4_twoInBrackets cX4_twoInBrackets 2 (some .boolean) 1 := ⟨⟨(zTb_in (zin_3 (List.mem_of_getElem? (i := 13) rfl)) rfl), (zTb_in (zin_3 (List.mem_of_getElem? (i := 16) rfl)) rfl), (zTb_in (zin_1 (List.mem_of_getElem? (i := 3) rfl)) rfl), ⟨by decide, by decide⟩, by decide +kernel, by decide⟩, ⟨(zTb_in (zin_3 (List.mem_of_getElem? (i := 15) rfl)) rfl), (zTb_in (zin_0 (List.mem_of_getElem? (i := 12) rfl)) rfl)⟩, by decide⟩
set_option maxRecDepth 20000 in
theorem ml_X4_65 : zLV RX4 65 4 yX4_choice cX4_choice 5 (some .boolean) 1 := ⟨⟨(zTb_in (zin_3 (List.mem_of_getElem? (i := 17) rfl)) rfl), (zTb_in (zin_3 (List.mem_of_getElem? (i := 20) rfl)) rfl), (zTb_in (zin_1 (List.mem_of_getElem? (i := 3) rfl)) rfl), ⟨by decide, by decide⟩, by decide +kernel, by decide⟩, ⟨(zTb_in (zin_3 (List.mem_of_getElem? (i := 19) rfl)) rfl), (zTb_in (zin_0 (List.mem_of_getElem? (i := 13) rfl)) rfl)⟩, by decide⟩
set_option maxRecDepth 20000 in
theorem ml_X4_68 : zLV RX4 68 4 yX4_comparison cX4_comparison 1 (some .int) 0 := ⟨⟨(zTb_in (zin_3 (List.mem_of_getElem? (i := 21) rfl)) rfl), (zTb_in (zin_3 (List.mem_of_getElem? (i := 24) rfl)) rfl), (zTb_in (zin_1 (List.mem_of_getElem? (i := 3) rfl)) rfl), ⟨by decide, by decide⟩, by decide +kernel, by decide⟩, ⟨(zTb_in (zin_3 (List.mem_of_getElem? (i := 23) rfl)) rfl), (zTb_in (zin_0 (List.mem_of_getElem? (i := 14) rfl)) rfl)⟩, by decide⟩
set_option maxRecDepth 20000 in
theorem ml_X4_72 : zLV RX4 72 4 yX4_patch cX4_patch 3 none 2 := ⟨⟨(zTb_in (zin_2 (List.mem_of_getElem? (i := 237) rfl)) rfl), (zTb_in (zin_3 (List.mem_of_getElem? (i := 0) rfl)) rfl), (zTb_in (zin_1 (List.mem_of_getElem? (i := 3) rfl)) rfl), ⟨by decide, by decide⟩, by decide +kernel, by decide⟩, ⟨(zTb_in (zin_2 (List.mem_of_getElem? (i := 239) rfl)) rfl), (zTb_in (zin_0 (List.mem_of_getElem? (i := 8) rfl)) rfl)⟩, by decide⟩
set_option maxRecDepth 20000 in
theorem ml_X4_76 : zLV RX4 76 9 yX9_at cX9_at 2 (some .int) 1 := ⟨⟨(zTb_in (zin_2 (List.mem_of_getElem? (i := 80) rfl)) rfl), (zTb_in (zin_2 (List.mem_of_getElem? (i := 83) rfl)) rfl), (zTb_in (zin_1 (List.mem_of_getElem? (i := 2) rfl)) rfl), ⟨by decide, by decide⟩, by decide +kernel, by decide⟩, ⟨(zTb_in (zin_2 (List.mem_of_getElem? (i := 81) rfl)) rfl), (zTb_in (zin_2 (List.mem_of_getElem? (i := 82) rfl)) rfl)⟩, by decide⟩
set_option maxRecDepth 20000 in
theorem ml_X4_81 : zLS RX4 81 yX4_isLetter cX4_isLetter 1 (some .boolean) 1 := ⟨⟨(zTb_in (zin_2 (List.mem_of_getElem? (i := 84) rfl)) rfl), (zTb_in (zin_2 (List.mem_of_getElem? (i := 86) rfl)) rfl), (zTb_in (zin_1 (List.mem_of_getElem? (i := 3) rfl)) rfl), ⟨by decide, by decide⟩, by decide +kernel, by decide⟩, (zTb_in (zin_2 (List.mem_of_getElem? (i := 85) rfl)) rfl)⟩
set_option maxRecDepth 20000 in
theorem ml_X4_84 : zLV RX4 84 4 yX4_takeWord cX4_takeWord 2 none 0 := ⟨⟨(zTb_in (zin_2 (List.mem_of_getElem? (i := 87) rfl)) rfl), (zTb_in (zin_2 (List.mem_of_getElem? (i := 90) rfl)) rfl), (zTb_in (zin_1 (List.mem_of_getElem? (i := 3) rfl)) rfl), ⟨by decide, by decide⟩, by decide +kernel, by decide⟩, ⟨(zTb_in (zin_2 (List.mem_of_getElem? (i := 89) rfl)) rfl), (zTb_in (zin_0 (List.mem_of_getElem? (i := 1) rfl)) rfl)⟩, by decide⟩
set_option maxRecDepth 20000 in
theorem ml_X4_87 : zLS RX4 87 yX4_isDigit cX4_isDigit 1 (some .boolean) 1 := ⟨⟨(zTb_in (zin_2 (List.mem_of_getElem? (i := 151) rfl)) rfl), (zTb_in (zin_2 (List.mem_of_getElem? (i := 153) rfl)) rfl), (zTb_in (zin_1 (List.mem_of_getElem? (i := 3) rfl)) rfl), ⟨by decide, by decide⟩, by decide +kernel, by decide⟩, (zTb_in (zin_2 (List.mem_of_getElem? (i := 152) rfl)) rfl)⟩
set_option maxRecDepth 20000 in
theorem ml_X4_90 : zLV RX4 90 4 yX4_takeNumber cX4_takeNumber 2 none 0 := ⟨⟨(zTb_in (zin_2 (List.mem_of_getElem? (i := 154) rfl)) rfl), (zTb_in (zin_2 (List.mem_of_getElem? (i := 157) rfl)) rfl), (zTb_in (zin_1 (List.mem_of_getElem? (i := 3) rfl)) rfl), ⟨by decide, by decide⟩, by decide +kernel, by decide⟩, ⟨(zTb_in (zin_2 (List.mem_of_getElem? (i := 156) rfl)) rfl), (zTb_in (zin_0 (List.mem_of_getElem? (i := 3) rfl)) rfl)⟩, by decide⟩
set_option maxRecDepth 20000 in
theorem ml_X4_101 : zLS RX4 101 yJ9_min_7cf53 cJ9_min_7cf53 2 (some .int) 2 := ⟨⟨(zTb_in (zin_2 (List.mem_of_getElem? (i := 159) rfl)) rfl), (zTb_in (zin_2 (List.mem_of_getElem? (i := 161) rfl)) rfl), (zTb_in (zin_1 (List.mem_of_getElem? (i := 15) rfl)) rfl), ⟨by decide, by decide⟩, by decide +kernel, by decide⟩, (zTb_in (zin_2 (List.mem_of_getElem? (i := 160) rfl)) rfl)⟩
set_option maxRecDepth 20000 in
theorem ml_X4_110 : zLV RX4 110 4 yX4_isWord cX4_isWord 3 (some .boolean) 1 := ⟨⟨(zTb_in (zin_2 (List.mem_of_getElem? (i := 92) rfl)) rfl), (zTb_in (zin_2 (List.mem_of_getElem? (i := 95) rfl)) rfl), (zTb_in (zin_1 (List.mem_of_getElem? (i := 3) rfl)) rfl), ⟨by decide, by decide⟩, by decide +kernel, by decide⟩, ⟨(zTb_in (zin_2 (List.mem_of_getElem? (i := 94) rfl)) rfl), (zTb_in (zin_0 (List.mem_of_getElem? (i := 2) rfl)) rfl)⟩, by decide⟩
set_option maxRecDepth 20000 in
theorem ml_X5_3 : Cond.methodLink RX5 3 objectInit ∈ zTb := (zTb_in (zin_1 (List.mem_of_getElem? (i := 169) rfl)) rfl)
set_option maxRecDepth 20000 in
theorem ml_X5_21 : zLS RX5 21 yJ7_fill_53178 cJ7_fill_53178 4 none 2 := ⟨⟨(zTb_in (zin_4 (List.mem_of_getElem? (i := 149) rfl)) rfl), (zTb_in (zin_3 (List.mem_of_getElem? (i := 157) rfl)) rfl), (zTb_in (zin_1 (List.mem_of_getElem? (i := 18) rfl)) rfl), ⟨by decide, by decide⟩, by decide +kernel, by decide⟩, (zTb_in (zin_3 (List.mem_of_getElem? (i := 156) rfl)) rfl)⟩
set_option maxRecDepth 20000 in
theorem ml_X5_33 : zLV RX5 33 8 yX8_truthOf cX8_truthOf 2 (some .int) 1 := ⟨⟨(zTb_in (zin_4 (List.mem_of_getElem? (i := 150) rfl)) rfl), (zTb_in (zin_4 (List.mem_of_getElem? (i := 1) rfl)) rfl), (zTb_in (zin_1 (List.mem_of_getElem? (i := 21) rfl)) rfl), ⟨by decide, by decide⟩, by decide +kernel, by decide⟩, ⟨(zTb_in (zin_3 (List.mem_of_getElem? (i := 239) rfl)) rfl), (zTb_in (zin_4 (List.mem_of_getElem? (i := 0) rfl)) rfl)⟩, by decide⟩
set_option maxRecDepth 20000 in
theorem ml_X5_38 : zLV RX5 38 5 yX5_offer cX5_offer 3 none 2 := ⟨⟨(zTb_in (zin_4 (List.mem_of_getElem? (i := 152) rfl)) rfl), (zTb_in (zin_4 (List.mem_of_getElem? (i := 155) rfl)) rfl), (zTb_in (zin_1 (List.mem_of_getElem? (i := 7) rfl)) rfl), ⟨by decide, by decide⟩, by decide +kernel, by decide⟩, ⟨(zTb_in (zin_4 (List.mem_of_getElem? (i := 154) rfl)) rfl), (zTb_in (zin_0 (List.mem_of_getElem? (i := 29) rfl)) rfl)⟩, by decide⟩
set_option maxRecDepth 20000 in
theorem ml_X5_42 : zLV RX5 42 5 yX5_offerRuns cX5_offerRuns 8 none 4 := ⟨⟨(zTb_in (zin_4 (List.mem_of_getElem? (i := 156) rfl)) rfl), (zTb_in (zin_4 (List.mem_of_getElem? (i := 159) rfl)) rfl), (zTb_in (zin_1 (List.mem_of_getElem? (i := 7) rfl)) rfl), ⟨by decide, by decide⟩, by decide +kernel, by decide⟩, ⟨(zTb_in (zin_4 (List.mem_of_getElem? (i := 158) rfl)) rfl), (zTb_in (zin_0 (List.mem_of_getElem? (i := 30) rfl)) rfl)⟩, by decide⟩
set_option maxRecDepth 20000 in
theorem ml_X5_46 : zLV RX5 46 8 yX8_differences cX8_differences 6 (some .boolean) 3 := ⟨⟨(zTb_in (zin_4 (List.mem_of_getElem? (i := 160) rfl)) rfl), (zTb_in (zin_4 (List.mem_of_getElem? (i := 88) rfl)) rfl), (zTb_in (zin_1 (List.mem_of_getElem? (i := 21) rfl)) rfl), ⟨by decide, by decide⟩, by decide +kernel, by decide⟩, ⟨(zTb_in (zin_4 (List.mem_of_getElem? (i := 86) rfl)) rfl), (zTb_in (zin_4 (List.mem_of_getElem? (i := 87) rfl)) rfl)⟩, by decide⟩
set_option maxRecDepth 20000 in
theorem ml_X5_50 : zLS RX5 50 yX5_settingCost cX5_settingCost 1 (some .int) 1 := ⟨⟨(zTb_in (zin_4 (List.mem_of_getElem? (i := 161) rfl)) rfl), (zTb_in (zin_4 (List.mem_of_getElem? (i := 103) rfl)) rfl), (zTb_in (zin_1 (List.mem_of_getElem? (i := 7) rfl)) rfl), ⟨by decide, by decide⟩, by decide +kernel, by decide⟩, (zTb_in (zin_4 (List.mem_of_getElem? (i := 102) rfl)) rfl)⟩
set_option maxRecDepth 20000 in
theorem ml_X5_57 : zLS RX5 57 yJ9_abs_067f4 cJ9_abs_067f4 2 (some .long) 1 := ⟨⟨(zTb_in (zin_4 (List.mem_of_getElem? (i := 163) rfl)) rfl), (zTb_in (zin_3 (List.mem_of_getElem? (i := 74) rfl)) rfl), (zTb_in (zin_1 (List.mem_of_getElem? (i := 15) rfl)) rfl), ⟨by decide, by decide⟩, by decide +kernel, by decide⟩, (zTb_in (zin_3 (List.mem_of_getElem? (i := 73) rfl)) rfl)⟩
set_option maxRecDepth 20000 in
theorem ml_X5_63 : zLV RX5 63 5 yX5_addColumns cX5_addColumns 2 none 0 := ⟨⟨(zTb_in (zin_4 (List.mem_of_getElem? (i := 164) rfl)) rfl), (zTb_in (zin_4 (List.mem_of_getElem? (i := 167) rfl)) rfl), (zTb_in (zin_1 (List.mem_of_getElem? (i := 7) rfl)) rfl), ⟨by decide, by decide⟩, by decide +kernel, by decide⟩, ⟨(zTb_in (zin_4 (List.mem_of_getElem? (i := 166) rfl)) rfl), (zTb_in (zin_0 (List.mem_of_getElem? (i := 31) rfl)) rfl)⟩, by decide⟩
set_option maxRecDepth 20000 in
theorem ml_X6_3 : Cond.methodLink RX6 3 objectInit ∈ zTb := (zTb_in (zin_1 (List.mem_of_getElem? (i := 183) rfl)) rfl)
set_option maxRecDepth 20000 in
theorem ml_X6_32 : zLS RX6 32 yX6_isRowNumber cX6_isRowNumber 1 (some .boolean) 1 := ⟨⟨(zTb_in (zin_4 (List.mem_of_getElem? (i := 177) rfl)) rfl), (zTb_in (zin_4 (List.mem_of_getElem? (i := 179) rfl)) rfl), (zTb_in (zin_1 (List.mem_of_getElem? (i := 8) rfl)) rfl), ⟨by decide, by decide⟩, by decide +kernel, by decide⟩, (zTb_in (zin_4 (List.mem_of_getElem? (i := 178) rfl)) rfl)⟩
set_option maxRecDepth 20000 in
theorem ml_X6_38 : zLS RX6 38 yJ9_min_7cf53 cJ9_min_7cf53 2 (some .int) 2 := ⟨⟨(zTb_in (zin_4 (List.mem_of_getElem? (i := 190) rfl)) rfl), (zTb_in (zin_2 (List.mem_of_getElem? (i := 161) rfl)) rfl), (zTb_in (zin_1 (List.mem_of_getElem? (i := 15) rfl)) rfl), ⟨by decide, by decide⟩, by decide +kernel, by decide⟩, (zTb_in (zin_2 (List.mem_of_getElem? (i := 160) rfl)) rfl)⟩
set_option maxRecDepth 20000 in
theorem ml_X6_44 : zLS RX6 44 yJ9_max_7cf53 cJ9_max_7cf53 2 (some .int) 2 := ⟨⟨(zTb_in (zin_4 (List.mem_of_getElem? (i := 191) rfl)) rfl), (zTb_in (zin_2 (List.mem_of_getElem? (i := 181) rfl)) rfl), (zTb_in (zin_1 (List.mem_of_getElem? (i := 15) rfl)) rfl), ⟨by decide, by decide⟩, by decide +kernel, by decide⟩, (zTb_in (zin_2 (List.mem_of_getElem? (i := 180) rfl)) rfl)⟩
set_option maxRecDepth 20000 in
theorem ml_X6_47 : zLV RX6 47 8 yX8_figureOf cX8_figureOf 2 (some .int) 1 := ⟨⟨(zTb_in (zin_4 (List.mem_of_getElem? (i := 192) rfl)) rfl), (zTb_in (zin_4 (List.mem_of_getElem? (i := 59) rfl)) rfl), (zTb_in (zin_1 (List.mem_of_getElem? (i := 21) rfl)) rfl), ⟨by decide, by decide⟩, by decide +kernel, by decide⟩, ⟨(zTb_in (zin_4 (List.mem_of_getElem? (i := 57) rfl)) rfl), (zTb_in (zin_4 (List.mem_of_getElem? (i := 58) rfl)) rfl)⟩, by decide⟩
set_option maxRecDepth 20000 in
theorem ml_X6_54 : zLV RX6 54 6 yX6_isThere cX6_isThere 2 (some .boolean) 1 := ⟨⟨(zTb_in (zin_5 (List.mem_of_getElem? (i := 27) rfl)) rfl), (zTb_in (zin_5 (List.mem_of_getElem? (i := 30) rfl)) rfl), (zTb_in (zin_1 (List.mem_of_getElem? (i := 8) rfl)) rfl), ⟨by decide, by decide⟩, by decide +kernel, by decide⟩, ⟨(zTb_in (zin_5 (List.mem_of_getElem? (i := 29) rfl)) rfl), (zTb_in (zin_0 (List.mem_of_getElem? (i := 42) rfl)) rfl)⟩, by decide⟩
set_option maxRecDepth 20000 in
theorem ml_X6_57 : zLV RX6 57 6 yX6_findPlaces cX6_findPlaces 2 none 0 := ⟨⟨(zTb_in (zin_4 (List.mem_of_getElem? (i := 206) rfl)) rfl), (zTb_in (zin_4 (List.mem_of_getElem? (i := 209) rfl)) rfl), (zTb_in (zin_1 (List.mem_of_getElem? (i := 8) rfl)) rfl), ⟨by decide, by decide⟩, by decide +kernel, by decide⟩, ⟨(zTb_in (zin_4 (List.mem_of_getElem? (i := 208) rfl)) rfl), (zTb_in (zin_0 (List.mem_of_getElem? (i := 32) rfl)) rfl)⟩, by decide⟩
set_option maxRecDepth 20000 in
theorem ml_X6_63 : zLV RX6 63 6 yX6_freeSlots cX6_freeSlots 1 none 0 := ⟨⟨(zTb_in (zin_4 (List.mem_of_getElem? (i := 210) rfl)) rfl), (zTb_in (zin_4 (List.mem_of_getElem? (i := 213) rfl)) rfl), (zTb_in (zin_1 (List.mem_of_getElem? (i := 8) rfl)) rfl), ⟨by decide, by decide⟩, by decide +kernel, by decide⟩, ⟨(zTb_in (zin_4 (List.mem_of_getElem? (i := 212) rfl)) rfl), (zTb_in (zin_0 (List.mem_of_getElem? (i := 33) rfl)) rfl)⟩, by decide⟩
set_option maxRecDepth 20000 in
theorem ml_X6_66 : zLV RX6 66 6 yX6_firstChoice cX6_firstChoice 3 none 1 := ⟨⟨(zTb_in (zin_4 (List.mem_of_getElem? (i := 215) rfl)) rfl), (zTb_in (zin_4 (List.mem_of_getElem? (i := 218) rfl)) rfl), (zTb_in (zin_1 (List.mem_of_getElem? (i := 8) rfl)) rfl), ⟨by decide, by decide⟩, by decide +kernel, by decide⟩, ⟨(zTb_in (zin_4 (List.mem_of_getElem? (i := 217) rfl)) rfl), (zTb_in (zin_0 (List.mem_of_getElem? (i := 34) rfl)) rfl)⟩, by decide⟩
set_option maxRecDepth 20000 in
theorem ml_X6_70 : zLV RX6 70 6 yX6_drawCurve cX6_drawCurve 4 none 0 := ⟨⟨(zTb_in (zin_4 (List.mem_of_getElem? (i := 219) rfl)) rfl), (zTb_in (zin_4 (List.mem_of_getElem? (i := 222) rfl)) rfl), (zTb_in (zin_1 (List.mem_of_getElem? (i := 8) rfl)) rfl), ⟨by decide, by decide⟩, by decide +kernel, by decide⟩, ⟨(zTb_in (zin_4 (List.mem_of_getElem? (i := 221) rfl)) rfl), (zTb_in (zin_0 (List.mem_of_getElem? (i := 35) rfl)) rfl)⟩, by decide⟩
set_option maxRecDepth 20000 in
theorem ml_X6_73 : zLV RX6 73 6 yX6_missedBy cX6_missedBy 7 (some .int) 2 := ⟨⟨(zTb_in (zin_4 (List.mem_of_getElem? (i := 227) rfl)) rfl), (zTb_in (zin_4 (List.mem_of_getElem? (i := 230) rfl)) rfl), (zTb_in (zin_1 (List.mem_of_getElem? (i := 8) rfl)) rfl), ⟨by decide, by decide⟩, by decide +kernel, by decide⟩, ⟨(zTb_in (zin_4 (List.mem_of_getElem? (i := 229) rfl)) rfl), (zTb_in (zin_0 (List.mem_of_getElem? (i := 37) rfl)) rfl)⟩, by decide⟩
set_option maxRecDepth 20000 in
theorem ml_X6_76 : zLS RX6 76 yJ6_bitCount_0f7a4 cJ6_bitCount_0f7a4 1 (some .int) 1 := ⟨⟨(zTb_in (zin_4 (List.mem_of_getElem? (i := 236) rfl)) rfl), (zTb_in (zin_4 (List.mem_of_getElem? (i := 238) rfl)) rfl), (zTb_in (zin_1 (List.mem_of_getElem? (i := 22) rfl)) rfl), ⟨by decide, by decide⟩, by decide +kernel, by decide⟩, (zTb_in (zin_4 (List.mem_of_getElem? (i := 237) rfl)) rfl)⟩
set_option maxRecDepth 20000 in
theorem ml_X6_87 : zLV RX6 87 6 yX6_isNewHeap cX6_isNewHeap 5 (some .boolean) 1 := ⟨⟨(zTb_in (zin_5 (List.mem_of_getElem? (i := 2) rfl)) rfl), (zTb_in (zin_5 (List.mem_of_getElem? (i := 5) rfl)) rfl), (zTb_in (zin_1 (List.mem_of_getElem? (i := 8) rfl)) rfl), ⟨by decide, by decide⟩, by decide +kernel, by decide⟩, ⟨(zTb_in (zin_5 (List.mem_of_getElem? (i := 4) rfl)) rfl), (zTb_in (zin_0 (List.mem_of_getElem? (i := 39) rfl)) rfl)⟩, by decide⟩
set_option maxRecDepth 20000 in
theorem ml_X6_90 : zLV RX6 90 6 yX6_nextChoice cX6_nextChoice 3 (some .boolean) 0 := ⟨⟨(zTb_in (zin_5 (List.mem_of_getElem? (i := 7) rfl)) rfl), (zTb_in (zin_5 (List.mem_of_getElem? (i := 10) rfl)) rfl), (zTb_in (zin_1 (List.mem_of_getElem? (i := 8) rfl)) rfl), ⟨by decide, by decide⟩, by decide +kernel, by decide⟩, ⟨(zTb_in (zin_5 (List.mem_of_getElem? (i := 9) rfl)) rfl), (zTb_in (zin_0 (List.mem_of_getElem? (i := 40) rfl)) rfl)⟩, by decide⟩
set_option maxRecDepth 20000 in
theorem ml_X6_97 : zLS RX6 97 yJ7_fill_53178 cJ7_fill_53178 4 none 2 := ⟨⟨(zTb_in (zin_4 (List.mem_of_getElem? (i := 214) rfl)) rfl), (zTb_in (zin_3 (List.mem_of_getElem? (i := 157) rfl)) rfl), (zTb_in (zin_1 (List.mem_of_getElem? (i := 18) rfl)) rfl), ⟨by decide, by decide⟩, by decide +kernel, by decide⟩, (zTb_in (zin_3 (List.mem_of_getElem? (i := 156) rfl)) rfl)⟩
set_option maxRecDepth 20000 in
theorem ml_X6_111 : zLV RX6 111 6 yX6_numberAt cX6_numberAt 2 (some .int) 1 := ⟨⟨(zTb_in (zin_4 (List.mem_of_getElem? (i := 223) rfl)) rfl), (zTb_in (zin_4 (List.mem_of_getElem? (i := 226) rfl)) rfl), (zTb_in (zin_1 (List.mem_of_getElem? (i := 8) rfl)) rfl), ⟨by decide, by decide⟩, by decide +kernel, by decide⟩, ⟨(zTb_in (zin_4 (List.mem_of_getElem? (i := 225) rfl)) rfl), (zTb_in (zin_0 (List.mem_of_getElem? (i := 36) rfl)) rfl)⟩, by decide⟩
set_option maxRecDepth 20000 in
theorem ml_X6_114 : zLV RX6 114 6 yX6_curveAt cX6_curveAt 5 (some .long) 1 := ⟨⟨(zTb_in (zin_4 (List.mem_of_getElem? (i := 231) rfl)) rfl), (zTb_in (zin_4 (List.mem_of_getElem? (i := 234) rfl)) rfl), (zTb_in (zin_1 (List.mem_of_getElem? (i := 8) rfl)) rfl), ⟨by decide, by decide⟩, by decide +kernel, by decide⟩, ⟨(zTb_in (zin_4 (List.mem_of_getElem? (i := 233) rfl)) rfl), (zTb_in (zin_0 (List.mem_of_getElem? (i := 38) rfl)) rfl)⟩, by decide⟩
set_option maxRecDepth 20000 in
theorem ml_X6_118 : zLS RX6 118 yJ9_abs_067f4 cJ9_abs_067f4 2 (some .long) 1 := ⟨⟨(zTb_in (zin_4 (List.mem_of_getElem? (i := 235) rfl)) rfl), (zTb_in (zin_3 (List.mem_of_getElem? (i := 74) rfl)) rfl), (zTb_in (zin_1 (List.mem_of_getElem? (i := 15) rfl)) rfl), ⟨by decide, by decide⟩, by decide +kernel, by decide⟩, (zTb_in (zin_3 (List.mem_of_getElem? (i := 73) rfl)) rfl)⟩
set_option maxRecDepth 20000 in
theorem ml_X6_122 : zLV RX6 122 6 yX6_areThere cX6_areThere 4 (some .boolean) 2 := ⟨⟨(zTb_in (zin_5 (List.mem_of_getElem? (i := 23) rfl)) rfl), (zTb_in (zin_5 (List.mem_of_getElem? (i := 26) rfl)) rfl), (zTb_in (zin_1 (List.mem_of_getElem? (i := 8) rfl)) rfl), ⟨by decide, by decide⟩, by decide +kernel, by decide⟩, ⟨(zTb_in (zin_5 (List.mem_of_getElem? (i := 25) rfl)) rfl), (zTb_in (zin_0 (List.mem_of_getElem? (i := 41) rfl)) rfl)⟩, by decide⟩
set_option maxRecDepth 20000 in
theorem ml_X6_132 : zLV RX6 132 6 yX6_fourthDifference cX6_fourthDifference 2 (some .int) 1 := ⟨⟨(zTb_in (zin_5 (List.mem_of_getElem? (i := 41) rfl)) rfl), (zTb_in (zin_5 (List.mem_of_getElem? (i := 44) rfl)) rfl), (zTb_in (zin_1 (List.mem_of_getElem? (i := 8) rfl)) rfl), ⟨by decide, by decide⟩, by decide +kernel, by decide⟩, ⟨(zTb_in (zin_5 (List.mem_of_getElem? (i := 43) rfl)) rfl), (zTb_in (zin_0 (List.mem_of_getElem? (i := 43) rfl)) rfl)⟩, by decide⟩
set_option maxRecDepth 20000 in
theorem ml_X6_135 : zLS RX6 135 yJ9_abs_0f7a4 cJ9_abs_0f7a4 1 (some .int) 1 := ⟨⟨(zTb_in (zin_5 (List.mem_of_getElem? (i := 45) rfl)) rfl), (zTb_in (zin_4 (List.mem_of_getElem? (i := 34) rfl)) rfl), (zTb_in (zin_1 (List.mem_of_getElem? (i := 15) rfl)) rfl), ⟨by decide, by decide⟩, by decide +kernel, by decide⟩, (zTb_in (zin_4 (List.mem_of_getElem? (i := 33) rfl)) rfl)⟩
set_option maxRecDepth 20000 in
theorem ml_X7_1 : Cond.methodLink RX7 1 objectInit ∈ zTb := (zTb_in (zin_3 (List.mem_of_getElem? (i := 48) rfl)) rfl)
set_option maxRecDepth 20000 in
theorem ml_X8_3 : Cond.methodLink RX8 3 objectInit ∈ zTb := (zTb_in (zin_3 (List.mem_of_getElem? (i := 148) rfl)) rfl)
set_option maxRecDepth 20000 in
theorem ml_X8_9 : zLS RX8 9 yJ9_min_7cf53 cJ9_min_7cf53 2 (some .int) 2 := ⟨⟨(zTb_in (zin_3 (List.mem_of_getElem? (i := 149) rfl)) rfl), (zTb_in (zin_2 (List.mem_of_getElem? (i := 161) rfl)) rfl), (zTb_in (zin_1 (List.mem_of_getElem? (i := 15) rfl)) rfl), ⟨by decide, by decide⟩, by decide +kernel, by decide⟩, (zTb_in (zin_2 (List.mem_of_getElem? (i := 160) rfl)) rfl)⟩
set_option maxRecDepth 20000 in
theorem ml_X8_15 : zLS RX8 15 yJ9_max_7cf53 cJ9_max_7cf53 2 (some .int) 2 := ⟨⟨(zTb_in (zin_3 (List.mem_of_getElem? (i := 150) rfl)) rfl), (zTb_in (zin_2 (List.mem_of_getElem? (i := 181) rfl)) rfl), (zTb_in (zin_1 (List.mem_of_getElem? (i := 15) rfl)) rfl), ⟨by decide, by decide⟩, by decide +kernel, by decide⟩, (zTb_in (zin_2 (List.mem_of_getElem? (i := 180) rfl)) rfl)⟩
set_option maxRecDepth 20000 in
theorem ml_X8_25 : zLS RX8 25 yX8_filled cX8_filled 2 (some (.array .int)) 1 := ⟨⟨(zTb_in (zin_3 (List.mem_of_getElem? (i := 152) rfl)) rfl), (zTb_in (zin_3 (List.mem_of_getElem? (i := 154) rfl)) rfl), (zTb_in (zin_1 (List.mem_of_getElem? (i := 21) rfl)) rfl), ⟨by decide, by decide⟩, by decide +kernel, by decide⟩, (zTb_in (zin_3 (List.mem_of_getElem? (i := 153) rfl)) rfl)⟩
set_option maxRecDepth 20000 in
theorem ml_X8_60 : zLS RX8 60 yJ7_fill_53178 cJ7_fill_53178 4 none 2 := ⟨⟨(zTb_in (zin_3 (List.mem_of_getElem? (i := 155) rfl)) rfl), (zTb_in (zin_3 (List.mem_of_getElem? (i := 157) rfl)) rfl), (zTb_in (zin_1 (List.mem_of_getElem? (i := 18) rfl)) rfl), ⟨by decide, by decide⟩, by decide +kernel, by decide⟩, (zTb_in (zin_3 (List.mem_of_getElem? (i := 156) rfl)) rfl)⟩
set_option maxRecDepth 20000 in
theorem ml_X8_66 : zLV RX8 66 8 yX8_has cX8_has 2 (some .boolean) 1 := ⟨⟨(zTb_in (zin_4 (List.mem_of_getElem? (i := 2) rfl)) rfl), (zTb_in (zin_4 (List.mem_of_getElem? (i := 5) rfl)) rfl), (zTb_in (zin_1 (List.mem_of_getElem? (i := 21) rfl)) rfl), ⟨by decide, by decide⟩, by decide +kernel, by decide⟩, ⟨(zTb_in (zin_4 (List.mem_of_getElem? (i := 3) rfl)) rfl), (zTb_in (zin_4 (List.mem_of_getElem? (i := 4) rfl)) rfl)⟩, by decide⟩
set_option maxRecDepth 20000 in
theorem ml_X8_70 : zLV RX8 70 8 yX8_isAgreed cX8_isAgreed 2 (some .boolean) 1 := ⟨⟨(zTb_in (zin_4 (List.mem_of_getElem? (i := 43) rfl)) rfl), (zTb_in (zin_4 (List.mem_of_getElem? (i := 46) rfl)) rfl), (zTb_in (zin_1 (List.mem_of_getElem? (i := 21) rfl)) rfl), ⟨by decide, by decide⟩, by decide +kernel, by decide⟩, ⟨(zTb_in (zin_4 (List.mem_of_getElem? (i := 44) rfl)) rfl), (zTb_in (zin_4 (List.mem_of_getElem? (i := 45) rfl)) rfl)⟩, by decide⟩
set_option maxRecDepth 20000 in
theorem ml_X8_73 : zLV RX8 73 8 yX8_isFalse cX8_isFalse 2 (some .boolean) 1 := ⟨⟨(zTb_in (zin_5 (List.mem_of_getElem? (i := 139) rfl)) rfl), (zTb_in (zin_5 (List.mem_of_getElem? (i := 142) rfl)) rfl), (zTb_in (zin_1 (List.mem_of_getElem? (i := 21) rfl)) rfl), ⟨by decide, by decide⟩, by decide +kernel, by decide⟩, ⟨(zTb_in (zin_5 (List.mem_of_getElem? (i := 140) rfl)) rfl), (zTb_in (zin_5 (List.mem_of_getElem? (i := 141) rfl)) rfl)⟩, by decide⟩
set_option maxRecDepth 20000 in
theorem ml_X8_80 : zLV RX8 80 8 yX8_truthOf cX8_truthOf 2 (some .int) 1 := ⟨⟨(zTb_in (zin_4 (List.mem_of_getElem? (i := 47) rfl)) rfl), (zTb_in (zin_4 (List.mem_of_getElem? (i := 1) rfl)) rfl), (zTb_in (zin_1 (List.mem_of_getElem? (i := 21) rfl)) rfl), ⟨by decide, by decide⟩, by decide +kernel, by decide⟩, ⟨(zTb_in (zin_3 (List.mem_of_getElem? (i := 239) rfl)) rfl), (zTb_in (zin_4 (List.mem_of_getElem? (i := 0) rfl)) rfl)⟩, by decide⟩
set_option maxRecDepth 20000 in
theorem ml_X8_84 : zLS RX8 84 yJ7_fill_d0a16 cJ7_fill_d0a16 5 none 2 := ⟨⟨(zTb_in (zin_4 (List.mem_of_getElem? (i := 89) rfl)) rfl), (zTb_in (zin_4 (List.mem_of_getElem? (i := 91) rfl)) rfl), (zTb_in (zin_1 (List.mem_of_getElem? (i := 18) rfl)) rfl), ⟨by decide, by decide⟩, by decide +kernel, by decide⟩, (zTb_in (zin_4 (List.mem_of_getElem? (i := 90) rfl)) rfl)⟩
set_option maxRecDepth 20000 in
theorem ml_X8_89 : zLS RX8 89 yJ9_floorMod_f86c9 cJ9_floorMod_f86c9 6 (some .long) 2 := ⟨⟨(zTb_in (zin_4 (List.mem_of_getElem? (i := 93) rfl)) rfl), (zTb_in (zin_4 (List.mem_of_getElem? (i := 95) rfl)) rfl), (zTb_in (zin_1 (List.mem_of_getElem? (i := 15) rfl)) rfl), ⟨by decide, by decide⟩, by decide +kernel, by decide⟩, (zTb_in (zin_4 (List.mem_of_getElem? (i := 94) rfl)) rfl)⟩
set_option maxRecDepth 20000 in
theorem ml_X8_99 : zLV RX8 99 8 yX8_wearAll cX8_wearAll 2 none 0 := ⟨⟨(zTb_in (zin_5 (List.mem_of_getElem? (i := 75) rfl)) rfl), (zTb_in (zin_5 (List.mem_of_getElem? (i := 78) rfl)) rfl), (zTb_in (zin_1 (List.mem_of_getElem? (i := 21) rfl)) rfl), ⟨by decide, by decide⟩, by decide +kernel, by decide⟩, ⟨(zTb_in (zin_5 (List.mem_of_getElem? (i := 77) rfl)) rfl), (zTb_in (zin_0 (List.mem_of_getElem? (i := 45) rfl)) rfl)⟩, by decide⟩
set_option maxRecDepth 20000 in
theorem ml_X8_102 : zLS RX8 102 yJ9_abs_0f7a4 cJ9_abs_0f7a4 1 (some .int) 1 := ⟨⟨(zTb_in (zin_5 (List.mem_of_getElem? (i := 92) rfl)) rfl), (zTb_in (zin_4 (List.mem_of_getElem? (i := 34) rfl)) rfl), (zTb_in (zin_1 (List.mem_of_getElem? (i := 15) rfl)) rfl), ⟨by decide, by decide⟩, by decide +kernel, by decide⟩, (zTb_in (zin_4 (List.mem_of_getElem? (i := 33) rfl)) rfl)⟩
set_option maxRecDepth 20000 in
theorem ml_X8_105 : zLS RX8 105 yX8_readDigit cX8_readDigit 2 (some .int) 2 := ⟨⟨(zTb_in (zin_5 (List.mem_of_getElem? (i := 93) rfl)) rfl), (zTb_in (zin_5 (List.mem_of_getElem? (i := 95) rfl)) rfl), (zTb_in (zin_1 (List.mem_of_getElem? (i := 21) rfl)) rfl), ⟨by decide, by decide⟩, by decide +kernel, by decide⟩, (zTb_in (zin_5 (List.mem_of_getElem? (i := 94) rfl)) rfl)⟩
set_option maxRecDepth 20000 in
theorem ml_X8_111 : zLV RX8 111 8 yX8_sharedFalse cX8_sharedFalse 3 (some .int) 0 := ⟨⟨(zTb_in (zin_5 (List.mem_of_getElem? (i := 151) rfl)) rfl), (zTb_in (zin_5 (List.mem_of_getElem? (i := 138) rfl)) rfl), (zTb_in (zin_1 (List.mem_of_getElem? (i := 21) rfl)) rfl), ⟨by decide, by decide⟩, by decide +kernel, by decide⟩, ⟨(zTb_in (zin_5 (List.mem_of_getElem? (i := 136) rfl)) rfl), (zTb_in (zin_5 (List.mem_of_getElem? (i := 137) rfl)) rfl)⟩, by decide⟩
set_option maxRecDepth 20000 in
theorem ml_X8_115 : zLS RX8 115 yX8_heapsOf cX8_heapsOf 5 (some .long) 2 := ⟨⟨(zTb_in (zin_5 (List.mem_of_getElem? (i := 152) rfl)) rfl), (zTb_in (zin_5 (List.mem_of_getElem? (i := 154) rfl)) rfl), (zTb_in (zin_1 (List.mem_of_getElem? (i := 21) rfl)) rfl), ⟨by decide, by decide⟩, by decide +kernel, by decide⟩, (zTb_in (zin_5 (List.mem_of_getElem? (i := 153) rfl)) rfl)⟩
set_option maxRecDepth 20000 in
theorem ml_X9_3 : Cond.methodLink RX9 3 objectInit ∈ zTb := (zTb_in (zin_1 (List.mem_of_getElem? (i := 36) rfl)) rfl)
set_option maxRecDepth 20000 in
theorem ml_L_9 : zLI RL 9 yX10_init cX10_init 1 0 := ⟨⟨(zTb_in (zin_1 (List.mem_of_getElem? (i := 25) rfl)) rfl), (zTb_in (zin_1 (List.mem_of_getElem? (i := 27) rfl)) rfl), (zTb_in (zin_1 (List.mem_of_getElem? (i := 1) rfl)) rfl), ⟨by decide, by decide⟩, by decide +kernel, by decide⟩, rfl, (zTb_in (zin_1 (List.mem_of_getElem? (i := 26) rfl)) rfl)⟩
set_option maxRecDepth 20000 in
theorem ml_L_12 : zLI RL 12 yX11_init cX11_init 1 0 := ⟨⟨(zTb_in (zin_5 (List.mem_of_getElem? (i := 178) rfl)) rfl), (zTb_in (zin_5 (List.mem_of_getElem? (i := 180) rfl)) rfl), (zTb_in (zin_1 (List.mem_of_getElem? (i := 10) rfl)) rfl), ⟨by decide, by decide⟩, by decide +kernel, by decide⟩, rfl, (zTb_in (zin_5 (List.mem_of_getElem? (i := 179) rfl)) rfl)⟩
set_option maxRecDepth 20000 in
theorem ml_L_13 : zLV RL 13 10 yX10_feed cX10_feed 6 (some .int) 5 := ⟨⟨(zTb_in (zin_2 (List.mem_of_getElem? (i := 56) rfl)) rfl), (zTb_in (zin_2 (List.mem_of_getElem? (i := 59) rfl)) rfl), (zTb_in (zin_1 (List.mem_of_getElem? (i := 1) rfl)) rfl), ⟨by decide, by decide⟩, by decide +kernel, by decide⟩, ⟨(zTb_in (zin_2 (List.mem_of_getElem? (i := 57) rfl)) rfl), (zTb_in (zin_2 (List.mem_of_getElem? (i := 58) rfl)) rfl)⟩, by decide⟩
set_option maxRecDepth 20000 in
theorem ml_L_17 : zLV RL 17 11 yX11_feed cX11_feed 8 (some .int) 5 := ⟨⟨(zTb_in (zin_6 (List.mem_of_getElem? (i := 136) rfl)) rfl), (zTb_in (zin_6 (List.mem_of_getElem? (i := 139) rfl)) rfl), (zTb_in (zin_1 (List.mem_of_getElem? (i := 10) rfl)) rfl), ⟨by decide, by decide⟩, by decide +kernel, by decide⟩, ⟨(zTb_in (zin_6 (List.mem_of_getElem? (i := 137) rfl)) rfl), (zTb_in (zin_6 (List.mem_of_getElem? (i := 138) rfl)) rfl)⟩, by decide⟩
set_option maxRecDepth 20000 in
theorem ml_L_18 : zLV RL 18 10 yX10_end cX10_end 2 (some .boolean) 1 := ⟨⟨(zTb_in (zin_2 (List.mem_of_getElem? (i := 64) rfl)) rfl), (zTb_in (zin_2 (List.mem_of_getElem? (i := 67) rfl)) rfl), (zTb_in (zin_1 (List.mem_of_getElem? (i := 1) rfl)) rfl), ⟨by decide, by decide⟩, by decide +kernel, by decide⟩, ⟨(zTb_in (zin_2 (List.mem_of_getElem? (i := 65) rfl)) rfl), (zTb_in (zin_2 (List.mem_of_getElem? (i := 66) rfl)) rfl)⟩, by decide⟩
set_option maxRecDepth 20000 in
theorem ml_L_22 : zLV RL 22 11 yX11_end cX11_end 2 (some .boolean) 1 := ⟨⟨(zTb_in (zin_6 (List.mem_of_getElem? (i := 140) rfl)) rfl), (zTb_in (zin_6 (List.mem_of_getElem? (i := 143) rfl)) rfl), (zTb_in (zin_1 (List.mem_of_getElem? (i := 10) rfl)) rfl), ⟨by decide, by decide⟩, by decide +kernel, by decide⟩, ⟨(zTb_in (zin_6 (List.mem_of_getElem? (i := 141) rfl)) rfl), (zTb_in (zin_6 (List.mem_of_getElem? (i := 142) rfl)) rfl)⟩, by decide⟩
set_option maxRecDepth 20000 in
theorem ml_L_23 : zLV RL 23 10 yX10_fault cX10_fault 1 (some .int) 0 := ⟨⟨(zTb_in (zin_2 (List.mem_of_getElem? (i := 68) rfl)) rfl), (zTb_in (zin_2 (List.mem_of_getElem? (i := 71) rfl)) rfl), (zTb_in (zin_1 (List.mem_of_getElem? (i := 1) rfl)) rfl), ⟨by decide, by decide⟩, by decide +kernel, by decide⟩, ⟨(zTb_in (zin_2 (List.mem_of_getElem? (i := 69) rfl)) rfl), (zTb_in (zin_2 (List.mem_of_getElem? (i := 70) rfl)) rfl)⟩, by decide⟩
set_option maxRecDepth 20000 in
theorem ml_L_27 : zLV RL 27 11 yX11_fault cX11_fault 1 (some .int) 0 := ⟨⟨(zTb_in (zin_6 (List.mem_of_getElem? (i := 147) rfl)) rfl), (zTb_in (zin_6 (List.mem_of_getElem? (i := 150) rfl)) rfl), (zTb_in (zin_1 (List.mem_of_getElem? (i := 10) rfl)) rfl), ⟨by decide, by decide⟩, by decide +kernel, by decide⟩, ⟨(zTb_in (zin_6 (List.mem_of_getElem? (i := 148) rfl)) rfl), (zTb_in (zin_6 (List.mem_of_getElem? (i := 149) rfl)) rfl)⟩, by decide⟩
set_option maxRecDepth 20000 in
theorem ml_L_28 : zLV RL 28 10 yX10_sheet cX10_sheet 1 (some .int) 0 := ⟨⟨(zTb_in (zin_3 (List.mem_of_getElem? (i := 26) rfl)) rfl), (zTb_in (zin_3 (List.mem_of_getElem? (i := 29) rfl)) rfl), (zTb_in (zin_1 (List.mem_of_getElem? (i := 1) rfl)) rfl), ⟨by decide, by decide⟩, by decide +kernel, by decide⟩, ⟨(zTb_in (zin_3 (List.mem_of_getElem? (i := 27) rfl)) rfl), (zTb_in (zin_3 (List.mem_of_getElem? (i := 28) rfl)) rfl)⟩, by decide⟩
set_option maxRecDepth 20000 in
theorem ml_L_31 : zLV RL 31 11 yX11_sheet cX11_sheet 2 (some .int) 0 := ⟨⟨(zTb_in (zin_6 (List.mem_of_getElem? (i := 219) rfl)) rfl), (zTb_in (zin_6 (List.mem_of_getElem? (i := 222) rfl)) rfl), (zTb_in (zin_1 (List.mem_of_getElem? (i := 10) rfl)) rfl), ⟨by decide, by decide⟩, by decide +kernel, by decide⟩, ⟨(zTb_in (zin_6 (List.mem_of_getElem? (i := 220) rfl)) rfl), (zTb_in (zin_6 (List.mem_of_getElem? (i := 221) rfl)) rfl)⟩, by decide⟩
set_option maxRecDepth 20000 in
theorem ml_L_32 : zLV RL 32 10 yX10_value cX10_value 6 (some .int) 4 := ⟨⟨(zTb_in (zin_3 (List.mem_of_getElem? (i := 54) rfl)) rfl), (zTb_in (zin_3 (List.mem_of_getElem? (i := 57) rfl)) rfl), (zTb_in (zin_1 (List.mem_of_getElem? (i := 1) rfl)) rfl), ⟨by decide, by decide⟩, by decide +kernel, by decide⟩, ⟨(zTb_in (zin_3 (List.mem_of_getElem? (i := 55) rfl)) rfl), (zTb_in (zin_3 (List.mem_of_getElem? (i := 56) rfl)) rfl)⟩, by decide⟩
set_option maxRecDepth 20000 in
theorem ml_L_36 : zLV RL 36 11 yX11_value cX11_value 5 (some .int) 4 := ⟨⟨(zTb_in (zin_6 (List.mem_of_getElem? (i := 223) rfl)) rfl), (zTb_in (zin_6 (List.mem_of_getElem? (i := 226) rfl)) rfl), (zTb_in (zin_1 (List.mem_of_getElem? (i := 10) rfl)) rfl), ⟨by decide, by decide⟩, by decide +kernel, by decide⟩, ⟨(zTb_in (zin_6 (List.mem_of_getElem? (i := 224) rfl)) rfl), (zTb_in (zin_6 (List.mem_of_getElem? (i := 225) rfl)) rfl)⟩, by decide⟩
set_option maxRecDepth 20000 in
theorem ml_L_37 : zLV RL 37 10 yX10_go cX10_go 2 (some .int) 1 := ⟨⟨(zTb_in (zin_3 (List.mem_of_getElem? (i := 135) rfl)) rfl), (zTb_in (zin_3 (List.mem_of_getElem? (i := 138) rfl)) rfl), (zTb_in (zin_1 (List.mem_of_getElem? (i := 1) rfl)) rfl), ⟨by decide, by decide⟩, by decide +kernel, by decide⟩, ⟨(zTb_in (zin_3 (List.mem_of_getElem? (i := 136) rfl)) rfl), (zTb_in (zin_3 (List.mem_of_getElem? (i := 137) rfl)) rfl)⟩, by decide⟩
set_option maxRecDepth 20000 in
theorem ml_L_41 : zLV RL 41 11 yX11_go cX11_go 2 (some .int) 1 := ⟨⟨(zTb_in (zin_7 (List.mem_of_getElem? (i := 24) rfl)) rfl), (zTb_in (zin_7 (List.mem_of_getElem? (i := 27) rfl)) rfl), (zTb_in (zin_1 (List.mem_of_getElem? (i := 10) rfl)) rfl), ⟨by decide, by decide⟩, by decide +kernel, by decide⟩, ⟨(zTb_in (zin_7 (List.mem_of_getElem? (i := 25) rfl)) rfl), (zTb_in (zin_7 (List.mem_of_getElem? (i := 26) rfl)) rfl)⟩, by decide⟩
set_option maxRecDepth 20000 in
theorem ml_L_42 : zLV RL 42 10 yX10_table cX10_table 12 (some .int) 4 := ⟨⟨(zTb_in (zin_3 (List.mem_of_getElem? (i := 140) rfl)) rfl), (zTb_in (zin_3 (List.mem_of_getElem? (i := 143) rfl)) rfl), (zTb_in (zin_1 (List.mem_of_getElem? (i := 1) rfl)) rfl), ⟨by decide, by decide⟩, by decide +kernel, by decide⟩, ⟨(zTb_in (zin_3 (List.mem_of_getElem? (i := 141) rfl)) rfl), (zTb_in (zin_3 (List.mem_of_getElem? (i := 142) rfl)) rfl)⟩, by decide⟩
set_option maxRecDepth 20000 in
theorem ml_L_45 : zLV RL 45 11 yX11_table cX11_table 11 (some .int) 4 := ⟨⟨(zTb_in (zin_7 (List.mem_of_getElem? (i := 28) rfl)) rfl), (zTb_in (zin_7 (List.mem_of_getElem? (i := 31) rfl)) rfl), (zTb_in (zin_1 (List.mem_of_getElem? (i := 10) rfl)) rfl), ⟨by decide, by decide⟩, by decide +kernel, by decide⟩, ⟨(zTb_in (zin_7 (List.mem_of_getElem? (i := 29) rfl)) rfl), (zTb_in (zin_7 (List.mem_of_getElem? (i := 30) rfl)) rfl)⟩, by decide⟩
set_option maxRecDepth 20000 in
theorem ml_L_46 : zLV RL 46 10 yX10_exact cX10_exact 4 (some .int) 2 := ⟨⟨(zTb_in (zin_3 (List.mem_of_getElem? (i := 230) rfl)) rfl), (zTb_in (zin_3 (List.mem_of_getElem? (i := 233) rfl)) rfl), (zTb_in (zin_1 (List.mem_of_getElem? (i := 1) rfl)) rfl), ⟨by decide, by decide⟩, by decide +kernel, by decide⟩, ⟨(zTb_in (zin_3 (List.mem_of_getElem? (i := 231) rfl)) rfl), (zTb_in (zin_3 (List.mem_of_getElem? (i := 232) rfl)) rfl)⟩, by decide⟩
set_option maxRecDepth 20000 in
theorem ml_L_50 : zLV RL 50 11 yX11_exact cX11_exact 3 (some .int) 2 := ⟨⟨(zTb_in (zin_7 (List.mem_of_getElem? (i := 42) rfl)) rfl), (zTb_in (zin_7 (List.mem_of_getElem? (i := 45) rfl)) rfl), (zTb_in (zin_1 (List.mem_of_getElem? (i := 10) rfl)) rfl), ⟨by decide, by decide⟩, by decide +kernel, by decide⟩, ⟨(zTb_in (zin_7 (List.mem_of_getElem? (i := 43) rfl)) rfl), (zTb_in (zin_7 (List.mem_of_getElem? (i := 44) rfl)) rfl)⟩, by decide⟩
set_option maxRecDepth 20000 in
theorem ml_L_51 : zLV RL 51 10 yX10_hand cX10_hand 1 (some .int) 0 := ⟨⟨(zTb_in (zin_4 (List.mem_of_getElem? (i := 6) rfl)) rfl), (zTb_in (zin_4 (List.mem_of_getElem? (i := 9) rfl)) rfl), (zTb_in (zin_1 (List.mem_of_getElem? (i := 1) rfl)) rfl), ⟨by decide, by decide⟩, by decide +kernel, by decide⟩, ⟨(zTb_in (zin_4 (List.mem_of_getElem? (i := 7) rfl)) rfl), (zTb_in (zin_4 (List.mem_of_getElem? (i := 8) rfl)) rfl)⟩, by decide⟩
set_option maxRecDepth 20000 in
theorem ml_L_54 : zLV RL 54 11 yX11_hand cX11_hand 1 (some .int) 0 := ⟨⟨(zTb_in (zin_7 (List.mem_of_getElem? (i := 57) rfl)) rfl), (zTb_in (zin_7 (List.mem_of_getElem? (i := 60) rfl)) rfl), (zTb_in (zin_1 (List.mem_of_getElem? (i := 10) rfl)) rfl), ⟨by decide, by decide⟩, by decide +kernel, by decide⟩, ⟨(zTb_in (zin_7 (List.mem_of_getElem? (i := 58) rfl)) rfl), (zTb_in (zin_7 (List.mem_of_getElem? (i := 59) rfl)) rfl)⟩, by decide⟩
set_option maxRecDepth 20000 in
theorem ml_L_55 : zLV RL 55 10 yX10_habit cX10_habit 4 (some .int) 3 := ⟨⟨(zTb_in (zin_4 (List.mem_of_getElem? (i := 10) rfl)) rfl), (zTb_in (zin_4 (List.mem_of_getElem? (i := 13) rfl)) rfl), (zTb_in (zin_1 (List.mem_of_getElem? (i := 1) rfl)) rfl), ⟨by decide, by decide⟩, by decide +kernel, by decide⟩, ⟨(zTb_in (zin_4 (List.mem_of_getElem? (i := 11) rfl)) rfl), (zTb_in (zin_4 (List.mem_of_getElem? (i := 12) rfl)) rfl)⟩, by decide⟩
set_option maxRecDepth 20000 in
theorem ml_L_59 : zLV RL 59 11 yX11_habit cX11_habit 4 (some .int) 3 := ⟨⟨(zTb_in (zin_7 (List.mem_of_getElem? (i := 61) rfl)) rfl), (zTb_in (zin_7 (List.mem_of_getElem? (i := 64) rfl)) rfl), (zTb_in (zin_1 (List.mem_of_getElem? (i := 10) rfl)) rfl), ⟨by decide, by decide⟩, by decide +kernel, by decide⟩, ⟨(zTb_in (zin_7 (List.mem_of_getElem? (i := 62) rfl)) rfl), (zTb_in (zin_7 (List.mem_of_getElem? (i := 63) rfl)) rfl)⟩, by decide⟩
set_option maxRecDepth 20000 in
theorem ml_L_60 : zLV RL 60 10 yX10_would cX10_would 6 (some .int) 4 := ⟨⟨(zTb_in (zin_4 (List.mem_of_getElem? (i := 23) rfl)) rfl), (zTb_in (zin_4 (List.mem_of_getElem? (i := 26) rfl)) rfl), (zTb_in (zin_1 (List.mem_of_getElem? (i := 1) rfl)) rfl), ⟨by decide, by decide⟩, by decide +kernel, by decide⟩, ⟨(zTb_in (zin_4 (List.mem_of_getElem? (i := 24) rfl)) rfl), (zTb_in (zin_4 (List.mem_of_getElem? (i := 25) rfl)) rfl)⟩, by decide⟩
set_option maxRecDepth 20000 in
theorem ml_L_63 : zLV RL 63 11 yX11_would cX11_would 5 (some .int) 4 := ⟨⟨(zTb_in (zin_7 (List.mem_of_getElem? (i := 69) rfl)) rfl), (zTb_in (zin_7 (List.mem_of_getElem? (i := 72) rfl)) rfl), (zTb_in (zin_1 (List.mem_of_getElem? (i := 10) rfl)) rfl), ⟨by decide, by decide⟩, by decide +kernel, by decide⟩, ⟨(zTb_in (zin_7 (List.mem_of_getElem? (i := 70) rfl)) rfl), (zTb_in (zin_7 (List.mem_of_getElem? (i := 71) rfl)) rfl)⟩, by decide⟩
set_option maxRecDepth 20000 in
theorem ml_L_64 : zLV RL 64 10 yX10_work cX10_work 7 (some .int) 4 := ⟨⟨(zTb_in (zin_4 (List.mem_of_getElem? (i := 35) rfl)) rfl), (zTb_in (zin_4 (List.mem_of_getElem? (i := 38) rfl)) rfl), (zTb_in (zin_1 (List.mem_of_getElem? (i := 1) rfl)) rfl), ⟨by decide, by decide⟩, by decide +kernel, by decide⟩, ⟨(zTb_in (zin_4 (List.mem_of_getElem? (i := 36) rfl)) rfl), (zTb_in (zin_4 (List.mem_of_getElem? (i := 37) rfl)) rfl)⟩, by decide⟩
set_option maxRecDepth 20000 in
theorem ml_L_67 : zLV RL 67 11 yX11_work cX11_work 8 (some .int) 4 := ⟨⟨(zTb_in (zin_7 (List.mem_of_getElem? (i := 77) rfl)) rfl), (zTb_in (zin_7 (List.mem_of_getElem? (i := 80) rfl)) rfl), (zTb_in (zin_1 (List.mem_of_getElem? (i := 10) rfl)) rfl), ⟨by decide, by decide⟩, by decide +kernel, by decide⟩, ⟨(zTb_in (zin_7 (List.mem_of_getElem? (i := 78) rfl)) rfl), (zTb_in (zin_7 (List.mem_of_getElem? (i := 79) rfl)) rfl)⟩, by decide⟩
set_option maxRecDepth 20000 in
theorem ml_L_68 : zLV RL 68 10 yX10_figure cX10_figure 4 (some .int) 2 := ⟨⟨(zTb_in (zin_4 (List.mem_of_getElem? (i := 52) rfl)) rfl), (zTb_in (zin_4 (List.mem_of_getElem? (i := 55) rfl)) rfl), (zTb_in (zin_1 (List.mem_of_getElem? (i := 1) rfl)) rfl), ⟨by decide, by decide⟩, by decide +kernel, by decide⟩, ⟨(zTb_in (zin_4 (List.mem_of_getElem? (i := 53) rfl)) rfl), (zTb_in (zin_4 (List.mem_of_getElem? (i := 54) rfl)) rfl)⟩, by decide⟩
set_option maxRecDepth 20000 in
theorem ml_L_71 : zLV RL 71 11 yX11_figure cX11_figure 3 (some .int) 2 := ⟨⟨(zTb_in (zin_7 (List.mem_of_getElem? (i := 85) rfl)) rfl), (zTb_in (zin_7 (List.mem_of_getElem? (i := 88) rfl)) rfl), (zTb_in (zin_1 (List.mem_of_getElem? (i := 10) rfl)) rfl), ⟨by decide, by decide⟩, by decide +kernel, by decide⟩, ⟨(zTb_in (zin_7 (List.mem_of_getElem? (i := 86) rfl)) rfl), (zTb_in (zin_7 (List.mem_of_getElem? (i := 87) rfl)) rfl)⟩, by decide⟩
set_option maxRecDepth 20000 in
theorem ml_L_72 : zLV RL 72 10 yX10_pair cX10_pair 4 (some .int) 2 := ⟨⟨(zTb_in (zin_4 (List.mem_of_getElem? (i := 60) rfl)) rfl), (zTb_in (zin_4 (List.mem_of_getElem? (i := 63) rfl)) rfl), (zTb_in (zin_1 (List.mem_of_getElem? (i := 1) rfl)) rfl), ⟨by decide, by decide⟩, by decide +kernel, by decide⟩, ⟨(zTb_in (zin_4 (List.mem_of_getElem? (i := 61) rfl)) rfl), (zTb_in (zin_4 (List.mem_of_getElem? (i := 62) rfl)) rfl)⟩, by decide⟩
set_option maxRecDepth 20000 in
theorem ml_L_75 : zLV RL 75 11 yX11_pair cX11_pair 7 (some .int) 2 := ⟨⟨(zTb_in (zin_7 (List.mem_of_getElem? (i := 89) rfl)) rfl), (zTb_in (zin_7 (List.mem_of_getElem? (i := 92) rfl)) rfl), (zTb_in (zin_1 (List.mem_of_getElem? (i := 10) rfl)) rfl), ⟨by decide, by decide⟩, by decide +kernel, by decide⟩, ⟨(zTb_in (zin_7 (List.mem_of_getElem? (i := 90) rfl)) rfl), (zTb_in (zin_7 (List.mem_of_getElem? (i := 91) rfl)) rfl)⟩, by decide⟩
set_option maxRecDepth 20000 in
theorem ml_L_76 : zLV RL 76 10 yX10_engine cX10_engine 5 (some .int) 3 := ⟨⟨(zTb_in (zin_4 (List.mem_of_getElem? (i := 81) rfl)) rfl), (zTb_in (zin_4 (List.mem_of_getElem? (i := 84) rfl)) rfl), (zTb_in (zin_1 (List.mem_of_getElem? (i := 1) rfl)) rfl), ⟨by decide, by decide⟩, by decide +kernel, by decide⟩, ⟨(zTb_in (zin_4 (List.mem_of_getElem? (i := 82) rfl)) rfl), (zTb_in (zin_4 (List.mem_of_getElem? (i := 83) rfl)) rfl)⟩, by decide⟩
set_option maxRecDepth 20000 in
theorem ml_L_79 : zLV RL 79 11 yX11_engine cX11_engine 8 (some .int) 3 := ⟨⟨(zTb_in (zin_7 (List.mem_of_getElem? (i := 97) rfl)) rfl), (zTb_in (zin_7 (List.mem_of_getElem? (i := 100) rfl)) rfl), (zTb_in (zin_1 (List.mem_of_getElem? (i := 10) rfl)) rfl), ⟨by decide, by decide⟩, by decide +kernel, by decide⟩, ⟨(zTb_in (zin_7 (List.mem_of_getElem? (i := 98) rfl)) rfl), (zTb_in (zin_7 (List.mem_of_getElem? (i := 99) rfl)) rfl)⟩, by decide⟩
set_option maxRecDepth 20000 in
theorem ml_L_80 : zLV RL 80 10 yX10_stick cX10_stick 4 (some .boolean) 3 := ⟨⟨(zTb_in (zin_4 (List.mem_of_getElem? (i := 104) rfl)) rfl), (zTb_in (zin_4 (List.mem_of_getElem? (i := 107) rfl)) rfl), (zTb_in (zin_1 (List.mem_of_getElem? (i := 1) rfl)) rfl), ⟨by decide, by decide⟩, by decide +kernel, by decide⟩, ⟨(zTb_in (zin_4 (List.mem_of_getElem? (i := 105) rfl)) rfl), (zTb_in (zin_4 (List.mem_of_getElem? (i := 106) rfl)) rfl)⟩, by decide⟩
set_option maxRecDepth 20000 in
theorem ml_L_84 : zLV RL 84 11 yX11_stick cX11_stick 4 (some .boolean) 3 := ⟨⟨(zTb_in (zin_7 (List.mem_of_getElem? (i := 109) rfl)) rfl), (zTb_in (zin_7 (List.mem_of_getElem? (i := 112) rfl)) rfl), (zTb_in (zin_1 (List.mem_of_getElem? (i := 10) rfl)) rfl), ⟨by decide, by decide⟩, by decide +kernel, by decide⟩, ⟨(zTb_in (zin_7 (List.mem_of_getElem? (i := 110) rfl)) rfl), (zTb_in (zin_7 (List.mem_of_getElem? (i := 111) rfl)) rfl)⟩, by decide⟩
set_option maxRecDepth 20000 in
theorem ml_L_85 : zLV RL 85 10 yX10_turn cX10_turn 3 (some .int) 1 := ⟨⟨(zTb_in (zin_4 (List.mem_of_getElem? (i := 112) rfl)) rfl), (zTb_in (zin_4 (List.mem_of_getElem? (i := 115) rfl)) rfl), (zTb_in (zin_1 (List.mem_of_getElem? (i := 1) rfl)) rfl), ⟨by decide, by decide⟩, by decide +kernel, by decide⟩, ⟨(zTb_in (zin_4 (List.mem_of_getElem? (i := 113) rfl)) rfl), (zTb_in (zin_4 (List.mem_of_getElem? (i := 114) rfl)) rfl)⟩, by decide⟩
set_option maxRecDepth 20000 in
theorem ml_L_88 : zLV RL 88 11 yX11_turn cX11_turn 3 (some .int) 1 := ⟨⟨(zTb_in (zin_7 (List.mem_of_getElem? (i := 114) rfl)) rfl), (zTb_in (zin_7 (List.mem_of_getElem? (i := 117) rfl)) rfl), (zTb_in (zin_1 (List.mem_of_getElem? (i := 10) rfl)) rfl), ⟨by decide, by decide⟩, by decide +kernel, by decide⟩, ⟨(zTb_in (zin_7 (List.mem_of_getElem? (i := 115) rfl)) rfl), (zTb_in (zin_7 (List.mem_of_getElem? (i := 116) rfl)) rfl)⟩, by decide⟩
set_option maxRecDepth 20000 in
theorem ml_L_89 : zLV RL 89 10 yX10_column cX10_column 2 (some .int) 1 := ⟨⟨(zTb_in (zin_4 (List.mem_of_getElem? (i := 137) rfl)) rfl), (zTb_in (zin_4 (List.mem_of_getElem? (i := 140) rfl)) rfl), (zTb_in (zin_1 (List.mem_of_getElem? (i := 1) rfl)) rfl), ⟨by decide, by decide⟩, by decide +kernel, by decide⟩, ⟨(zTb_in (zin_4 (List.mem_of_getElem? (i := 138) rfl)) rfl), (zTb_in (zin_4 (List.mem_of_getElem? (i := 139) rfl)) rfl)⟩, by decide⟩
set_option maxRecDepth 20000 in
theorem ml_L_92 : zLV RL 92 11 yX11_column cX11_column 2 (some .int) 1 := ⟨⟨(zTb_in (zin_7 (List.mem_of_getElem? (i := 135) rfl)) rfl), (zTb_in (zin_7 (List.mem_of_getElem? (i := 138) rfl)) rfl), (zTb_in (zin_1 (List.mem_of_getElem? (i := 10) rfl)) rfl), ⟨by decide, by decide⟩, by decide +kernel, by decide⟩, ⟨(zTb_in (zin_7 (List.mem_of_getElem? (i := 136) rfl)) rfl), (zTb_in (zin_7 (List.mem_of_getElem? (i := 137) rfl)) rfl)⟩, by decide⟩
set_option maxRecDepth 20000 in
theorem ml_L_93 : zLV RL 93 10 yX10_settings cX10_settings 4 (some .int) 2 := ⟨⟨(zTb_in (zin_4 (List.mem_of_getElem? (i := 141) rfl)) rfl), (zTb_in (zin_4 (List.mem_of_getElem? (i := 144) rfl)) rfl), (zTb_in (zin_1 (List.mem_of_getElem? (i := 1) rfl)) rfl), ⟨by decide, by decide⟩, by decide +kernel, by decide⟩, ⟨(zTb_in (zin_4 (List.mem_of_getElem? (i := 142) rfl)) rfl), (zTb_in (zin_4 (List.mem_of_getElem? (i := 143) rfl)) rfl)⟩, by decide⟩
set_option maxRecDepth 20000 in
theorem ml_L_96 : zLV RL 96 11 yX11_settings cX11_settings 6 (some .int) 2 := ⟨⟨(zTb_in (zin_7 (List.mem_of_getElem? (i := 140) rfl)) rfl), (zTb_in (zin_7 (List.mem_of_getElem? (i := 143) rfl)) rfl), (zTb_in (zin_1 (List.mem_of_getElem? (i := 10) rfl)) rfl), ⟨by decide, by decide⟩, by decide +kernel, by decide⟩, ⟨(zTb_in (zin_7 (List.mem_of_getElem? (i := 141) rfl)) rfl), (zTb_in (zin_7 (List.mem_of_getElem? (i := 142) rfl)) rfl)⟩, by decide⟩
set_option maxRecDepth 20000 in
theorem ml_L_97 : zLV RL 97 10 yX10_row cX10_row 2 (some .int) 1 := ⟨⟨(zTb_in (zin_4 (List.mem_of_getElem? (i := 169) rfl)) rfl), (zTb_in (zin_4 (List.mem_of_getElem? (i := 172) rfl)) rfl), (zTb_in (zin_1 (List.mem_of_getElem? (i := 1) rfl)) rfl), ⟨by decide, by decide⟩, by decide +kernel, by decide⟩, ⟨(zTb_in (zin_4 (List.mem_of_getElem? (i := 170) rfl)) rfl), (zTb_in (zin_4 (List.mem_of_getElem? (i := 171) rfl)) rfl)⟩, by decide⟩
set_option maxRecDepth 20000 in
theorem ml_L_100 : zLV RL 100 11 yX11_row cX11_row 2 (some .int) 1 := ⟨⟨(zTb_in (zin_7 (List.mem_of_getElem? (i := 149) rfl)) rfl), (zTb_in (zin_7 (List.mem_of_getElem? (i := 152) rfl)) rfl), (zTb_in (zin_1 (List.mem_of_getElem? (i := 10) rfl)) rfl), ⟨by decide, by decide⟩, by decide +kernel, by decide⟩, ⟨(zTb_in (zin_7 (List.mem_of_getElem? (i := 150) rfl)) rfl), (zTb_in (zin_7 (List.mem_of_getElem? (i := 151) rfl)) rfl)⟩, by decide⟩
set_option maxRecDepth 20000 in
theorem ml_L_101 : zLV RL 101 10 yX10_lay cX10_lay 5 (some .int) 3 := ⟨⟨(zTb_in (zin_4 (List.mem_of_getElem? (i := 182) rfl)) rfl), (zTb_in (zin_4 (List.mem_of_getElem? (i := 185) rfl)) rfl), (zTb_in (zin_1 (List.mem_of_getElem? (i := 1) rfl)) rfl), ⟨by decide, by decide⟩, by decide +kernel, by decide⟩, ⟨(zTb_in (zin_4 (List.mem_of_getElem? (i := 183) rfl)) rfl), (zTb_in (zin_4 (List.mem_of_getElem? (i := 184) rfl)) rfl)⟩, by decide⟩
set_option maxRecDepth 20000 in
theorem ml_L_104 : zLV RL 104 11 yX11_lay cX11_lay 7 (some .int) 3 := ⟨⟨(zTb_in (zin_7 (List.mem_of_getElem? (i := 155) rfl)) rfl), (zTb_in (zin_7 (List.mem_of_getElem? (i := 158) rfl)) rfl), (zTb_in (zin_1 (List.mem_of_getElem? (i := 10) rfl)) rfl), ⟨by decide, by decide⟩, by decide +kernel, by decide⟩, ⟨(zTb_in (zin_7 (List.mem_of_getElem? (i := 156) rfl)) rfl), (zTb_in (zin_7 (List.mem_of_getElem? (i := 157) rfl)) rfl)⟩, by decide⟩
set_option maxRecDepth 20000 in
theorem ml_L_105 : zLV RL 105 10 yX10_clear cX10_clear 2 (some .int) 0 := ⟨⟨(zTb_in (zin_4 (List.mem_of_getElem? (i := 194) rfl)) rfl), (zTb_in (zin_4 (List.mem_of_getElem? (i := 197) rfl)) rfl), (zTb_in (zin_1 (List.mem_of_getElem? (i := 1) rfl)) rfl), ⟨by decide, by decide⟩, by decide +kernel, by decide⟩, ⟨(zTb_in (zin_4 (List.mem_of_getElem? (i := 195) rfl)) rfl), (zTb_in (zin_4 (List.mem_of_getElem? (i := 196) rfl)) rfl)⟩, by decide⟩
set_option maxRecDepth 20000 in
theorem ml_L_108 : zLV RL 108 11 yX11_clear cX11_clear 2 (some .int) 0 := ⟨⟨(zTb_in (zin_7 (List.mem_of_getElem? (i := 160) rfl)) rfl), (zTb_in (zin_7 (List.mem_of_getElem? (i := 163) rfl)) rfl), (zTb_in (zin_1 (List.mem_of_getElem? (i := 10) rfl)) rfl), ⟨by decide, by decide⟩, by decide +kernel, by decide⟩, ⟨(zTb_in (zin_7 (List.mem_of_getElem? (i := 161) rfl)) rfl), (zTb_in (zin_7 (List.mem_of_getElem? (i := 162) rfl)) rfl)⟩, by decide⟩
set_option maxRecDepth 20000 in
theorem ml_L_109 : zLV RL 109 10 yX10_suspects cX10_suspects 3 (some .int) 2 := ⟨⟨(zTb_in (zin_4 (List.mem_of_getElem? (i := 198) rfl)) rfl), (zTb_in (zin_4 (List.mem_of_getElem? (i := 201) rfl)) rfl), (zTb_in (zin_1 (List.mem_of_getElem? (i := 1) rfl)) rfl), ⟨by decide, by decide⟩, by decide +kernel, by decide⟩, ⟨(zTb_in (zin_4 (List.mem_of_getElem? (i := 199) rfl)) rfl), (zTb_in (zin_4 (List.mem_of_getElem? (i := 200) rfl)) rfl)⟩, by decide⟩
set_option maxRecDepth 20000 in
theorem ml_L_112 : zLV RL 112 11 yX11_suspects cX11_suspects 3 (some .int) 2 := ⟨⟨(zTb_in (zin_7 (List.mem_of_getElem? (i := 164) rfl)) rfl), (zTb_in (zin_7 (List.mem_of_getElem? (i := 167) rfl)) rfl), (zTb_in (zin_1 (List.mem_of_getElem? (i := 10) rfl)) rfl), ⟨by decide, by decide⟩, by decide +kernel, by decide⟩, ⟨(zTb_in (zin_7 (List.mem_of_getElem? (i := 165) rfl)) rfl), (zTb_in (zin_7 (List.mem_of_getElem? (i := 166) rfl)) rfl)⟩, by decide⟩
set_option maxRecDepth 20000 in
theorem ml_L_113 : zLV RL 113 10 yX10_rivals cX10_rivals 3 (some .int) 2 := ⟨⟨(zTb_in (zin_5 (List.mem_of_getElem? (i := 11) rfl)) rfl), (zTb_in (zin_5 (List.mem_of_getElem? (i := 14) rfl)) rfl), (zTb_in (zin_1 (List.mem_of_getElem? (i := 1) rfl)) rfl), ⟨by decide, by decide⟩, by decide +kernel, by decide⟩, ⟨(zTb_in (zin_5 (List.mem_of_getElem? (i := 12) rfl)) rfl), (zTb_in (zin_5 (List.mem_of_getElem? (i := 13) rfl)) rfl)⟩, by decide⟩
set_option maxRecDepth 20000 in
theorem ml_L_116 : zLV RL 116 11 yX11_rivals cX11_rivals 7 (some .int) 2 := ⟨⟨(zTb_in (zin_7 (List.mem_of_getElem? (i := 181) rfl)) rfl), (zTb_in (zin_7 (List.mem_of_getElem? (i := 184) rfl)) rfl), (zTb_in (zin_1 (List.mem_of_getElem? (i := 10) rfl)) rfl), ⟨by decide, by decide⟩, by decide +kernel, by decide⟩, ⟨(zTb_in (zin_7 (List.mem_of_getElem? (i := 182) rfl)) rfl), (zTb_in (zin_7 (List.mem_of_getElem? (i := 183) rfl)) rfl)⟩, by decide⟩
set_option maxRecDepth 20000 in
theorem ml_L_117 : zLV RL 117 10 yX10_middle cX10_middle 4 (some .int) 3 := ⟨⟨(zTb_in (zin_5 (List.mem_of_getElem? (i := 15) rfl)) rfl), (zTb_in (zin_5 (List.mem_of_getElem? (i := 18) rfl)) rfl), (zTb_in (zin_1 (List.mem_of_getElem? (i := 1) rfl)) rfl), ⟨by decide, by decide⟩, by decide +kernel, by decide⟩, ⟨(zTb_in (zin_5 (List.mem_of_getElem? (i := 16) rfl)) rfl), (zTb_in (zin_5 (List.mem_of_getElem? (i := 17) rfl)) rfl)⟩, by decide⟩
set_option maxRecDepth 20000 in
theorem ml_L_120 : zLV RL 120 11 yX11_middle cX11_middle 10 (some .int) 3 := ⟨⟨(zTb_in (zin_7 (List.mem_of_getElem? (i := 185) rfl)) rfl), (zTb_in (zin_7 (List.mem_of_getElem? (i := 188) rfl)) rfl), (zTb_in (zin_1 (List.mem_of_getElem? (i := 10) rfl)) rfl), ⟨by decide, by decide⟩, by decide +kernel, by decide⟩, ⟨(zTb_in (zin_7 (List.mem_of_getElem? (i := 186) rfl)) rfl), (zTb_in (zin_7 (List.mem_of_getElem? (i := 187) rfl)) rfl)⟩, by decide⟩
set_option maxRecDepth 20000 in
theorem ml_L_121 : zLV RL 121 10 yX10_bound cX10_bound 2 (some .int) 1 := ⟨⟨(zTb_in (zin_5 (List.mem_of_getElem? (i := 33) rfl)) rfl), (zTb_in (zin_5 (List.mem_of_getElem? (i := 36) rfl)) rfl), (zTb_in (zin_1 (List.mem_of_getElem? (i := 1) rfl)) rfl), ⟨by decide, by decide⟩, by decide +kernel, by decide⟩, ⟨(zTb_in (zin_5 (List.mem_of_getElem? (i := 34) rfl)) rfl), (zTb_in (zin_5 (List.mem_of_getElem? (i := 35) rfl)) rfl)⟩, by decide⟩
set_option maxRecDepth 20000 in
theorem ml_L_124 : zLV RL 124 11 yX11_bound cX11_bound 5 (some .int) 1 := ⟨⟨(zTb_in (zin_7 (List.mem_of_getElem? (i := 193) rfl)) rfl), (zTb_in (zin_7 (List.mem_of_getElem? (i := 196) rfl)) rfl), (zTb_in (zin_1 (List.mem_of_getElem? (i := 10) rfl)) rfl), ⟨by decide, by decide⟩, by decide +kernel, by decide⟩, ⟨(zTb_in (zin_7 (List.mem_of_getElem? (i := 194) rfl)) rfl), (zTb_in (zin_7 (List.mem_of_getElem? (i := 195) rfl)) rfl)⟩, by decide⟩
set_option maxRecDepth 20000 in
theorem ml_L_125 : zLV RL 125 10 yX10_set cX10_set 3 (some .int) 1 := ⟨⟨(zTb_in (zin_5 (List.mem_of_getElem? (i := 46) rfl)) rfl), (zTb_in (zin_5 (List.mem_of_getElem? (i := 49) rfl)) rfl), (zTb_in (zin_1 (List.mem_of_getElem? (i := 1) rfl)) rfl), ⟨by decide, by decide⟩, by decide +kernel, by decide⟩, ⟨(zTb_in (zin_5 (List.mem_of_getElem? (i := 47) rfl)) rfl), (zTb_in (zin_5 (List.mem_of_getElem? (i := 48) rfl)) rfl)⟩, by decide⟩
set_option maxRecDepth 20000 in
theorem ml_L_128 : zLV RL 128 11 yX11_set cX11_set 4 (some .int) 1 := ⟨⟨(zTb_in (zin_7 (List.mem_of_getElem? (i := 201) rfl)) rfl), (zTb_in (zin_7 (List.mem_of_getElem? (i := 204) rfl)) rfl), (zTb_in (zin_1 (List.mem_of_getElem? (i := 10) rfl)) rfl), ⟨by decide, by decide⟩, by decide +kernel, by decide⟩, ⟨(zTb_in (zin_7 (List.mem_of_getElem? (i := 202) rfl)) rfl), (zTb_in (zin_7 (List.mem_of_getElem? (i := 203) rfl)) rfl)⟩, by decide⟩
set_option maxRecDepth 20000 in
theorem ml_L_129 : zLV RL 129 10 yX10_hard cX10_hard 2 (some .boolean) 1 := ⟨⟨(zTb_in (zin_5 (List.mem_of_getElem? (i := 58) rfl)) rfl), (zTb_in (zin_5 (List.mem_of_getElem? (i := 61) rfl)) rfl), (zTb_in (zin_1 (List.mem_of_getElem? (i := 1) rfl)) rfl), ⟨by decide, by decide⟩, by decide +kernel, by decide⟩, ⟨(zTb_in (zin_5 (List.mem_of_getElem? (i := 59) rfl)) rfl), (zTb_in (zin_5 (List.mem_of_getElem? (i := 60) rfl)) rfl)⟩, by decide⟩
set_option maxRecDepth 20000 in
theorem ml_L_132 : zLV RL 132 11 yX11_hard cX11_hard 2 (some .boolean) 1 := ⟨⟨(zTb_in (zin_7 (List.mem_of_getElem? (i := 205) rfl)) rfl), (zTb_in (zin_7 (List.mem_of_getElem? (i := 208) rfl)) rfl), (zTb_in (zin_1 (List.mem_of_getElem? (i := 10) rfl)) rfl), ⟨by decide, by decide⟩, by decide +kernel, by decide⟩, ⟨(zTb_in (zin_7 (List.mem_of_getElem? (i := 206) rfl)) rfl), (zTb_in (zin_7 (List.mem_of_getElem? (i := 207) rfl)) rfl)⟩, by decide⟩
set_option maxRecDepth 20000 in
theorem ml_L_133 : zLV RL 133 10 yX10_print cX10_print 4 (some .int) 2 := ⟨⟨(zTb_in (zin_5 (List.mem_of_getElem? (i := 62) rfl)) rfl), (zTb_in (zin_5 (List.mem_of_getElem? (i := 65) rfl)) rfl), (zTb_in (zin_1 (List.mem_of_getElem? (i := 1) rfl)) rfl), ⟨by decide, by decide⟩, by decide +kernel, by decide⟩, ⟨(zTb_in (zin_5 (List.mem_of_getElem? (i := 63) rfl)) rfl), (zTb_in (zin_5 (List.mem_of_getElem? (i := 64) rfl)) rfl)⟩, by decide⟩
set_option maxRecDepth 20000 in
theorem ml_L_136 : zLV RL 136 11 yX11_print cX11_print 5 (some .int) 2 := ⟨⟨(zTb_in (zin_7 (List.mem_of_getElem? (i := 210) rfl)) rfl), (zTb_in (zin_7 (List.mem_of_getElem? (i := 213) rfl)) rfl), (zTb_in (zin_1 (List.mem_of_getElem? (i := 10) rfl)) rfl), ⟨by decide, by decide⟩, by decide +kernel, by decide⟩, ⟨(zTb_in (zin_7 (List.mem_of_getElem? (i := 211) rfl)) rfl), (zTb_in (zin_7 (List.mem_of_getElem? (i := 212) rfl)) rfl)⟩, by decide⟩
set_option maxRecDepth 20000 in
theorem ml_L_137 : zLV RL 137 10 yX10_mend cX10_mend 4 (some .boolean) 2 := ⟨⟨(zTb_in (zin_5 (List.mem_of_getElem? (i := 79) rfl)) rfl), (zTb_in (zin_5 (List.mem_of_getElem? (i := 82) rfl)) rfl), (zTb_in (zin_1 (List.mem_of_getElem? (i := 1) rfl)) rfl), ⟨by decide, by decide⟩, by decide +kernel, by decide⟩, ⟨(zTb_in (zin_5 (List.mem_of_getElem? (i := 80) rfl)) rfl), (zTb_in (zin_5 (List.mem_of_getElem? (i := 81) rfl)) rfl)⟩, by decide⟩
set_option maxRecDepth 20000 in
theorem ml_L_141 : zLV RL 141 11 yX11_mend cX11_mend 3 (some .boolean) 2 := ⟨⟨(zTb_in (zin_7 (List.mem_of_getElem? (i := 219) rfl)) rfl), (zTb_in (zin_7 (List.mem_of_getElem? (i := 222) rfl)) rfl), (zTb_in (zin_1 (List.mem_of_getElem? (i := 10) rfl)) rfl), ⟨by decide, by decide⟩, by decide +kernel, by decide⟩, ⟨(zTb_in (zin_7 (List.mem_of_getElem? (i := 220) rfl)) rfl), (zTb_in (zin_7 (List.mem_of_getElem? (i := 221) rfl)) rfl)⟩, by decide⟩
set_option maxRecDepth 20000 in
theorem ml_L_142 : zLV RL 142 10 yX10_read cX10_read 4 (some .int) 2 := ⟨⟨(zTb_in (zin_5 (List.mem_of_getElem? (i := 84) rfl)) rfl), (zTb_in (zin_5 (List.mem_of_getElem? (i := 87) rfl)) rfl), (zTb_in (zin_1 (List.mem_of_getElem? (i := 1) rfl)) rfl), ⟨by decide, by decide⟩, by decide +kernel, by decide⟩, ⟨(zTb_in (zin_5 (List.mem_of_getElem? (i := 85) rfl)) rfl), (zTb_in (zin_5 (List.mem_of_getElem? (i := 86) rfl)) rfl)⟩, by decide⟩
set_option maxRecDepth 20000 in
theorem ml_L_145 : zLV RL 145 11 yX11_read cX11_read 7 (some .int) 2 := ⟨⟨(zTb_in (zin_7 (List.mem_of_getElem? (i := 227) rfl)) rfl), (zTb_in (zin_7 (List.mem_of_getElem? (i := 230) rfl)) rfl), (zTb_in (zin_1 (List.mem_of_getElem? (i := 10) rfl)) rfl), ⟨by decide, by decide⟩, by decide +kernel, by decide⟩, ⟨(zTb_in (zin_7 (List.mem_of_getElem? (i := 228) rfl)) rfl), (zTb_in (zin_7 (List.mem_of_getElem? (i := 229) rfl)) rfl)⟩, by decide⟩
set_option maxRecDepth 20000 in
theorem ml_L_146 : zLV RL 146 10 yX10_erratum cX10_erratum 6 (some .int) 4 := ⟨⟨(zTb_in (zin_5 (List.mem_of_getElem? (i := 97) rfl)) rfl), (zTb_in (zin_5 (List.mem_of_getElem? (i := 100) rfl)) rfl), (zTb_in (zin_1 (List.mem_of_getElem? (i := 1) rfl)) rfl), ⟨by decide, by decide⟩, by decide +kernel, by decide⟩, ⟨(zTb_in (zin_5 (List.mem_of_getElem? (i := 98) rfl)) rfl), (zTb_in (zin_5 (List.mem_of_getElem? (i := 99) rfl)) rfl)⟩, by decide⟩
set_option maxRecDepth 20000 in
theorem ml_L_149 : zLV RL 149 11 yX11_erratum cX11_erratum 5 (some .int) 4 := ⟨⟨(zTb_in (zin_7 (List.mem_of_getElem? (i := 234) rfl)) rfl), (zTb_in (zin_7 (List.mem_of_getElem? (i := 237) rfl)) rfl), (zTb_in (zin_1 (List.mem_of_getElem? (i := 10) rfl)) rfl), ⟨by decide, by decide⟩, by decide +kernel, by decide⟩, ⟨(zTb_in (zin_7 (List.mem_of_getElem? (i := 235) rfl)) rfl), (zTb_in (zin_7 (List.mem_of_getElem? (i := 236) rfl)) rfl)⟩, by decide⟩
set_option maxRecDepth 20000 in
theorem ml_L_150 : zLV RL 150 10 yX10_misses cX10_misses 6 (some .int) 1 := ⟨⟨(zTb_in (zin_5 (List.mem_of_getElem? (i := 110) rfl)) rfl), (zTb_in (zin_5 (List.mem_of_getElem? (i := 113) rfl)) rfl), (zTb_in (zin_1 (List.mem_of_getElem? (i := 1) rfl)) rfl), ⟨by decide, by decide⟩, by decide +kernel, by decide⟩, ⟨(zTb_in (zin_5 (List.mem_of_getElem? (i := 111) rfl)) rfl), (zTb_in (zin_5 (List.mem_of_getElem? (i := 112) rfl)) rfl)⟩, by decide⟩
set_option maxRecDepth 20000 in
theorem ml_L_153 : zLV RL 153 11 yX11_misses cX11_misses 2 (some .int) 1 := ⟨⟨(zTb_in (zin_7 (List.mem_of_getElem? (i := 238) rfl)) rfl), (zTb_in (zin_8 (List.mem_of_getElem? (i := 1) rfl)) rfl), (zTb_in (zin_1 (List.mem_of_getElem? (i := 10) rfl)) rfl), ⟨by decide, by decide⟩, by decide +kernel, by decide⟩, ⟨(zTb_in (zin_7 (List.mem_of_getElem? (i := 239) rfl)) rfl), (zTb_in (zin_8 (List.mem_of_getElem? (i := 0) rfl)) rfl)⟩, by decide⟩
set_option maxRecDepth 20000 in
theorem ml_L_154 : zLV RL 154 10 yX10_known cX10_known 5 (some .int) 3 := ⟨⟨(zTb_in (zin_5 (List.mem_of_getElem? (i := 122) rfl)) rfl), (zTb_in (zin_5 (List.mem_of_getElem? (i := 125) rfl)) rfl), (zTb_in (zin_1 (List.mem_of_getElem? (i := 1) rfl)) rfl), ⟨by decide, by decide⟩, by decide +kernel, by decide⟩, ⟨(zTb_in (zin_5 (List.mem_of_getElem? (i := 123) rfl)) rfl), (zTb_in (zin_5 (List.mem_of_getElem? (i := 124) rfl)) rfl)⟩, by decide⟩
set_option maxRecDepth 20000 in
theorem ml_L_157 : zLV RL 157 11 yX11_known cX11_known 4 (some .int) 3 := ⟨⟨(zTb_in (zin_8 (List.mem_of_getElem? (i := 6) rfl)) rfl), (zTb_in (zin_8 (List.mem_of_getElem? (i := 9) rfl)) rfl), (zTb_in (zin_1 (List.mem_of_getElem? (i := 10) rfl)) rfl), ⟨by decide, by decide⟩, by decide +kernel, by decide⟩, ⟨(zTb_in (zin_8 (List.mem_of_getElem? (i := 7) rfl)) rfl), (zTb_in (zin_8 (List.mem_of_getElem? (i := 8) rfl)) rfl)⟩, by decide⟩
set_option maxRecDepth 20000 in
theorem ml_L_158 : zLV RL 158 10 yX10_rival cX10_rival 5 (some .boolean) 3 := ⟨⟨(zTb_in (zin_5 (List.mem_of_getElem? (i := 126) rfl)) rfl), (zTb_in (zin_5 (List.mem_of_getElem? (i := 129) rfl)) rfl), (zTb_in (zin_1 (List.mem_of_getElem? (i := 1) rfl)) rfl), ⟨by decide, by decide⟩, by decide +kernel, by decide⟩, ⟨(zTb_in (zin_5 (List.mem_of_getElem? (i := 127) rfl)) rfl), (zTb_in (zin_5 (List.mem_of_getElem? (i := 128) rfl)) rfl)⟩, by decide⟩
set_option maxRecDepth 20000 in
theorem ml_L_161 : zLV RL 161 11 yX11_rival cX11_rival 4 (some .boolean) 3 := ⟨⟨(zTb_in (zin_8 (List.mem_of_getElem? (i := 11) rfl)) rfl), (zTb_in (zin_8 (List.mem_of_getElem? (i := 14) rfl)) rfl), (zTb_in (zin_1 (List.mem_of_getElem? (i := 10) rfl)) rfl), ⟨by decide, by decide⟩, by decide +kernel, by decide⟩, ⟨(zTb_in (zin_8 (List.mem_of_getElem? (i := 12) rfl)) rfl), (zTb_in (zin_8 (List.mem_of_getElem? (i := 13) rfl)) rfl)⟩, by decide⟩
set_option maxRecDepth 20000 in
theorem ml_L_162 : zLV RL 162 10 yX10_shared cX10_shared 3 (some .int) 1 := ⟨⟨(zTb_in (zin_5 (List.mem_of_getElem? (i := 131) rfl)) rfl), (zTb_in (zin_5 (List.mem_of_getElem? (i := 134) rfl)) rfl), (zTb_in (zin_1 (List.mem_of_getElem? (i := 1) rfl)) rfl), ⟨by decide, by decide⟩, by decide +kernel, by decide⟩, ⟨(zTb_in (zin_5 (List.mem_of_getElem? (i := 132) rfl)) rfl), (zTb_in (zin_5 (List.mem_of_getElem? (i := 133) rfl)) rfl)⟩, by decide⟩
set_option maxRecDepth 20000 in
theorem ml_L_165 : zLV RL 165 11 yX11_shared cX11_shared 4 (some .int) 1 := ⟨⟨(zTb_in (zin_8 (List.mem_of_getElem? (i := 15) rfl)) rfl), (zTb_in (zin_8 (List.mem_of_getElem? (i := 18) rfl)) rfl), (zTb_in (zin_1 (List.mem_of_getElem? (i := 10) rfl)) rfl), ⟨by decide, by decide⟩, by decide +kernel, by decide⟩, ⟨(zTb_in (zin_8 (List.mem_of_getElem? (i := 16) rfl)) rfl), (zTb_in (zin_8 (List.mem_of_getElem? (i := 17) rfl)) rfl)⟩, by decide⟩
set_option maxRecDepth 20000 in
theorem ml_L_166 : zLV RL 166 10 yX10_copied cX10_copied 3 (some .int) 1 := ⟨⟨(zTb_in (zin_5 (List.mem_of_getElem? (i := 143) rfl)) rfl), (zTb_in (zin_5 (List.mem_of_getElem? (i := 146) rfl)) rfl), (zTb_in (zin_1 (List.mem_of_getElem? (i := 1) rfl)) rfl), ⟨by decide, by decide⟩, by decide +kernel, by decide⟩, ⟨(zTb_in (zin_5 (List.mem_of_getElem? (i := 144) rfl)) rfl), (zTb_in (zin_5 (List.mem_of_getElem? (i := 145) rfl)) rfl)⟩, by decide⟩
set_option maxRecDepth 20000 in
theorem ml_L_169 : zLV RL 169 11 yX11_copied cX11_copied 8 (some .int) 1 := ⟨⟨(zTb_in (zin_8 (List.mem_of_getElem? (i := 23) rfl)) rfl), (zTb_in (zin_8 (List.mem_of_getElem? (i := 26) rfl)) rfl), (zTb_in (zin_1 (List.mem_of_getElem? (i := 10) rfl)) rfl), ⟨by decide, by decide⟩, by decide +kernel, by decide⟩, ⟨(zTb_in (zin_8 (List.mem_of_getElem? (i := 24) rfl)) rfl), (zTb_in (zin_8 (List.mem_of_getElem? (i := 25) rfl)) rfl)⟩, by decide⟩
set_option maxRecDepth 20000 in
theorem ml_L_170 : zLV RL 170 10 yX10_lead cX10_lead 5 (some .int) 3 := ⟨⟨(zTb_in (zin_5 (List.mem_of_getElem? (i := 156) rfl)) rfl), (zTb_in (zin_5 (List.mem_of_getElem? (i := 159) rfl)) rfl), (zTb_in (zin_1 (List.mem_of_getElem? (i := 1) rfl)) rfl), ⟨by decide, by decide⟩, by decide +kernel, by decide⟩, ⟨(zTb_in (zin_5 (List.mem_of_getElem? (i := 157) rfl)) rfl), (zTb_in (zin_5 (List.mem_of_getElem? (i := 158) rfl)) rfl)⟩, by decide⟩
set_option maxRecDepth 20000 in
theorem ml_L_173 : zLV RL 173 11 yX11_lead cX11_lead 7 (some .int) 3 := ⟨⟨(zTb_in (zin_8 (List.mem_of_getElem? (i := 31) rfl)) rfl), (zTb_in (zin_8 (List.mem_of_getElem? (i := 34) rfl)) rfl), (zTb_in (zin_1 (List.mem_of_getElem? (i := 10) rfl)) rfl), ⟨by decide, by decide⟩, by decide +kernel, by decide⟩, ⟨(zTb_in (zin_8 (List.mem_of_getElem? (i := 32) rfl)) rfl), (zTb_in (zin_8 (List.mem_of_getElem? (i := 33) rfl)) rfl)⟩, by decide⟩
set_option maxRecDepth 20000 in
theorem ml_L_174 : zLV RL 174 10 yX10_count cX10_count 2 (some .int) 1 := ⟨⟨(zTb_in (zin_5 (List.mem_of_getElem? (i := 164) rfl)) rfl), (zTb_in (zin_5 (List.mem_of_getElem? (i := 167) rfl)) rfl), (zTb_in (zin_1 (List.mem_of_getElem? (i := 1) rfl)) rfl), ⟨by decide, by decide⟩, by decide +kernel, by decide⟩, ⟨(zTb_in (zin_5 (List.mem_of_getElem? (i := 165) rfl)) rfl), (zTb_in (zin_5 (List.mem_of_getElem? (i := 166) rfl)) rfl)⟩, by decide⟩
set_option maxRecDepth 20000 in
theorem ml_L_177 : zLV RL 177 11 yX11_count cX11_count 5 (some .int) 1 := ⟨⟨(zTb_in (zin_8 (List.mem_of_getElem? (i := 35) rfl)) rfl), (zTb_in (zin_8 (List.mem_of_getElem? (i := 38) rfl)) rfl), (zTb_in (zin_1 (List.mem_of_getElem? (i := 10) rfl)) rfl), ⟨by decide, by decide⟩, by decide +kernel, by decide⟩, ⟨(zTb_in (zin_8 (List.mem_of_getElem? (i := 36) rfl)) rfl), (zTb_in (zin_8 (List.mem_of_getElem? (i := 37) rfl)) rfl)⟩, by decide⟩
set_option maxRecDepth 20000 in
theorem ml_X11_1 : Cond.methodLink RX11 1 objectInit ∈ zTb := (zTb_in (zin_5 (List.mem_of_getElem? (i := 181) rfl)) rfl)
set_option maxRecDepth 20000 in
theorem ml_X11_143 : zLS RX11 143 yX11_in cX11_in 6 (some .boolean) 3 := ⟨⟨(zTb_in (zin_6 (List.mem_of_getElem? (i := 144) rfl)) rfl), (zTb_in (zin_6 (List.mem_of_getElem? (i := 146) rfl)) rfl), (zTb_in (zin_1 (List.mem_of_getElem? (i := 10) rfl)) rfl), ⟨by decide, by decide⟩, by decide +kernel, by decide⟩, (zTb_in (zin_6 (List.mem_of_getElem? (i := 145) rfl)) rfl)⟩
set_option maxRecDepth 20000 in
theorem ml_X11_171 : zLS RX11 171 yX11_isLetter cX11_isLetter 1 (some .boolean) 1 := ⟨⟨(zTb_in (zin_6 (List.mem_of_getElem? (i := 159) rfl)) rfl), (zTb_in (zin_6 (List.mem_of_getElem? (i := 161) rfl)) rfl), (zTb_in (zin_1 (List.mem_of_getElem? (i := 10) rfl)) rfl), ⟨by decide, by decide⟩, by decide +kernel, by decide⟩, (zTb_in (zin_6 (List.mem_of_getElem? (i := 160) rfl)) rfl)⟩
set_option maxRecDepth 20000 in
theorem ml_X11_175 : zLV RX11 175 11 yX11_wordAt cX11_wordAt 8 (some .int) 2 := ⟨⟨(zTb_in (zin_6 (List.mem_of_getElem? (i := 162) rfl)) rfl), (zTb_in (zin_6 (List.mem_of_getElem? (i := 165) rfl)) rfl), (zTb_in (zin_1 (List.mem_of_getElem? (i := 10) rfl)) rfl), ⟨by decide, by decide⟩, by decide +kernel, by decide⟩, ⟨(zTb_in (zin_6 (List.mem_of_getElem? (i := 164) rfl)) rfl), (zTb_in (zin_0 (List.mem_of_getElem? (i := 49) rfl)) rfl)⟩, by decide⟩
set_option maxRecDepth 20000 in
theorem ml_X11_179 : zLS RX11 179 yX11_isDigit cX11_isDigit 1 (some .boolean) 1 := ⟨⟨(zTb_in (zin_6 (List.mem_of_getElem? (i := 169) rfl)) rfl), (zTb_in (zin_6 (List.mem_of_getElem? (i := 171) rfl)) rfl), (zTb_in (zin_1 (List.mem_of_getElem? (i := 10) rfl)) rfl), ⟨by decide, by decide⟩, by decide +kernel, by decide⟩, (zTb_in (zin_6 (List.mem_of_getElem? (i := 170) rfl)) rfl)⟩
set_option maxRecDepth 20000 in
theorem ml_X11_189 : zLV RX11 189 11 yX11_next cX11_next 2 none 0 := ⟨⟨(zTb_in (zin_6 (List.mem_of_getElem? (i := 155) rfl)) rfl), (zTb_in (zin_6 (List.mem_of_getElem? (i := 158) rfl)) rfl), (zTb_in (zin_1 (List.mem_of_getElem? (i := 10) rfl)) rfl), ⟨by decide, by decide⟩, by decide +kernel, by decide⟩, ⟨(zTb_in (zin_6 (List.mem_of_getElem? (i := 157) rfl)) rfl), (zTb_in (zin_0 (List.mem_of_getElem? (i := 48) rfl)) rfl)⟩, by decide⟩
set_option maxRecDepth 20000 in
theorem ml_X11_195 : zLV RX11 195 11 yX11_push cX11_push 2 none 1 := ⟨⟨(zTb_in (zin_6 (List.mem_of_getElem? (i := 173) rfl)) rfl), (zTb_in (zin_6 (List.mem_of_getElem? (i := 176) rfl)) rfl), (zTb_in (zin_1 (List.mem_of_getElem? (i := 10) rfl)) rfl), ⟨by decide, by decide⟩, by decide +kernel, by decide⟩, ⟨(zTb_in (zin_6 (List.mem_of_getElem? (i := 175) rfl)) rfl), (zTb_in (zin_0 (List.mem_of_getElem? (i := 50) rfl)) rfl)⟩, by decide⟩
set_option maxRecDepth 20000 in
theorem ml_X11_199 : zLV RX11 199 11 yX11_emits cX11_emits 3 none 2 := ⟨⟨(zTb_in (zin_6 (List.mem_of_getElem? (i := 181) rfl)) rfl), (zTb_in (zin_6 (List.mem_of_getElem? (i := 184) rfl)) rfl), (zTb_in (zin_1 (List.mem_of_getElem? (i := 10) rfl)) rfl), ⟨by decide, by decide⟩, by decide +kernel, by decide⟩, ⟨(zTb_in (zin_6 (List.mem_of_getElem? (i := 183) rfl)) rfl), (zTb_in (zin_0 (List.mem_of_getElem? (i := 52) rfl)) rfl)⟩, by decide⟩
set_option maxRecDepth 20000 in
theorem ml_X11_203 : zLV RX11 203 11 yX11_isWord cX11_isWord 2 (some .boolean) 1 := ⟨⟨(zTb_in (zin_6 (List.mem_of_getElem? (i := 185) rfl)) rfl), (zTb_in (zin_6 (List.mem_of_getElem? (i := 188) rfl)) rfl), (zTb_in (zin_1 (List.mem_of_getElem? (i := 10) rfl)) rfl), ⟨by decide, by decide⟩, by decide +kernel, by decide⟩, ⟨(zTb_in (zin_6 (List.mem_of_getElem? (i := 187) rfl)) rfl), (zTb_in (zin_0 (List.mem_of_getElem? (i := 53) rfl)) rfl)⟩, by decide⟩
set_option maxRecDepth 20000 in
theorem ml_X11_206 : zLV RX11 206 11 yX11_takes cX11_takes 1 (some .boolean) 0 := ⟨⟨(zTb_in (zin_6 (List.mem_of_getElem? (i := 189) rfl)) rfl), (zTb_in (zin_6 (List.mem_of_getElem? (i := 192) rfl)) rfl), (zTb_in (zin_1 (List.mem_of_getElem? (i := 10) rfl)) rfl), ⟨by decide, by decide⟩, by decide +kernel, by decide⟩, ⟨(zTb_in (zin_6 (List.mem_of_getElem? (i := 191) rfl)) rfl), (zTb_in (zin_0 (List.mem_of_getElem? (i := 54) rfl)) rfl)⟩, by decide⟩
set_option maxRecDepth 20000 in
theorem ml_X11_210 : zLV RX11 210 11 yX11_isSign cX11_isSign 2 (some .boolean) 1 := ⟨⟨(zTb_in (zin_6 (List.mem_of_getElem? (i := 193) rfl)) rfl), (zTb_in (zin_6 (List.mem_of_getElem? (i := 196) rfl)) rfl), (zTb_in (zin_1 (List.mem_of_getElem? (i := 10) rfl)) rfl), ⟨by decide, by decide⟩, by decide +kernel, by decide⟩, ⟨(zTb_in (zin_6 (List.mem_of_getElem? (i := 195) rfl)) rfl), (zTb_in (zin_0 (List.mem_of_getElem? (i := 55) rfl)) rfl)⟩, by decide⟩
set_option maxRecDepth 20000 in
theorem ml_X11_213 : zLV RX11 213 11 yX11_both cX11_both 3 (some .boolean) 2 := ⟨⟨(zTb_in (zin_6 (List.mem_of_getElem? (i := 197) rfl)) rfl), (zTb_in (zin_6 (List.mem_of_getElem? (i := 200) rfl)) rfl), (zTb_in (zin_1 (List.mem_of_getElem? (i := 10) rfl)) rfl), ⟨by decide, by decide⟩, by decide +kernel, by decide⟩, ⟨(zTb_in (zin_6 (List.mem_of_getElem? (i := 199) rfl)) rfl), (zTb_in (zin_0 (List.mem_of_getElem? (i := 56) rfl)) rfl)⟩, by decide⟩
set_option maxRecDepth 20000 in
theorem ml_X11_217 : zLV RX11 217 11 yX11_more cX11_more 8 (some .boolean) 6 := ⟨⟨(zTb_in (zin_6 (List.mem_of_getElem? (i := 201) rfl)) rfl), (zTb_in (zin_6 (List.mem_of_getElem? (i := 204) rfl)) rfl), (zTb_in (zin_1 (List.mem_of_getElem? (i := 10) rfl)) rfl), ⟨by decide, by decide⟩, by decide +kernel, by decide⟩, ⟨(zTb_in (zin_6 (List.mem_of_getElem? (i := 203) rfl)) rfl), (zTb_in (zin_0 (List.mem_of_getElem? (i := 57) rfl)) rfl)⟩, by decide⟩
set_option maxRecDepth 20000 in
theorem ml_X11_221 : zLV RX11 221 11 yX11_factor cX11_factor 2 (some .boolean) 0 := ⟨⟨(zTb_in (zin_6 (List.mem_of_getElem? (i := 205) rfl)) rfl), (zTb_in (zin_6 (List.mem_of_getElem? (i := 208) rfl)) rfl), (zTb_in (zin_1 (List.mem_of_getElem? (i := 10) rfl)) rfl), ⟨by decide, by decide⟩, by decide +kernel, by decide⟩, ⟨(zTb_in (zin_6 (List.mem_of_getElem? (i := 207) rfl)) rfl), (zTb_in (zin_0 (List.mem_of_getElem? (i := 58) rfl)) rfl)⟩, by decide⟩
set_option maxRecDepth 20000 in
theorem ml_X11_224 : zLV RX11 224 11 yX11_compares cX11_compares 1 (some .boolean) 0 := ⟨⟨(zTb_in (zin_6 (List.mem_of_getElem? (i := 215) rfl)) rfl), (zTb_in (zin_6 (List.mem_of_getElem? (i := 218) rfl)) rfl), (zTb_in (zin_1 (List.mem_of_getElem? (i := 10) rfl)) rfl), ⟨by decide, by decide⟩, by decide +kernel, by decide⟩, ⟨(zTb_in (zin_6 (List.mem_of_getElem? (i := 217) rfl)) rfl), (zTb_in (zin_0 (List.mem_of_getElem? (i := 60) rfl)) rfl)⟩, by decide⟩
set_option maxRecDepth 20000 in
theorem ml_X11_230 : zLV RX11 230 11 yX11_deeper cX11_deeper 1 (some .boolean) 0 := ⟨⟨(zTb_in (zin_6 (List.mem_of_getElem? (i := 211) rfl)) rfl), (zTb_in (zin_6 (List.mem_of_getElem? (i := 214) rfl)) rfl), (zTb_in (zin_1 (List.mem_of_getElem? (i := 10) rfl)) rfl), ⟨by decide, by decide⟩, by decide +kernel, by decide⟩, ⟨(zTb_in (zin_6 (List.mem_of_getElem? (i := 213) rfl)) rfl), (zTb_in (zin_0 (List.mem_of_getElem? (i := 59) rfl)) rfl)⟩, by decide⟩
set_option maxRecDepth 20000 in
theorem ml_X11_233 : zLV RX11 233 11 yX11_steps cX11_steps 2 (some .boolean) 1 := ⟨⟨(zTb_in (zin_6 (List.mem_of_getElem? (i := 177) rfl)) rfl), (zTb_in (zin_6 (List.mem_of_getElem? (i := 180) rfl)) rfl), (zTb_in (zin_1 (List.mem_of_getElem? (i := 10) rfl)) rfl), ⟨by decide, by decide⟩, by decide +kernel, by decide⟩, ⟨(zTb_in (zin_6 (List.mem_of_getElem? (i := 179) rfl)) rfl), (zTb_in (zin_0 (List.mem_of_getElem? (i := 51) rfl)) rfl)⟩, by decide⟩
set_option maxRecDepth 20000 in
theorem ml_X11_236 : zLV RX11 236 11 yX11_reads cX11_reads 1 (some .int) 0 := ⟨⟨(zTb_in (zin_6 (List.mem_of_getElem? (i := 151) rfl)) rfl), (zTb_in (zin_6 (List.mem_of_getElem? (i := 154) rfl)) rfl), (zTb_in (zin_1 (List.mem_of_getElem? (i := 10) rfl)) rfl), ⟨by decide, by decide⟩, by decide +kernel, by decide⟩, ⟨(zTb_in (zin_6 (List.mem_of_getElem? (i := 153) rfl)) rfl), (zTb_in (zin_0 (List.mem_of_getElem? (i := 47) rfl)) rfl)⟩, by decide⟩
set_option maxRecDepth 20000 in
theorem ml_X11_242 : zLS RX11 242 yX11_common cX11_common 10 (some .long) 2 := ⟨⟨(zTb_in (zin_6 (List.mem_of_getElem? (i := 233) rfl)) rfl), (zTb_in (zin_6 (List.mem_of_getElem? (i := 235) rfl)) rfl), (zTb_in (zin_1 (List.mem_of_getElem? (i := 10) rfl)) rfl), ⟨by decide, by decide⟩, by decide +kernel, by decide⟩, (zTb_in (zin_6 (List.mem_of_getElem? (i := 234) rfl)) rfl)⟩
set_option maxRecDepth 20000 in
theorem ml_X11_257 : zLV RX11 257 11 yX11_puts cX11_puts 12 none 3 := ⟨⟨(zTb_in (zin_6 (List.mem_of_getElem? (i := 229) rfl)) rfl), (zTb_in (zin_6 (List.mem_of_getElem? (i := 232) rfl)) rfl), (zTb_in (zin_1 (List.mem_of_getElem? (i := 10) rfl)) rfl), ⟨by decide, by decide⟩, by decide +kernel, by decide⟩, ⟨(zTb_in (zin_6 (List.mem_of_getElem? (i := 231) rfl)) rfl), (zTb_in (zin_0 (List.mem_of_getElem? (i := 61) rfl)) rfl)⟩, by decide⟩
set_option maxRecDepth 20000 in
theorem ml_X11_261 : zLS RX11 261 yX11_floor cX11_floor 4 (some .long) 2 := ⟨⟨(zTb_in (zin_7 (List.mem_of_getElem? (i := 10) rfl)) rfl), (zTb_in (zin_7 (List.mem_of_getElem? (i := 12) rfl)) rfl), (zTb_in (zin_1 (List.mem_of_getElem? (i := 10) rfl)) rfl), ⟨by decide, by decide⟩, by decide +kernel, by decide⟩, (zTb_in (zin_7 (List.mem_of_getElem? (i := 11) rfl)) rfl)⟩
set_option maxRecDepth 20000 in
theorem ml_X11_266 : zLS RX11 266 yX11_rootOf cX11_rootOf 6 (some .long) 1 := ⟨⟨(zTb_in (zin_7 (List.mem_of_getElem? (i := 14) rfl)) rfl), (zTb_in (zin_7 (List.mem_of_getElem? (i := 16) rfl)) rfl), (zTb_in (zin_1 (List.mem_of_getElem? (i := 10) rfl)) rfl), ⟨by decide, by decide⟩, by decide +kernel, by decide⟩, (zTb_in (zin_7 (List.mem_of_getElem? (i := 15) rfl)) rfl)⟩
set_option maxRecDepth 20000 in
theorem ml_X11_272 : zLV RX11 272 11 yX11_chooses cX11_chooses 8 none 1 := ⟨⟨(zTb_in (zin_7 (List.mem_of_getElem? (i := 2) rfl)) rfl), (zTb_in (zin_7 (List.mem_of_getElem? (i := 5) rfl)) rfl), (zTb_in (zin_1 (List.mem_of_getElem? (i := 10) rfl)) rfl), ⟨by decide, by decide⟩, by decide +kernel, by decide⟩, ⟨(zTb_in (zin_7 (List.mem_of_getElem? (i := 4) rfl)) rfl), (zTb_in (zin_0 (List.mem_of_getElem? (i := 63) rfl)) rfl)⟩, by decide⟩
set_option maxRecDepth 20000 in
theorem ml_X11_275 : zLV RX11 275 11 yX11_one cX11_one 3 none 1 := ⟨⟨(zTb_in (zin_7 (List.mem_of_getElem? (i := 6) rfl)) rfl), (zTb_in (zin_7 (List.mem_of_getElem? (i := 9) rfl)) rfl), (zTb_in (zin_1 (List.mem_of_getElem? (i := 10) rfl)) rfl), ⟨by decide, by decide⟩, by decide +kernel, by decide⟩, ⟨(zTb_in (zin_7 (List.mem_of_getElem? (i := 8) rfl)) rfl), (zTb_in (zin_0 (List.mem_of_getElem? (i := 64) rfl)) rfl)⟩, by decide⟩
set_option maxRecDepth 20000 in
theorem ml_X11_278 : zLV RX11 278 11 yX11_two cX11_two 13 none 1 := ⟨⟨(zTb_in (zin_7 (List.mem_of_getElem? (i := 20) rfl)) rfl), (zTb_in (zin_7 (List.mem_of_getElem? (i := 23) rfl)) rfl), (zTb_in (zin_1 (List.mem_of_getElem? (i := 10) rfl)) rfl), ⟨by decide, by decide⟩, by decide +kernel, by decide⟩, ⟨(zTb_in (zin_7 (List.mem_of_getElem? (i := 22) rfl)) rfl), (zTb_in (zin_0 (List.mem_of_getElem? (i := 65) rfl)) rfl)⟩, by decide⟩
set_option maxRecDepth 20000 in
theorem ml_X11_284 : zLV RX11 284 11 yX11_works cX11_works 8 none 3 := ⟨⟨(zTb_in (zin_6 (List.mem_of_getElem? (i := 238) rfl)) rfl), (zTb_in (zin_7 (List.mem_of_getElem? (i := 1) rfl)) rfl), (zTb_in (zin_1 (List.mem_of_getElem? (i := 10) rfl)) rfl), ⟨by decide, by decide⟩, by decide +kernel, by decide⟩, ⟨(zTb_in (zin_7 (List.mem_of_getElem? (i := 0) rfl)) rfl), (zTb_in (zin_0 (List.mem_of_getElem? (i := 62) rfl)) rfl)⟩, by decide⟩
set_option maxRecDepth 20000 in
theorem ml_X11_303 : zLS RX11 303 yX11_nearest cX11_nearest 6 (some .long) 2 := ⟨⟨(zTb_in (zin_7 (List.mem_of_getElem? (i := 37) rfl)) rfl), (zTb_in (zin_7 (List.mem_of_getElem? (i := 39) rfl)) rfl), (zTb_in (zin_1 (List.mem_of_getElem? (i := 10) rfl)) rfl), ⟨by decide, by decide⟩, by decide +kernel, by decide⟩, (zTb_in (zin_7 (List.mem_of_getElem? (i := 38) rfl)) rfl)⟩
set_option maxRecDepth 20000 in
theorem ml_X11_310 : zLV RX11 310 11 yX11_isTable cX11_isTable 2 (some .boolean) 1 := ⟨⟨(zTb_in (zin_7 (List.mem_of_getElem? (i := 50) rfl)) rfl), (zTb_in (zin_7 (List.mem_of_getElem? (i := 53) rfl)) rfl), (zTb_in (zin_1 (List.mem_of_getElem? (i := 10) rfl)) rfl), ⟨by decide, by decide⟩, by decide +kernel, by decide⟩, ⟨(zTb_in (zin_7 (List.mem_of_getElem? (i := 52) rfl)) rfl), (zTb_in (zin_0 (List.mem_of_getElem? (i := 67) rfl)) rfl)⟩, by decide⟩
set_option maxRecDepth 20000 in
theorem ml_X11_313 : zLV RX11 313 11 yX11_isEntry cX11_isEntry 3 (some .boolean) 2 := ⟨⟨(zTb_in (zin_7 (List.mem_of_getElem? (i := 46) rfl)) rfl), (zTb_in (zin_7 (List.mem_of_getElem? (i := 49) rfl)) rfl), (zTb_in (zin_1 (List.mem_of_getElem? (i := 10) rfl)) rfl), ⟨by decide, by decide⟩, by decide +kernel, by decide⟩, ⟨(zTb_in (zin_7 (List.mem_of_getElem? (i := 48) rfl)) rfl), (zTb_in (zin_0 (List.mem_of_getElem? (i := 66) rfl)) rfl)⟩, by decide⟩
set_option maxRecDepth 20000 in
theorem ml_X11_316 : zLS RX11 316 yX11_place cX11_place 2 (some .int) 2 := ⟨⟨(zTb_in (zin_7 (List.mem_of_getElem? (i := 54) rfl)) rfl), (zTb_in (zin_7 (List.mem_of_getElem? (i := 56) rfl)) rfl), (zTb_in (zin_1 (List.mem_of_getElem? (i := 10) rfl)) rfl), ⟨by decide, by decide⟩, by decide +kernel, by decide⟩, (zTb_in (zin_7 (List.mem_of_getElem? (i := 55) rfl)) rfl)⟩
set_option maxRecDepth 20000 in
theorem ml_X11_322 : zLV RX11 322 11 yX11_isHand cX11_isHand 2 (some .boolean) 1 := ⟨⟨(zTb_in (zin_7 (List.mem_of_getElem? (i := 65) rfl)) rfl), (zTb_in (zin_7 (List.mem_of_getElem? (i := 68) rfl)) rfl), (zTb_in (zin_1 (List.mem_of_getElem? (i := 10) rfl)) rfl), ⟨by decide, by decide⟩, by decide +kernel, by decide⟩, ⟨(zTb_in (zin_7 (List.mem_of_getElem? (i := 67) rfl)) rfl), (zTb_in (zin_0 (List.mem_of_getElem? (i := 68) rfl)) rfl)⟩, by decide⟩
set_option maxRecDepth 20000 in
theorem ml_X11_328 : zLV RX11 328 11 yX11_writes cX11_writes 8 (some .int) 3 := ⟨⟨(zTb_in (zin_7 (List.mem_of_getElem? (i := 73) rfl)) rfl), (zTb_in (zin_7 (List.mem_of_getElem? (i := 76) rfl)) rfl), (zTb_in (zin_1 (List.mem_of_getElem? (i := 10) rfl)) rfl), ⟨by decide, by decide⟩, by decide +kernel, by decide⟩, ⟨(zTb_in (zin_7 (List.mem_of_getElem? (i := 75) rfl)) rfl), (zTb_in (zin_0 (List.mem_of_getElem? (i := 69) rfl)) rfl)⟩, by decide⟩
set_option maxRecDepth 20000 in
theorem ml_X11_332 : zLV RX11 332 11 yX11_isAgreed cX11_isAgreed 2 (some .boolean) 1 := ⟨⟨(zTb_in (zin_7 (List.mem_of_getElem? (i := 81) rfl)) rfl), (zTb_in (zin_7 (List.mem_of_getElem? (i := 84) rfl)) rfl), (zTb_in (zin_1 (List.mem_of_getElem? (i := 10) rfl)) rfl), ⟨by decide, by decide⟩, by decide +kernel, by decide⟩, ⟨(zTb_in (zin_7 (List.mem_of_getElem? (i := 83) rfl)) rfl), (zTb_in (zin_0 (List.mem_of_getElem? (i := 70) rfl)) rfl)⟩, by decide⟩
set_option maxRecDepth 20000 in
theorem ml_X11_335 : zLV RX11 335 11 yX11_pairs cX11_pairs 12 none 5 := ⟨⟨(zTb_in (zin_7 (List.mem_of_getElem? (i := 93) rfl)) rfl), (zTb_in (zin_7 (List.mem_of_getElem? (i := 96) rfl)) rfl), (zTb_in (zin_1 (List.mem_of_getElem? (i := 10) rfl)) rfl), ⟨by decide, by decide⟩, by decide +kernel, by decide⟩, ⟨(zTb_in (zin_7 (List.mem_of_getElem? (i := 95) rfl)) rfl), (zTb_in (zin_0 (List.mem_of_getElem? (i := 71) rfl)) rfl)⟩, by decide⟩
set_option maxRecDepth 20000 in
theorem ml_X11_339 : zLV RX11 339 11 yX11_canSet cX11_canSet 5 (some .boolean) 3 := ⟨⟨(zTb_in (zin_7 (List.mem_of_getElem? (i := 101) rfl)) rfl), (zTb_in (zin_7 (List.mem_of_getElem? (i := 104) rfl)) rfl), (zTb_in (zin_1 (List.mem_of_getElem? (i := 10) rfl)) rfl), ⟨by decide, by decide⟩, by decide +kernel, by decide⟩, ⟨(zTb_in (zin_7 (List.mem_of_getElem? (i := 103) rfl)) rfl), (zTb_in (zin_0 (List.mem_of_getElem? (i := 72) rfl)) rfl)⟩, by decide⟩
set_option maxRecDepth 20000 in
theorem ml_X11_343 : zLV RX11 343 11 yX11_difference cX11_difference 8 (some .long) 2 := ⟨⟨(zTb_in (zin_7 (List.mem_of_getElem? (i := 105) rfl)) rfl), (zTb_in (zin_7 (List.mem_of_getElem? (i := 108) rfl)) rfl), (zTb_in (zin_1 (List.mem_of_getElem? (i := 10) rfl)) rfl), ⟨by decide, by decide⟩, by decide +kernel, by decide⟩, ⟨(zTb_in (zin_7 (List.mem_of_getElem? (i := 107) rfl)) rfl), (zTb_in (zin_0 (List.mem_of_getElem? (i := 73) rfl)) rfl)⟩, by decide⟩
set_option maxRecDepth 20000 in
theorem ml_X11_358 : zLV RX11 358 11 yX11_isStuck cX11_isStuck 3 (some .boolean) 1 := ⟨⟨(zTb_in (zin_7 (List.mem_of_getElem? (i := 123) rfl)) rfl), (zTb_in (zin_7 (List.mem_of_getElem? (i := 126) rfl)) rfl), (zTb_in (zin_1 (List.mem_of_getElem? (i := 10) rfl)) rfl), ⟨by decide, by decide⟩, by decide +kernel, by decide⟩, ⟨(zTb_in (zin_7 (List.mem_of_getElem? (i := 125) rfl)) rfl), (zTb_in (zin_0 (List.mem_of_getElem? (i := 75) rfl)) rfl)⟩, by decide⟩
set_option maxRecDepth 20000 in
theorem ml_X11_365 : zLV RX11 365 11 yX11_turns cX11_turns 6 none 0 := ⟨⟨(zTb_in (zin_7 (List.mem_of_getElem? (i := 119) rfl)) rfl), (zTb_in (zin_7 (List.mem_of_getElem? (i := 122) rfl)) rfl), (zTb_in (zin_1 (List.mem_of_getElem? (i := 10) rfl)) rfl), ⟨by decide, by decide⟩, by decide +kernel, by decide⟩, ⟨(zTb_in (zin_7 (List.mem_of_getElem? (i := 121) rfl)) rfl), (zTb_in (zin_0 (List.mem_of_getElem? (i := 74) rfl)) rfl)⟩, by decide⟩
set_option maxRecDepth 20000 in
theorem ml_X11_368 : zLV RX11 368 11 yX11_number cX11_number 4 (some .int) 1 := ⟨⟨(zTb_in (zin_7 (List.mem_of_getElem? (i := 127) rfl)) rfl), (zTb_in (zin_7 (List.mem_of_getElem? (i := 130) rfl)) rfl), (zTb_in (zin_1 (List.mem_of_getElem? (i := 10) rfl)) rfl), ⟨by decide, by decide⟩, by decide +kernel, by decide⟩, ⟨(zTb_in (zin_7 (List.mem_of_getElem? (i := 129) rfl)) rfl), (zTb_in (zin_0 (List.mem_of_getElem? (i := 76) rfl)) rfl)⟩, by decide⟩
set_option maxRecDepth 20000 in
theorem ml_X11_372 : zLS RX11 372 yX11_shown cX11_shown 2 (some .int) 1 := ⟨⟨(zTb_in (zin_7 (List.mem_of_getElem? (i := 131) rfl)) rfl), (zTb_in (zin_7 (List.mem_of_getElem? (i := 133) rfl)) rfl), (zTb_in (zin_1 (List.mem_of_getElem? (i := 10) rfl)) rfl), ⟨by decide, by decide⟩, by decide +kernel, by decide⟩, (zTb_in (zin_7 (List.mem_of_getElem? (i := 132) rfl)) rfl)⟩
set_option maxRecDepth 20000 in
theorem ml_X11_380 : zLV RX11 380 11 yX11_runs cX11_runs 11 none 4 := ⟨⟨(zTb_in (zin_7 (List.mem_of_getElem? (i := 145) rfl)) rfl), (zTb_in (zin_7 (List.mem_of_getElem? (i := 148) rfl)) rfl), (zTb_in (zin_1 (List.mem_of_getElem? (i := 10) rfl)) rfl), ⟨by decide, by decide⟩, by decide +kernel, by decide⟩, ⟨(zTb_in (zin_7 (List.mem_of_getElem? (i := 147) rfl)) rfl), (zTb_in (zin_0 (List.mem_of_getElem? (i := 77) rfl)) rfl)⟩, by decide⟩
set_option maxRecDepth 20000 in
theorem ml_X11_403 : zLV RX11 403 11 yX11_tries cX11_tries 15 none 2 := ⟨⟨(zTb_in (zin_7 (List.mem_of_getElem? (i := 174) rfl)) rfl), (zTb_in (zin_7 (List.mem_of_getElem? (i := 177) rfl)) rfl), (zTb_in (zin_1 (List.mem_of_getElem? (i := 10) rfl)) rfl), ⟨by decide, by decide⟩, by decide +kernel, by decide⟩, ⟨(zTb_in (zin_7 (List.mem_of_getElem? (i := 176) rfl)) rfl), (zTb_in (zin_0 (List.mem_of_getElem? (i := 79) rfl)) rfl)⟩, by decide⟩
set_option maxRecDepth 20000 in
theorem ml_X11_406 : zLS RX11 406 yX11_bits cX11_bits 3 (some .int) 1 := ⟨⟨(zTb_in (zin_7 (List.mem_of_getElem? (i := 178) rfl)) rfl), (zTb_in (zin_7 (List.mem_of_getElem? (i := 180) rfl)) rfl), (zTb_in (zin_1 (List.mem_of_getElem? (i := 10) rfl)) rfl), ⟨by decide, by decide⟩, by decide +kernel, by decide⟩, (zTb_in (zin_7 (List.mem_of_getElem? (i := 179) rfl)) rfl)⟩
set_option maxRecDepth 20000 in
theorem ml_X11_409 : zLV RX11 409 11 yX11_curves cX11_curves 8 (some .boolean) 2 := ⟨⟨(zTb_in (zin_7 (List.mem_of_getElem? (i := 168) rfl)) rfl), (zTb_in (zin_7 (List.mem_of_getElem? (i := 171) rfl)) rfl), (zTb_in (zin_1 (List.mem_of_getElem? (i := 10) rfl)) rfl), ⟨by decide, by decide⟩, by decide +kernel, by decide⟩, ⟨(zTb_in (zin_7 (List.mem_of_getElem? (i := 170) rfl)) rfl), (zTb_in (zin_0 (List.mem_of_getElem? (i := 78) rfl)) rfl)⟩, by decide⟩
set_option maxRecDepth 20000 in
theorem ml_X11_412 : zLV RX11 412 11 yX11_isThere cX11_isThere 2 (some .boolean) 1 := ⟨⟨(zTb_in (zin_7 (List.mem_of_getElem? (i := 189) rfl)) rfl), (zTb_in (zin_7 (List.mem_of_getElem? (i := 192) rfl)) rfl), (zTb_in (zin_1 (List.mem_of_getElem? (i := 10) rfl)) rfl), ⟨by decide, by decide⟩, by decide +kernel, by decide⟩, ⟨(zTb_in (zin_7 (List.mem_of_getElem? (i := 191) rfl)) rfl), (zTb_in (zin_0 (List.mem_of_getElem? (i := 80) rfl)) rfl)⟩, by decide⟩
set_option maxRecDepth 20000 in
theorem ml_X11_415 : zLV RX11 415 11 yX11_fourth cX11_fourth 3 (some .int) 1 := ⟨⟨(zTb_in (zin_7 (List.mem_of_getElem? (i := 197) rfl)) rfl), (zTb_in (zin_7 (List.mem_of_getElem? (i := 200) rfl)) rfl), (zTb_in (zin_1 (List.mem_of_getElem? (i := 10) rfl)) rfl), ⟨by decide, by decide⟩, by decide +kernel, by decide⟩, ⟨(zTb_in (zin_7 (List.mem_of_getElem? (i := 199) rfl)) rfl), (zTb_in (zin_0 (List.mem_of_getElem? (i := 81) rfl)) rfl)⟩, by decide⟩
set_option maxRecDepth 20000 in
theorem ml_X11_420 : zLV RX11 420 11 yX11_isSetTable cX11_isSetTable 2 (some .boolean) 1 := ⟨⟨(zTb_in (zin_7 (List.mem_of_getElem? (i := 214) rfl)) rfl), (zTb_in (zin_7 (List.mem_of_getElem? (i := 217) rfl)) rfl), (zTb_in (zin_1 (List.mem_of_getElem? (i := 10) rfl)) rfl), ⟨by decide, by decide⟩, by decide +kernel, by decide⟩, ⟨(zTb_in (zin_7 (List.mem_of_getElem? (i := 216) rfl)) rfl), (zTb_in (zin_0 (List.mem_of_getElem? (i := 82) rfl)) rfl)⟩, by decide⟩
set_option maxRecDepth 20000 in
theorem ml_X11_424 : zLV RX11 424 11 yX11_isFigure cX11_isFigure 3 (some .boolean) 2 := ⟨⟨(zTb_in (zin_7 (List.mem_of_getElem? (i := 223) rfl)) rfl), (zTb_in (zin_7 (List.mem_of_getElem? (i := 226) rfl)) rfl), (zTb_in (zin_1 (List.mem_of_getElem? (i := 10) rfl)) rfl), ⟨by decide, by decide⟩, by decide +kernel, by decide⟩, ⟨(zTb_in (zin_7 (List.mem_of_getElem? (i := 225) rfl)) rfl), (zTb_in (zin_0 (List.mem_of_getElem? (i := 83) rfl)) rfl)⟩, by decide⟩
set_option maxRecDepth 20000 in
theorem ml_X11_427 : zLS RX11 427 yX11_readAs cX11_readAs 2 (some .int) 2 := ⟨⟨(zTb_in (zin_7 (List.mem_of_getElem? (i := 231) rfl)) rfl), (zTb_in (zin_7 (List.mem_of_getElem? (i := 233) rfl)) rfl), (zTb_in (zin_1 (List.mem_of_getElem? (i := 10) rfl)) rfl), ⟨by decide, by decide⟩, by decide +kernel, by decide⟩, (zTb_in (zin_7 (List.mem_of_getElem? (i := 232) rfl)) rfl)⟩
set_option maxRecDepth 20000 in
theorem ml_X11_436 : zLV RX11 436 11 yX11_stands cX11_stands 6 (some .int) 3 := ⟨⟨(zTb_in (zin_8 (List.mem_of_getElem? (i := 2) rfl)) rfl), (zTb_in (zin_8 (List.mem_of_getElem? (i := 5) rfl)) rfl), (zTb_in (zin_1 (List.mem_of_getElem? (i := 10) rfl)) rfl), ⟨by decide, by decide⟩, by decide +kernel, by decide⟩, ⟨(zTb_in (zin_8 (List.mem_of_getElem? (i := 4) rfl)) rfl), (zTb_in (zin_0 (List.mem_of_getElem? (i := 84) rfl)) rfl)⟩, by decide⟩
set_option maxRecDepth 20000 in
theorem ml_X11_441 : zLV RX11 441 11 yX11_isFalse cX11_isFalse 2 (some .boolean) 1 := ⟨⟨(zTb_in (zin_8 (List.mem_of_getElem? (i := 19) rfl)) rfl), (zTb_in (zin_8 (List.mem_of_getElem? (i := 22) rfl)) rfl), (zTb_in (zin_1 (List.mem_of_getElem? (i := 10) rfl)) rfl), ⟨by decide, by decide⟩, by decide +kernel, by decide⟩, ⟨(zTb_in (zin_8 (List.mem_of_getElem? (i := 21) rfl)) rfl), (zTb_in (zin_0 (List.mem_of_getElem? (i := 85) rfl)) rfl)⟩, by decide⟩
set_option maxRecDepth 20000 in
theorem ml_X11_444 : zLV RX11 444 11 yX11_shared cX11_shared 4 (some .int) 1 := ⟨⟨(zTb_in (zin_8 (List.mem_of_getElem? (i := 27) rfl)) rfl), (zTb_in (zin_8 (List.mem_of_getElem? (i := 18) rfl)) rfl), (zTb_in (zin_1 (List.mem_of_getElem? (i := 10) rfl)) rfl), ⟨by decide, by decide⟩, by decide +kernel, by decide⟩, ⟨(zTb_in (zin_8 (List.mem_of_getElem? (i := 16) rfl)) rfl), (zTb_in (zin_8 (List.mem_of_getElem? (i := 17) rfl)) rfl)⟩, by decide⟩
set_option maxRecDepth 20000 in
theorem ml_X11_447 : zLS RX11 447 yX11_ways cX11_ways 5 (some .long) 2 := ⟨⟨(zTb_in (zin_8 (List.mem_of_getElem? (i := 28) rfl)) rfl), (zTb_in (zin_8 (List.mem_of_getElem? (i := 30) rfl)) rfl), (zTb_in (zin_1 (List.mem_of_getElem? (i := 10) rfl)) rfl), ⟨by decide, by decide⟩, by decide +kernel, by decide⟩, (zTb_in (zin_8 (List.mem_of_getElem? (i := 29) rfl)) rfl)⟩
set_option maxRecDepth 20000 in
theorem ml_J0_495 : zLS RJ0 495 yJ1_charAt_3b067 cJ1_charAt_3b067 2 (some .char) 2 := ⟨⟨(zTb_in (zin_2 (List.mem_of_getElem? (i := 114) rfl)) rfl), (zTb_in (zin_2 (List.mem_of_getElem? (i := 116) rfl)) rfl), (zTb_in (zin_1 (List.mem_of_getElem? (i := 12) rfl)) rfl), ⟨by decide, by decide⟩, by decide +kernel, by decide⟩, (zTb_in (zin_2 (List.mem_of_getElem? (i := 115) rfl)) rfl)⟩
set_option maxRecDepth 20000 in
theorem ml_J0_637 : zLS RJ0 637 yJ1_indexOf_4cfef cJ1_indexOf_4cfef 4 (some .int) 4 := ⟨⟨(zTb_in (zin_2 (List.mem_of_getElem? (i := 173) rfl)) rfl), (zTb_in (zin_2 (List.mem_of_getElem? (i := 175) rfl)) rfl), (zTb_in (zin_1 (List.mem_of_getElem? (i := 12) rfl)) rfl), ⟨by decide, by decide⟩, by decide +kernel, by decide⟩, (zTb_in (zin_2 (List.mem_of_getElem? (i := 174) rfl)) rfl)⟩
set_option maxRecDepth 20000 in
theorem ml_J0_1059 : zLS RJ0 1059 yJ3_checkIndex_8e157 cJ3_checkIndex_8e157 3 (some .int) 3 := ⟨⟨(zTb_in (zin_2 (List.mem_of_getElem? (i := 122) rfl)) rfl), (zTb_in (zin_2 (List.mem_of_getElem? (i := 124) rfl)) rfl), (zTb_in (zin_1 (List.mem_of_getElem? (i := 13) rfl)) rfl), ⟨by decide, by decide⟩, by decide +kernel, by decide⟩, (zTb_in (zin_2 (List.mem_of_getElem? (i := 123) rfl)) rfl)⟩
set_option maxRecDepth 20000 in
theorem ml_J0_1062 : zLS RJ0 1062 yJ3_checkFromToIndex_8c36e cJ3_checkFromToIndex_8c36e 4 (some .int) 4 := ⟨⟨(zTb_in (zin_2 (List.mem_of_getElem? (i := 201) rfl)) rfl), (zTb_in (zin_2 (List.mem_of_getElem? (i := 203) rfl)) rfl), (zTb_in (zin_1 (List.mem_of_getElem? (i := 13) rfl)) rfl), ⟨by decide, by decide⟩, by decide +kernel, by decide⟩, (zTb_in (zin_2 (List.mem_of_getElem? (i := 202) rfl)) rfl)⟩
set_option maxRecDepth 20000 in
theorem ml_J1_9 : zLS RJ1 9 yJ0_checkIndex_df160 cJ0_checkIndex_df160 2 none 2 := ⟨⟨(zTb_in (zin_2 (List.mem_of_getElem? (i := 117) rfl)) rfl), (zTb_in (zin_2 (List.mem_of_getElem? (i := 119) rfl)) rfl), (zTb_in (zin_1 (List.mem_of_getElem? (i := 11) rfl)) rfl), ⟨by decide, by decide⟩, by decide +kernel, by decide⟩, (zTb_in (zin_2 (List.mem_of_getElem? (i := 118) rfl)) rfl)⟩
set_option maxRecDepth 20000 in
theorem ml_J1_38 : zLS RJ1 38 yJ9_min_7cf53 cJ9_min_7cf53 2 (some .int) 2 := ⟨⟨(zTb_in (zin_2 (List.mem_of_getElem? (i := 182) rfl)) rfl), (zTb_in (zin_2 (List.mem_of_getElem? (i := 161) rfl)) rfl), (zTb_in (zin_1 (List.mem_of_getElem? (i := 15) rfl)) rfl), ⟨by decide, by decide⟩, by decide +kernel, by decide⟩, (zTb_in (zin_2 (List.mem_of_getElem? (i := 160) rfl)) rfl)⟩
set_option maxRecDepth 20000 in
theorem ml_J1_88 : zLS RJ1 88 yJ1_canEncode_9a6ad cJ1_canEncode_9a6ad 1 (some .boolean) 1 := ⟨⟨(zTb_in (zin_2 (List.mem_of_getElem? (i := 176) rfl)) rfl), (zTb_in (zin_2 (List.mem_of_getElem? (i := 178) rfl)) rfl), (zTb_in (zin_1 (List.mem_of_getElem? (i := 12) rfl)) rfl), ⟨by decide, by decide⟩, by decide +kernel, by decide⟩, (zTb_in (zin_2 (List.mem_of_getElem? (i := 177) rfl)) rfl)⟩
set_option maxRecDepth 20000 in
theorem ml_J1_92 : zLS RJ1 92 yJ9_max_7cf53 cJ9_max_7cf53 2 (some .int) 2 := ⟨⟨(zTb_in (zin_2 (List.mem_of_getElem? (i := 179) rfl)) rfl), (zTb_in (zin_2 (List.mem_of_getElem? (i := 181) rfl)) rfl), (zTb_in (zin_1 (List.mem_of_getElem? (i := 15) rfl)) rfl), ⟨by decide, by decide⟩, by decide +kernel, by decide⟩, (zTb_in (zin_2 (List.mem_of_getElem? (i := 180) rfl)) rfl)⟩
set_option maxRecDepth 20000 in
theorem ml_J1_95 : zLS RJ1 95 yJ1_indexOfChar_4cfef cJ1_indexOfChar_4cfef 6 (some .int) 4 := ⟨⟨(zTb_in (zin_2 (List.mem_of_getElem? (i := 183) rfl)) rfl), (zTb_in (zin_2 (List.mem_of_getElem? (i := 185) rfl)) rfl), (zTb_in (zin_1 (List.mem_of_getElem? (i := 12) rfl)) rfl), ⟨by decide, by decide⟩, by decide +kernel, by decide⟩, (zTb_in (zin_2 (List.mem_of_getElem? (i := 184) rfl)) rfl)⟩
set_option maxRecDepth 20000 in
theorem ml_J2_157 : zLS RJ2 157 yJ11_highSurrogate_5068e cJ11_highSurrogate_5068e 1 (some .char) 1 := ⟨⟨(zTb_in (zin_2 (List.mem_of_getElem? (i := 213) rfl)) rfl), (zTb_in (zin_2 (List.mem_of_getElem? (i := 215) rfl)) rfl), (zTb_in (zin_1 (List.mem_of_getElem? (i := 16) rfl)) rfl), ⟨by decide, by decide⟩, by decide +kernel, by decide⟩, (zTb_in (zin_2 (List.mem_of_getElem? (i := 214) rfl)) rfl)⟩
set_option maxRecDepth 20000 in
theorem ml_J2_161 : zLS RJ2 161 yJ11_lowSurrogate_5068e cJ11_lowSurrogate_5068e 1 (some .char) 1 := ⟨⟨(zTb_in (zin_2 (List.mem_of_getElem? (i := 217) rfl)) rfl), (zTb_in (zin_2 (List.mem_of_getElem? (i := 219) rfl)) rfl), (zTb_in (zin_1 (List.mem_of_getElem? (i := 16) rfl)) rfl), ⟨by decide, by decide⟩, by decide +kernel, by decide⟩, (zTb_in (zin_2 (List.mem_of_getElem? (i := 218) rfl)) rfl)⟩
set_option maxRecDepth 20000 in
theorem ml_J2_164 : zLS RJ2 164 yJ11_isValidCodePoint_9a6ad cJ11_isValidCodePoint_9a6ad 2 (some .boolean) 1 := ⟨⟨(zTb_in (zin_2 (List.mem_of_getElem? (i := 210) rfl)) rfl), (zTb_in (zin_2 (List.mem_of_getElem? (i := 212) rfl)) rfl), (zTb_in (zin_1 (List.mem_of_getElem? (i := 16) rfl)) rfl), ⟨by decide, by decide⟩, by decide +kernel, by decide⟩, (zTb_in (zin_2 (List.mem_of_getElem? (i := 211) rfl)) rfl)⟩
set_option maxRecDepth 20000 in
theorem ml_J2_183 : zLS RJ2 183 yJ9_min_7cf53 cJ9_min_7cf53 2 (some .int) 2 := ⟨⟨(zTb_in (zin_2 (List.mem_of_getElem? (i := 190) rfl)) rfl), (zTb_in (zin_2 (List.mem_of_getElem? (i := 161) rfl)) rfl), (zTb_in (zin_1 (List.mem_of_getElem? (i := 15) rfl)) rfl), ⟨by decide, by decide⟩, by decide +kernel, by decide⟩, (zTb_in (zin_2 (List.mem_of_getElem? (i := 160) rfl)) rfl)⟩
set_option maxRecDepth 20000 in
theorem ml_J2_224 : zLS RJ2 224 yJ9_max_7cf53 cJ9_max_7cf53 2 (some .int) 2 := ⟨⟨(zTb_in (zin_2 (List.mem_of_getElem? (i := 189) rfl)) rfl), (zTb_in (zin_2 (List.mem_of_getElem? (i := 181) rfl)) rfl), (zTb_in (zin_1 (List.mem_of_getElem? (i := 15) rfl)) rfl), ⟨by decide, by decide⟩, by decide +kernel, by decide⟩, (zTb_in (zin_2 (List.mem_of_getElem? (i := 180) rfl)) rfl)⟩
set_option maxRecDepth 20000 in
theorem ml_J2_241 : zLS RJ2 241 yJ0_checkBoundsBeginEnd_23922 cJ0_checkBoundsBeginEnd_23922 3 none 3 := ⟨⟨(zTb_in (zin_2 (List.mem_of_getElem? (i := 198) rfl)) rfl), (zTb_in (zin_2 (List.mem_of_getElem? (i := 200) rfl)) rfl), (zTb_in (zin_1 (List.mem_of_getElem? (i := 11) rfl)) rfl), ⟨by decide, by decide⟩, by decide +kernel, by decide⟩, (zTb_in (zin_2 (List.mem_of_getElem? (i := 199) rfl)) rfl)⟩
set_option maxRecDepth 20000 in
theorem ml_J2_414 : zLS RJ2 414 yJ0_checkIndex_df160 cJ0_checkIndex_df160 2 none 2 := ⟨⟨(zTb_in (zin_2 (List.mem_of_getElem? (i := 134) rfl)) rfl), (zTb_in (zin_2 (List.mem_of_getElem? (i := 119) rfl)) rfl), (zTb_in (zin_1 (List.mem_of_getElem? (i := 11) rfl)) rfl), ⟨by decide, by decide⟩, by decide +kernel, by decide⟩, (zTb_in (zin_2 (List.mem_of_getElem? (i := 118) rfl)) rfl)⟩
set_option maxRecDepth 20000 in
theorem ml_J7_304 : zLS RJ7 304 yJ9_min_7cf53 cJ9_min_7cf53 2 (some .int) 2 := ⟨⟨(zTb_in (zin_3 (List.mem_of_getElem? (i := 41) rfl)) rfl), (zTb_in (zin_2 (List.mem_of_getElem? (i := 161) rfl)) rfl), (zTb_in (zin_1 (List.mem_of_getElem? (i := 15) rfl)) rfl), ⟨by decide, by decide⟩, by decide +kernel, by decide⟩, (zTb_in (zin_2 (List.mem_of_getElem? (i := 160) rfl)) rfl)⟩
set_option maxRecDepth 20000 in
theorem ml_X10_9 : zLIN RX10 9 yX9_init "TableHouse" cX9_init 1 0 := ⟨⟨(by decide), (zTb_in (zin_1 (List.mem_of_getElem? (i := 35) rfl)) rfl), (zTb_in (zin_1 (List.mem_of_getElem? (i := 2) rfl)) rfl), ⟨by decide, by decide⟩, by decide +kernel, by decide⟩, rfl, (zTb_in (zin_1 (List.mem_of_getElem? (i := 34) rfl)) rfl)⟩
set_option maxRecDepth 20000 in
theorem ml_X10_27 : zLIN RX10 27 yX0_init "TableHouse" cX0_init 1 0 := ⟨⟨(by decide), (zTb_in (zin_1 (List.mem_of_getElem? (i := 80) rfl)) rfl), (zTb_in (zin_1 (List.mem_of_getElem? (i := 4) rfl)) rfl), ⟨by decide, by decide⟩, by decide +kernel, by decide⟩, rfl, (zTb_in (zin_1 (List.mem_of_getElem? (i := 79) rfl)) rfl)⟩
set_option maxRecDepth 20000 in
theorem ml_X10_46 : zLIN RX10 46 yX3_init "TableHouse" cX3_init 1 0 := ⟨⟨(by decide), (zTb_in (zin_1 (List.mem_of_getElem? (i := 101) rfl)) rfl), (zTb_in (zin_1 (List.mem_of_getElem? (i := 5) rfl)) rfl), ⟨by decide, by decide⟩, by decide +kernel, by decide⟩, rfl, (zTb_in (zin_1 (List.mem_of_getElem? (i := 100) rfl)) rfl)⟩
set_option maxRecDepth 20000 in
theorem ml_X10_53 : zLIN RX10 53 yX1_init "TableHouse" cX1_init 1 0 := ⟨⟨(by decide), (zTb_in (zin_1 (List.mem_of_getElem? (i := 138) rfl)) rfl), (zTb_in (zin_1 (List.mem_of_getElem? (i := 6) rfl)) rfl), ⟨by decide, by decide⟩, by decide +kernel, by decide⟩, rfl, (zTb_in (zin_1 (List.mem_of_getElem? (i := 137) rfl)) rfl)⟩
set_option maxRecDepth 20000 in
theorem ml_X10_60 : zLIN RX10 60 yX5_init "TableHouse" cX5_init 1 0 := ⟨⟨(by decide), (zTb_in (zin_1 (List.mem_of_getElem? (i := 168) rfl)) rfl), (zTb_in (zin_1 (List.mem_of_getElem? (i := 7) rfl)) rfl), ⟨by decide, by decide⟩, by decide +kernel, by decide⟩, rfl, (zTb_in (zin_1 (List.mem_of_getElem? (i := 167) rfl)) rfl)⟩
set_option maxRecDepth 20000 in
theorem ml_X10_67 : zLIN RX10 67 yX6_init "TableHouse" cX6_init 1 0 := ⟨⟨(by decide), (zTb_in (zin_1 (List.mem_of_getElem? (i := 182) rfl)) rfl), (zTb_in (zin_1 (List.mem_of_getElem? (i := 8) rfl)) rfl), ⟨by decide, by decide⟩, by decide +kernel, by decide⟩, rfl, (zTb_in (zin_1 (List.mem_of_getElem? (i := 181) rfl)) rfl)⟩
set_option maxRecDepth 20000 in
theorem ml_X10_74 : zLIN RX10 74 yX2_init "TableHouse" cX2_init 1 0 := ⟨⟨(by decide), (zTb_in (zin_1 (List.mem_of_getElem? (i := 228) rfl)) rfl), (zTb_in (zin_1 (List.mem_of_getElem? (i := 9) rfl)) rfl), ⟨by decide, by decide⟩, by decide +kernel, by decide⟩, rfl, (zTb_in (zin_1 (List.mem_of_getElem? (i := 227) rfl)) rfl)⟩
set_option maxRecDepth 20000 in
theorem ml_X0_54 : zLSN RX0 54 yX10_tenTo "TableHouse" cX10_tenTo 3 (some .int) 1 := ⟨⟨(by decide), (zTb_in (zin_3 (List.mem_of_getElem? (i := 222) rfl)) rfl), (zTb_in (zin_1 (List.mem_of_getElem? (i := 1) rfl)) rfl), ⟨by decide, by decide⟩, by decide +kernel, by decide⟩, (zTb_in (zin_3 (List.mem_of_getElem? (i := 221) rfl)) rfl)⟩
set_option maxRecDepth 20000 in
theorem ml_X0_58 : zLSN RX0 58 yX10_nearest "TableHouse" cX10_nearest 6 (some .long) 2 := ⟨⟨(by decide), (zTb_in (zin_3 (List.mem_of_getElem? (i := 225) rfl)) rfl), (zTb_in (zin_1 (List.mem_of_getElem? (i := 1) rfl)) rfl), ⟨by decide, by decide⟩, by decide +kernel, by decide⟩, (zTb_in (zin_3 (List.mem_of_getElem? (i := 224) rfl)) rfl)⟩
set_option maxRecDepth 20000 in
theorem ml_X3_40 : zLSN RX3 40 yX10_tenTo "TableHouse" cX10_tenTo 3 (some .int) 1 := ⟨⟨(by decide), (zTb_in (zin_3 (List.mem_of_getElem? (i := 222) rfl)) rfl), (zTb_in (zin_1 (List.mem_of_getElem? (i := 1) rfl)) rfl), ⟨by decide, by decide⟩, by decide +kernel, by decide⟩, (zTb_in (zin_3 (List.mem_of_getElem? (i := 221) rfl)) rfl)⟩
set_option maxRecDepth 20000 in
theorem ml_X5_53 : zLSN RX5 53 yX10_shown "TableHouse" cX10_shown 2 (some .int) 1 := ⟨⟨(by decide), (zTb_in (zin_4 (List.mem_of_getElem? (i := 134) rfl)) rfl), (zTb_in (zin_1 (List.mem_of_getElem? (i := 1) rfl)) rfl), ⟨by decide, by decide⟩, by decide +kernel, by decide⟩, (zTb_in (zin_4 (List.mem_of_getElem? (i := 133) rfl)) rfl)⟩
set_option maxRecDepth 20000 in
theorem ml_X6_128 : zLSN RX6 128 yX10_nearest "TableHouse" cX10_nearest 6 (some .long) 2 := ⟨⟨(by decide), (zTb_in (zin_3 (List.mem_of_getElem? (i := 225) rfl)) rfl), (zTb_in (zin_1 (List.mem_of_getElem? (i := 1) rfl)) rfl), ⟨by decide, by decide⟩, by decide +kernel, by decide⟩, (zTb_in (zin_3 (List.mem_of_getElem? (i := 224) rfl)) rfl)⟩
set_option maxRecDepth 20000 in
theorem ml_X8_108 : zLSN RX8 108 yX10_tenTo "TableHouse" cX10_tenTo 3 (some .int) 1 := ⟨⟨(by decide), (zTb_in (zin_3 (List.mem_of_getElem? (i := 222) rfl)) rfl), (zTb_in (zin_1 (List.mem_of_getElem? (i := 1) rfl)) rfl), ⟨by decide, by decide⟩, by decide +kernel, by decide⟩, (zTb_in (zin_3 (List.mem_of_getElem? (i := 221) rfl)) rfl)⟩
set_option maxRecDepth 20000 in
theorem kc_X10_117 : Cond.constant RX10 117 (Int32.ofInt (1000000)) ∈ zTb := (zTb_in (zin_3 (List.mem_of_getElem? (i := 62) rfl)) rfl)
set_option maxRecDepth 20000 in
theorem kc_X10_118 : Cond.constant RX10 118 (Int32.ofInt (-2147483648)) ∈ zTb := (zTb_in (zin_3 (List.mem_of_getElem? (i := 63) rfl)) rfl)
set_option maxRecDepth 20000 in
theorem kc_X10_280 : Cond.constant RX10 280 (Int32.ofInt (60000)) ∈ zTb := (zTb_in (zin_5 (List.mem_of_getElem? (i := 70) rfl)) rfl)
set_option maxRecDepth 20000 in
theorem kc_X10_349 : Cond.constant RX10 349 (Int32.ofInt (-999999999)) ∈ zTb := (zTb_in (zin_5 (List.mem_of_getElem? (i := 104) rfl)) rfl)
set_option maxRecDepth 20000 in
theorem kc_X10_350 : Cond.constant RX10 350 (Int32.ofInt (999999999)) ∈ zTb := (zTb_in (zin_5 (List.mem_of_getElem? (i := 105) rfl)) rfl)
set_option maxRecDepth 20000 in
theorem kc_X0_53 : Cond.constant RX0 53 (Int32.ofInt (-2147483648)) ∈ zTb := (zTb_in (zin_3 (List.mem_of_getElem? (i := 219) rfl)) rfl)
set_option maxRecDepth 20000 in
theorem kc_X3_44 : Cond.constant RX3 44 (Int32.ofInt (-2147483648)) ∈ zTb := (zTb_in (zin_4 (List.mem_of_getElem? (i := 31) rfl)) rfl)
set_option maxRecDepth 20000 in
theorem kc_X4_100 : Cond.constant RX4 100 (Int32.ofInt (1000000)) ∈ zTb := (zTb_in (zin_2 (List.mem_of_getElem? (i := 158) rfl)) rfl)
set_option maxRecDepth 20000 in
theorem kc_X4_107 : Cond.constant RX4 107 (Int32.ofInt (999999)) ∈ zTb := (zTb_in (zin_2 (List.mem_of_getElem? (i := 162) rfl)) rfl)
set_option maxRecDepth 20000 in
theorem kc_X5_37 : Cond.constant RX5 37 (Int32.ofInt (-2147483648)) ∈ zTb := (zTb_in (zin_4 (List.mem_of_getElem? (i := 151) rfl)) rfl)
set_option maxRecDepth 20000 in
theorem kc_X6_36 : Cond.constant RX6 36 (Int32.ofInt (-999999)) ∈ zTb := (zTb_in (zin_4 (List.mem_of_getElem? (i := 180) rfl)) rfl)
set_option maxRecDepth 20000 in
theorem kc_X6_37 : Cond.constant RX6 37 (Int32.ofInt (999999)) ∈ zTb := (zTb_in (zin_4 (List.mem_of_getElem? (i := 181) rfl)) rfl)
set_option maxRecDepth 20000 in
theorem kc_X6_53 : Cond.constant RX6 53 (Int32.ofInt (-2147483648)) ∈ zTb := (zTb_in (zin_4 (List.mem_of_getElem? (i := 193) rfl)) rfl)
set_option maxRecDepth 20000 in
theorem kc_X6_103 : Cond.constant RX6 103 (Int32.ofInt (-1640531527)) ∈ zTb := (zTb_in (zin_5 (List.mem_of_getElem? (i := 6) rfl)) rfl)
set_option maxRecDepth 20000 in
theorem kc_X8_24 : Cond.constant RX8 24 (Int32.ofInt (-2147483648)) ∈ zTb := (zTb_in (zin_3 (List.mem_of_getElem? (i := 151) rfl)) rfl)
set_option maxRecDepth 20000 in
theorem kc_X11_182 : Cond.constant RX11 182 (Int32.ofInt (9999999)) ∈ zTb := (zTb_in (zin_6 (List.mem_of_getElem? (i := 172) rfl)) rfl)
set_option maxRecDepth 20000 in
theorem kc_X11_227 : Cond.constant RX11 227 (Int32.ofInt (999999)) ∈ zTb := (zTb_in (zin_6 (List.mem_of_getElem? (i := 209) rfl)) rfl)
set_option maxRecDepth 20000 in
theorem kc_X11_283 : Cond.constant RX11 283 (Int32.ofInt (-2147483648)) ∈ zTb := (zTb_in (zin_6 (List.mem_of_getElem? (i := 228) rfl)) rfl)
set_option maxRecDepth 20000 in
theorem kc_X11_423 : Cond.constant RX11 423 (Int32.ofInt (60000)) ∈ zTb := (zTb_in (zin_7 (List.mem_of_getElem? (i := 218) rfl)) rfl)
set_option maxRecDepth 20000 in
theorem kc_J11_76 : Cond.constant RJ11 76 (Int32.ofInt (56320)) ∈ zTb := (zTb_in (zin_2 (List.mem_of_getElem? (i := 220) rfl)) rfl)
set_option maxRecDepth 20000 in
theorem kc_J11_110 : Cond.constant RJ11 110 (Int32.ofInt (55232)) ∈ zTb := (zTb_in (zin_2 (List.mem_of_getElem? (i := 216) rfl)) rfl)
set_option maxRecDepth 20000 in
theorem kc_J6_265 : Cond.constant RJ6 265 (Int32.ofInt (1431655765)) ∈ zTb := (zTb_in (zin_4 (List.mem_of_getElem? (i := 239) rfl)) rfl)
set_option maxRecDepth 20000 in
theorem kc_J6_266 : Cond.constant RJ6 266 (Int32.ofInt (858993459)) ∈ zTb := (zTb_in (zin_5 (List.mem_of_getElem? (i := 0) rfl)) rfl)
set_option maxRecDepth 20000 in
theorem kc_J6_267 : Cond.constant RJ6 267 (Int32.ofInt (252645135)) ∈ zTb := (zTb_in (zin_5 (List.mem_of_getElem? (i := 1) rfl)) rfl)
set_option maxRecDepth 20000 in
theorem kc_J2_227 : Cond.constant RJ2 227 (Int32.ofInt (65536)) ∈ zTb := (zTb_in (zin_2 (List.mem_of_getElem? (i := 191) rfl)) rfl)
set_option maxRecDepth 20000 in
theorem kc_X10_351 : Cond.constantLong RX10 351 (Int64.ofInt (499999999)) ∈ zTb := (zTb_in (zin_4 (List.mem_of_getElem? (i := 135) rfl)) rfl)
set_option maxRecDepth 20000 in
theorem kc_X10_353 : Cond.constantLong RX10 353 (Int64.ofInt (1000000000)) ∈ zTb := (zTb_in (zin_4 (List.mem_of_getElem? (i := 136) rfl)) rfl)
set_option maxRecDepth 20000 in
theorem kc_X10_355 : Cond.constantLong RX10 355 (Int64.ofInt (2)) ∈ zTb := (zTb_in (zin_3 (List.mem_of_getElem? (i := 226) rfl)) rfl)
set_option maxRecDepth 20000 in
theorem kc_X0_62 : Cond.constantLong RX0 62 (Int64.ofInt (-999999999)) ∈ zTb := (zTb_in (zin_3 (List.mem_of_getElem? (i := 228) rfl)) rfl)
set_option maxRecDepth 20000 in
theorem kc_X0_64 : Cond.constantLong RX0 64 (Int64.ofInt (999999999)) ∈ zTb := (zTb_in (zin_3 (List.mem_of_getElem? (i := 229) rfl)) rfl)
set_option maxRecDepth 20000 in
theorem kc_X0_91 : Cond.constantLong RX0 91 (Int64.ofInt (10000)) ∈ zTb := (zTb_in (zin_3 (List.mem_of_getElem? (i := 114) rfl)) rfl)
set_option maxRecDepth 20000 in
theorem kc_X0_93 : Cond.constantLong RX0 93 (Int64.ofInt (4000000)) ∈ zTb := (zTb_in (zin_3 (List.mem_of_getElem? (i := 115) rfl)) rfl)
set_option maxRecDepth 20000 in
theorem kc_X0_95 : Cond.constantLong RX0 95 (Int64.ofInt (2)) ∈ zTb := (zTb_in (zin_3 (List.mem_of_getElem? (i := 116) rfl)) rfl)
set_option maxRecDepth 20000 in
theorem kc_X0_97 : Cond.constantLong RX0 97 (Int64.ofInt (100)) ∈ zTb := (zTb_in (zin_3 (List.mem_of_getElem? (i := 117) rfl)) rfl)
set_option maxRecDepth 20000 in
theorem kc_X0_106 : Cond.constantLong RX0 106 (Int64.ofInt (-1000000000)) ∈ zTb := (zTb_in (zin_3 (List.mem_of_getElem? (i := 82) rfl)) rfl)
set_option maxRecDepth 20000 in
theorem kc_X0_108 : Cond.constantLong RX0 108 (Int64.ofInt (1000000000)) ∈ zTb := (zTb_in (zin_3 (List.mem_of_getElem? (i := 83) rfl)) rfl)
set_option maxRecDepth 20000 in
theorem kc_X1_24 : Cond.constantLong RX1 24 (Int64.ofInt (10)) ∈ zTb := (zTb_in (zin_4 (List.mem_of_getElem? (i := 100) rfl)) rfl)
set_option maxRecDepth 20000 in
theorem kc_X5_66 : Cond.constantLong RX5 66 (Int64.ofInt (1000000000)) ∈ zTb := (zTb_in (zin_4 (List.mem_of_getElem? (i := 168) rfl)) rfl)
set_option maxRecDepth 20000 in
theorem kc_X6_126 : Cond.constantLong RX6 126 (Int64.ofInt (6)) ∈ zTb := (zTb_in (zin_5 (List.mem_of_getElem? (i := 31) rfl)) rfl)
set_option maxRecDepth 20000 in
theorem kc_X8_87 : Cond.constantLong RX8 87 (Int64.ofInt (1000000000)) ∈ zTb := (zTb_in (zin_4 (List.mem_of_getElem? (i := 92) rfl)) rfl)
set_option maxRecDepth 20000 in
theorem kc_X8_119 : Cond.constantLong RX8 119 (Int64.ofInt (100)) ∈ zTb := (zTb_in (zin_5 (List.mem_of_getElem? (i := 155) rfl)) rfl)
set_option maxRecDepth 20000 in
theorem kc_X11_228 : Cond.constantLong RX11 228 (Int64.ofInt (5)) ∈ zTb := (zTb_in (zin_6 (List.mem_of_getElem? (i := 210) rfl)) rfl)
set_option maxRecDepth 20000 in
theorem kc_X11_246 : Cond.constantLong RX11 246 (Int64.ofInt (-1000000000)) ∈ zTb := (zTb_in (zin_6 (List.mem_of_getElem? (i := 236) rfl)) rfl)
set_option maxRecDepth 20000 in
theorem kc_X11_248 : Cond.constantLong RX11 248 (Int64.ofInt (1000000000)) ∈ zTb := (zTb_in (zin_6 (List.mem_of_getElem? (i := 237) rfl)) rfl)
set_option maxRecDepth 20000 in
theorem kc_X11_250 : Cond.constantLong RX11 250 (Int64.ofInt (4194304)) ∈ zTb := (zTb_in (zin_7 (List.mem_of_getElem? (i := 17) rfl)) rfl)
set_option maxRecDepth 20000 in
theorem kc_X11_252 : Cond.constantLong RX11 252 (Int64.ofInt (2)) ∈ zTb := (zTb_in (zin_7 (List.mem_of_getElem? (i := 18) rfl)) rfl)
set_option maxRecDepth 20000 in
theorem kc_X11_264 : Cond.constantLong RX11 264 (Int64.ofInt (10000)) ∈ zTb := (zTb_in (zin_7 (List.mem_of_getElem? (i := 13) rfl)) rfl)
set_option maxRecDepth 20000 in
theorem kc_X11_270 : Cond.constantLong RX11 270 (Int64.ofInt (100)) ∈ zTb := (zTb_in (zin_7 (List.mem_of_getElem? (i := 19) rfl)) rfl)
set_option maxRecDepth 20000 in
theorem kc_X11_281 : Cond.constantLong RX11 281 (Int64.ofInt (1000000)) ∈ zTb := (zTb_in (zin_6 (List.mem_of_getElem? (i := 227) rfl)) rfl)
set_option maxRecDepth 20000 in
theorem kc_X11_290 : Cond.constantLong RX11 290 (Int64.ofInt (-1000)) ∈ zTb := (zTb_in (zin_7 (List.mem_of_getElem? (i := 32) rfl)) rfl)
set_option maxRecDepth 20000 in
theorem kc_X11_292 : Cond.constantLong RX11 292 (Int64.ofInt (1000)) ∈ zTb := (zTb_in (zin_7 (List.mem_of_getElem? (i := 33) rfl)) rfl)
set_option maxRecDepth 20000 in
theorem kc_X11_294 : Cond.constantLong RX11 294 (Int64.ofInt (4)) ∈ zTb := (zTb_in (zin_7 (List.mem_of_getElem? (i := 34) rfl)) rfl)
set_option maxRecDepth 20000 in
theorem kc_X11_296 : Cond.constantLong RX11 296 (Int64.ofInt (30)) ∈ zTb := (zTb_in (zin_7 (List.mem_of_getElem? (i := 35) rfl)) rfl)
set_option maxRecDepth 20000 in
theorem kc_X11_301 : Cond.constantLong RX11 301 (Int64.ofInt (10)) ∈ zTb := (zTb_in (zin_7 (List.mem_of_getElem? (i := 36) rfl)) rfl)
set_option maxRecDepth 20000 in
theorem kc_X11_306 : Cond.constantLong RX11 306 (Int64.ofInt (-999999999)) ∈ zTb := (zTb_in (zin_7 (List.mem_of_getElem? (i := 40) rfl)) rfl)
set_option maxRecDepth 20000 in
theorem kc_X11_308 : Cond.constantLong RX11 308 (Int64.ofInt (999999999)) ∈ zTb := (zTb_in (zin_7 (List.mem_of_getElem? (i := 41) rfl)) rfl)
set_option maxRecDepth 20000 in
theorem kc_X11_356 : Cond.constantLong RX11 356 (Int64.ofInt (50)) ∈ zTb := (zTb_in (zin_7 (List.mem_of_getElem? (i := 113) rfl)) rfl)
set_option maxRecDepth 20000 in
theorem kc_X11_361 : Cond.constantLong RX11 361 (Int64.ofInt (499999999)) ∈ zTb := (zTb_in (zin_7 (List.mem_of_getElem? (i := 134) rfl)) rfl)
set_option maxRecDepth 20000 in
theorem kc_X11_363 : Cond.constantLong RX11 363 (Int64.ofInt (60)) ∈ zTb := (zTb_in (zin_7 (List.mem_of_getElem? (i := 118) rfl)) rfl)
set_option maxRecDepth 20000 in
theorem kc_X11_376 : Cond.constantLong RX11 376 (Int64.ofInt (6)) ∈ zTb := (zTb_in (zin_7 (List.mem_of_getElem? (i := 139) rfl)) rfl)
set_option maxRecDepth 20000 in
theorem kc_X11_378 : Cond.constantLong RX11 378 (Int64.ofInt (99)) ∈ zTb := (zTb_in (zin_7 (List.mem_of_getElem? (i := 144) rfl)) rfl)
set_option maxRecDepth 20000 in
theorem kc_X11_384 : Cond.constantLong RX11 384 (Int64.ofInt (-999999)) ∈ zTb := (zTb_in (zin_7 (List.mem_of_getElem? (i := 153) rfl)) rfl)
set_option maxRecDepth 20000 in
theorem kc_X11_386 : Cond.constantLong RX11 386 (Int64.ofInt (999999)) ∈ zTb := (zTb_in (zin_7 (List.mem_of_getElem? (i := 154) rfl)) rfl)
set_option maxRecDepth 20000 in
theorem kc_X11_391 : Cond.constantLong RX11 391 (Int64.ofInt (20)) ∈ zTb := (zTb_in (zin_7 (List.mem_of_getElem? (i := 159) rfl)) rfl)
set_option maxRecDepth 20000 in
theorem kc_X11_393 : Cond.constantLong RX11 393 (Int64.ofInt (3)) ∈ zTb := (zTb_in (zin_7 (List.mem_of_getElem? (i := 172) rfl)) rfl)
set_option maxRecDepth 20000 in
theorem kc_X11_395 : Cond.constantLong RX11 395 (Int64.ofInt (9)) ∈ zTb := (zTb_in (zin_7 (List.mem_of_getElem? (i := 173) rfl)) rfl)
set_option maxRecDepth 20000 in
theorem kc_X11_418 : Cond.constantLong RX11 418 (Int64.ofInt (5000)) ∈ zTb := (zTb_in (zin_7 (List.mem_of_getElem? (i := 209) rfl)) rfl)
set_option maxRecDepth 20000 in
theorem kc_X11_439 : Cond.constantLong RX11 439 (Int64.ofInt (999)) ∈ zTb := (zTb_in (zin_8 (List.mem_of_getElem? (i := 10) rfl)) rfl)
set_option maxRecDepth 20000 in
theorem kc_X11_450 : Cond.constantLong RX11 450 (Int64.ofInt (39)) ∈ zTb := (zTb_in (zin_8 (List.mem_of_getElem? (i := 39) rfl)) rfl)
set_option maxRecDepth 20000 in
theorem cl_X10_7 : zNL RX10 7 9 2 := ⟨by decide, rfl, (zTb_in (zin_1 (List.mem_of_getElem? (i := 31) rfl)) rfl), (zTb_in (zin_1 (List.mem_of_getElem? (i := 32) rfl)) rfl), (zTb_in (zin_1 (List.mem_of_getElem? (i := 2) rfl)) rfl)⟩
set_option maxRecDepth 20000 in
theorem cl_X10_16 : zNL RX10 16 4 7 := ⟨by decide, rfl, (zTb_in (zin_1 (List.mem_of_getElem? (i := 46) rfl)) rfl), (zTb_in (zin_1 (List.mem_of_getElem? (i := 47) rfl)) rfl), (zTb_in (zin_1 (List.mem_of_getElem? (i := 3) rfl)) rfl)⟩
set_option maxRecDepth 20000 in
theorem cl_X10_25 : zNL RX10 25 0 3 := ⟨by decide, rfl, (zTb_in (zin_1 (List.mem_of_getElem? (i := 76) rfl)) rfl), (zTb_in (zin_1 (List.mem_of_getElem? (i := 77) rfl)) rfl), (zTb_in (zin_1 (List.mem_of_getElem? (i := 4) rfl)) rfl)⟩
set_option maxRecDepth 20000 in
theorem cl_X10_32 : zNL RX10 32 7 1 := ⟨by decide, rfl, (zTb_in (zin_1 (List.mem_of_getElem? (i := 93) rfl)) rfl), (zTb_in (zin_3 (List.mem_of_getElem? (i := 30) rfl)) rfl), (zTb_in (zin_1 (List.mem_of_getElem? (i := 17) rfl)) rfl)⟩
set_option maxRecDepth 20000 in
theorem cl_X10_38 : zNL RX10 38 8 14 := ⟨by decide, rfl, (zTb_in (zin_1 (List.mem_of_getElem? (i := 95) rfl)) rfl), (zTb_in (zin_3 (List.mem_of_getElem? (i := 144) rfl)) rfl), (zTb_in (zin_1 (List.mem_of_getElem? (i := 21) rfl)) rfl)⟩
set_option maxRecDepth 20000 in
theorem cl_X10_44 : zNL RX10 44 3 9 := ⟨by decide, rfl, (zTb_in (zin_1 (List.mem_of_getElem? (i := 97) rfl)) rfl), (zTb_in (zin_1 (List.mem_of_getElem? (i := 98) rfl)) rfl), (zTb_in (zin_1 (List.mem_of_getElem? (i := 5) rfl)) rfl)⟩
set_option maxRecDepth 20000 in
theorem cl_X10_51 : zNL RX10 51 1 7 := ⟨by decide, rfl, (zTb_in (zin_1 (List.mem_of_getElem? (i := 134) rfl)) rfl), (zTb_in (zin_1 (List.mem_of_getElem? (i := 135) rfl)) rfl), (zTb_in (zin_1 (List.mem_of_getElem? (i := 6) rfl)) rfl)⟩
set_option maxRecDepth 20000 in
theorem cl_X10_58 : zNL RX10 58 5 2 := ⟨by decide, rfl, (zTb_in (zin_1 (List.mem_of_getElem? (i := 164) rfl)) rfl), (zTb_in (zin_1 (List.mem_of_getElem? (i := 165) rfl)) rfl), (zTb_in (zin_1 (List.mem_of_getElem? (i := 7) rfl)) rfl)⟩
set_option maxRecDepth 20000 in
theorem cl_X10_65 : zNL RX10 65 6 12 := ⟨by decide, rfl, (zTb_in (zin_1 (List.mem_of_getElem? (i := 178) rfl)) rfl), (zTb_in (zin_1 (List.mem_of_getElem? (i := 179) rfl)) rfl), (zTb_in (zin_1 (List.mem_of_getElem? (i := 8) rfl)) rfl)⟩
set_option maxRecDepth 20000 in
theorem cl_X10_72 : zNL RX10 72 2 6 := ⟨by decide, rfl, (zTb_in (zin_1 (List.mem_of_getElem? (i := 224) rfl)) rfl), (zTb_in (zin_1 (List.mem_of_getElem? (i := 225) rfl)) rfl), (zTb_in (zin_1 (List.mem_of_getElem? (i := 9) rfl)) rfl)⟩
set_option maxRecDepth 20000 in
theorem cl_L_7 : zNL RL 7 10 14 := ⟨by decide, rfl, (zTb_in (zin_1 (List.mem_of_getElem? (i := 23) rfl)) rfl), (zTb_in (zin_1 (List.mem_of_getElem? (i := 24) rfl)) rfl), (zTb_in (zin_1 (List.mem_of_getElem? (i := 1) rfl)) rfl)⟩
set_option maxRecDepth 20000 in
theorem cl_L_10 : zNL RL 10 11 64 := ⟨by decide, rfl, (zTb_in (zin_5 (List.mem_of_getElem? (i := 176) rfl)) rfl), (zTb_in (zin_5 (List.mem_of_getElem? (i := 177) rfl)) rfl), (zTb_in (zin_1 (List.mem_of_getElem? (i := 10) rfl)) rfl)⟩
set_option maxRecDepth 20000 in
theorem zac_int : Cond.arrayClass .int ∈ zTb := (zTb_in (zin_1 (List.mem_of_getElem? (i := 45) rfl)) rfl)
set_option maxRecDepth 20000 in
theorem zac_long : Cond.arrayClass .long ∈ zTb := (zTb_in (zin_1 (List.mem_of_getElem? (i := 92) rfl)) rfl)
set_option maxRecDepth 20000 in
theorem zac_byte : Cond.arrayClass .byte ∈ zTb := (zTb_in (zin_3 (List.mem_of_getElem? (i := 25) rfl)) rfl)
set_option maxRecDepth 20000 in
theorem zac_boolean : Cond.arrayClass .boolean ∈ zTb := (zTb_in (zin_6 (List.mem_of_getElem? (i := 135) rfl)) rfl)
