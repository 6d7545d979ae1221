theorem inT_0 {w : Cond} {i : Nat} (h : (k2_sels lw_privs)[i]? = some w) (hg : goodWord w = true) : inT w := List.mem_filter.mpr ⟨List.mem_append_left _ (List.mem_of_getElem? h), hg⟩
theorem inT_1 {w : Cond} {i : Nat} (h : tables_1_1[i]? = some w) (hg : goodWord w = true) : inT w := List.mem_filter.mpr ⟨List.mem_append_right _ (List.mem_append_left _ (List.mem_of_getElem? h)), hg⟩
theorem inT_2 {w : Cond} {i : Nat} (h : tables_1_2[i]? = some w) (hg : goodWord w = true) : inT w := List.mem_filter.mpr ⟨List.mem_append_right _ (List.mem_append_right _ (List.mem_append_left _ (List.mem_of_getElem? h))), hg⟩
theorem inT_3 {w : Cond} {i : Nat} (h : tables_1_3[i]? = some w) (hg : goodWord w = true) : inT w := List.mem_filter.mpr ⟨List.mem_append_right _ (List.mem_append_right _ (List.mem_append_right _ (List.mem_append_left _ (List.mem_of_getElem? h)))), hg⟩
theorem inT_4 {w : Cond} {i : Nat} (h : tables_1_4[i]? = some w) (hg : goodWord w = true) : inT w := List.mem_filter.mpr ⟨List.mem_append_right _ (List.mem_append_right _ (List.mem_append_right _ (List.mem_append_right _ (List.mem_append_left _ (List.mem_of_getElem? h))))), hg⟩
theorem inT_5 {w : Cond} {i : Nat} (h : tables_1_5[i]? = some w) (hg : goodWord w = true) : inT w := List.mem_filter.mpr ⟨List.mem_append_right _ (List.mem_append_right _ (List.mem_append_right _ (List.mem_append_right _ (List.mem_append_right _ (List.mem_append_left _ (List.mem_of_getElem? h)))))), hg⟩
theorem inT_6 {w : Cond} {i : Nat} (h : tables_1_6[i]? = some w) (hg : goodWord w = true) : inT w := List.mem_filter.mpr ⟨List.mem_append_right _ (List.mem_append_right _ (List.mem_append_right _ (List.mem_append_right _ (List.mem_append_right _ (List.mem_append_right _ (List.mem_of_getElem? h)))))), hg⟩
theorem tin_L : inT (.initialized RL) := inT_1 (i := 0) rfl rfl
theorem tin_X11 : inT (.initialized RX11) := inT_1 (i := 1) rfl rfl
theorem tin_X5 : inT (.initialized RX5) := inT_1 (i := 2) rfl rfl
theorem tin_X6 : inT (.initialized RX6) := inT_1 (i := 3) rfl rfl
theorem tin_X1 : inT (.initialized RX1) := inT_1 (i := 4) rfl rfl
theorem tin_X3 : inT (.initialized RX3) := inT_1 (i := 5) rfl rfl
theorem tin_X10 : inT (.initialized RX10) := inT_1 (i := 6) rfl rfl
theorem tin_X0 : inT (.initialized RX0) := inT_1 (i := 7) rfl rfl
theorem tin_X8 : inT (.initialized RX8) := inT_1 (i := 8) rfl rfl
theorem tin_X9 : inT (.initialized RX9) := inT_1 (i := 9) rfl rfl
theorem tin_X4 : inT (.initialized RX4) := inT_1 (i := 10) rfl rfl
theorem tin_X2 : inT (.initialized RX2) := inT_1 (i := 11) rfl rfl
theorem tin_X7 : inT (.initialized RX7) := inT_1 (i := 12) rfl rfl
theorem tin_X12 : inT (.initialized RX12) := inT_1 (i := 13) rfl rfl
theorem tin_J0 : inT (.initialized RJ0) := inT_1 (i := 14) rfl rfl
theorem tin_J1 : inT (.initialized RJ1) := inT_1 (i := 15) rfl rfl
theorem tin_J3 : inT (.initialized RJ3) := inT_1 (i := 16) rfl rfl
theorem tin_J2 : inT (.initialized RJ2) := inT_1 (i := 17) rfl rfl
theorem tin_J9 : inT (.initialized RJ9) := inT_1 (i := 18) rfl rfl
theorem tin_J11 : inT (.initialized RJ11) := inT_1 (i := 19) rfl rfl
theorem tin_J6 : inT (.initialized RJ6) := inT_1 (i := 20) rfl rfl
theorem tm_L_9 : inT (.methodLink RL 9 yX11_init) := inT_1 (i := 23) rfl rfl
theorem ti_X11_init : inT (.instanceMethod yX11_init) := inT_1 (i := 24) rfl rfl
theorem tc_X11_init : inT (.code yX11_init cX11_init 2 none) := inT_1 (i := 25) rfl rfl
theorem ti_X5_init : inT (.instanceMethod yX5_init) := inT_1 (i := 32) rfl rfl
theorem tc_X5_init : inT (.code yX5_init cX5_init 1 none) := inT_1 (i := 33) rfl rfl
theorem tf_X5_11 : inT (.fieldLink RX5 11 "HomeRoll$People" "mothers" "[I") := inT_1 (i := 35) rfl rfl
theorem tf_X5_15 : inT (.fieldLink RX5 15 "HomeRoll$People" "fathers" "[I") := inT_1 (i := 36) rfl rfl
theorem tf_X5_18 : inT (.fieldLink RX5 18 "HomeRoll$People" "deathDays" "[I") := inT_1 (i := 37) rfl rfl
theorem tf_X5_21 : inT (.fieldLink RX5 21 "HomeRoll$People" "count" "I") := inT_1 (i := 38) rfl rfl
theorem tf_X6_35 : inT (.fieldLink RX6 35 "HomeRoll$People" "count" "I") := inT_1 (i := 39) rfl rfl
theorem tf_X11_242 : inT (.fieldLink RX11 242 "HomeRoll$People" "count" "I") := inT_1 (i := 40) rfl rfl
theorem tm_X11_18 : inT (.methodLink RX11 18 yX6_init) := inT_1 (i := 53) rfl rfl
theorem ti_X6_init : inT (.instanceMethod yX6_init) := inT_1 (i := 54) rfl rfl
theorem tc_X6_init : inT (.code yX6_init cX6_init 2 none) := inT_1 (i := 55) rfl rfl
theorem tf_X6_27 : inT (.fieldLink RX6 27 "HomeRoll$Shares" "people" "LHomeRoll$People;") := inT_1 (i := 57) rfl rfl
theorem tf_X6_9 : inT (.fieldLink RX6 9 "HomeRoll$Shares" "heirs" "[I") := inT_1 (i := 58) rfl rfl
theorem tf_X6_15 : inT (.fieldLink RX6 15 "HomeRoll$Shares" "canTake" "[Z") := inT_1 (i := 59) rfl rfl
theorem tf_X6_19 : inT (.fieldLink RX6 19 "HomeRoll$Shares" "parts" "[J") := inT_1 (i := 60) rfl rfl
theorem tf_X6_23 : inT (.fieldLink RX6 23 "HomeRoll$Shares" "whole" "J") := inT_1 (i := 61) rfl rfl
theorem ti_X1_init : inT (.instanceMethod yX1_init) := inT_1 (i := 78) rfl rfl
theorem tc_X1_init : inT (.code yX1_init cX1_init 1 none) := inT_1 (i := 79) rfl rfl
theorem tf_X1_11 : inT (.fieldLink RX1 11 "HomeRoll$Houses" "firstHolders" "[I") := inT_1 (i := 81) rfl rfl
theorem tf_X10_39 : inT (.fieldLink RX10 39 "HomeRoll$Houses" "firstHolders" "[I") := inT_1 (i := 82) rfl rfl
theorem tf_X1_15 : inT (.fieldLink RX1 15 "HomeRoll$Houses" "worths" "[I") := inT_1 (i := 83) rfl rfl
theorem tf_X11_265 : inT (.fieldLink RX11 265 "HomeRoll$Houses" "worths" "[I") := inT_1 (i := 84) rfl rfl
theorem tf_X1_18 : inT (.fieldLink RX1 18 "HomeRoll$Houses" "count" "I") := inT_1 (i := 85) rfl rfl
theorem tf_X11_119 : inT (.fieldLink RX11 119 "HomeRoll$Houses" "count" "I") := inT_1 (i := 86) rfl rfl
theorem ti_X3_init : inT (.instanceMethod yX3_init) := inT_1 (i := 97) rfl rfl
theorem tc_X3_init : inT (.code yX3_init cX3_init 1 none) := inT_1 (i := 98) rfl rfl
theorem tf_X3_11 : inT (.fieldLink RX3 11 "HomeRoll$Papers" "houses" "[I") := inT_1 (i := 100) rfl rfl
theorem tf_X10_51 : inT (.fieldLink RX10 51 "HomeRoll$Papers" "houses" "[I") := inT_1 (i := 101) rfl rfl
theorem tf_X11_156 : inT (.fieldLink RX11 156 "HomeRoll$Papers" "houses" "[I") := inT_1 (i := 102) rfl rfl
theorem tf_X3_15 : inT (.fieldLink RX3 15 "HomeRoll$Papers" "givers" "[I") := inT_1 (i := 103) rfl rfl
theorem tf_X10_66 : inT (.fieldLink RX10 66 "HomeRoll$Papers" "givers" "[I") := inT_1 (i := 104) rfl rfl
theorem tf_X11_277 : inT (.fieldLink RX11 277 "HomeRoll$Papers" "givers" "[I") := inT_1 (i := 105) rfl rfl
theorem tf_X3_18 : inT (.fieldLink RX3 18 "HomeRoll$Papers" "takers" "[I") := inT_1 (i := 106) rfl rfl
theorem tf_X10_60 : inT (.fieldLink RX10 60 "HomeRoll$Papers" "takers" "[I") := inT_1 (i := 107) rfl rfl
theorem tf_X11_274 : inT (.fieldLink RX11 274 "HomeRoll$Papers" "takers" "[I") := inT_1 (i := 108) rfl rfl
theorem tf_X3_21 : inT (.fieldLink RX3 21 "HomeRoll$Papers" "days" "[I") := inT_1 (i := 109) rfl rfl
theorem tf_X10_53 : inT (.fieldLink RX10 53 "HomeRoll$Papers" "days" "[I") := inT_1 (i := 110) rfl rfl
theorem tf_X11_252 : inT (.fieldLink RX11 252 "HomeRoll$Papers" "days" "[I") := inT_1 (i := 111) rfl rfl
theorem tf_X3_24 : inT (.fieldLink RX3 24 "HomeRoll$Papers" "sorts" "[I") := inT_1 (i := 112) rfl rfl
theorem tf_X11_255 : inT (.fieldLink RX11 255 "HomeRoll$Papers" "sorts" "[I") := inT_1 (i := 113) rfl rfl
theorem tf_X3_27 : inT (.fieldLink RX3 27 "HomeRoll$Papers" "prices" "[I") := inT_1 (i := 114) rfl rfl
theorem tf_X11_283 : inT (.fieldLink RX11 283 "HomeRoll$Papers" "prices" "[I") := inT_1 (i := 115) rfl rfl
theorem tf_X3_30 : inT (.fieldLink RX3 30 "HomeRoll$Papers" "foundDays" "[I") := inT_1 (i := 116) rfl rfl
theorem tf_X3_33 : inT (.fieldLink RX3 33 "HomeRoll$Papers" "falseDays" "[I") := inT_1 (i := 117) rfl rfl
theorem tf_X3_36 : inT (.fieldLink RX3 36 "HomeRoll$Papers" "byDay" "[I") := inT_1 (i := 118) rfl rfl
theorem tf_X10_48 : inT (.fieldLink RX10 48 "HomeRoll$Papers" "byDay" "[I") := inT_1 (i := 119) rfl rfl
theorem tf_X3_39 : inT (.fieldLink RX3 39 "HomeRoll$Papers" "count" "I") := inT_1 (i := 120) rfl rfl
theorem tf_X10_43 : inT (.fieldLink RX10 43 "HomeRoll$Papers" "count" "I") := inT_1 (i := 121) rfl rfl
theorem tf_X11_243 : inT (.fieldLink RX11 243 "HomeRoll$Papers" "count" "I") := inT_1 (i := 122) rfl rfl
theorem tm_X11_45 : inT (.methodLink RX11 45 yX10_init) := inT_1 (i := 146) rfl rfl
theorem ti_X10_init : inT (.instanceMethod yX10_init) := inT_1 (i := 147) rfl rfl
theorem tc_X10_init : inT (.code yX10_init cX10_init 3 none) := inT_1 (i := 148) rfl rfl
theorem tf_X10_25 : inT (.fieldLink RX10 25 "HomeRoll$Trail" "houses" "LHomeRoll$Houses;") := inT_1 (i := 150) rfl rfl
theorem tf_X10_29 : inT (.fieldLink RX10 29 "HomeRoll$Trail" "papers" "LHomeRoll$Papers;") := inT_1 (i := 151) rfl rfl
theorem tf_X10_9 : inT (.fieldLink RX10 9 "HomeRoll$Trail" "lastHolder" "I") := inT_1 (i := 152) rfl rfl
theorem tf_X11_150 : inT (.fieldLink RX11 150 "HomeRoll$Trail" "lastHolder" "I") := inT_1 (i := 153) rfl rfl
theorem tf_X10_15 : inT (.fieldLink RX10 15 "HomeRoll$Trail" "passedMark" "Z") := inT_1 (i := 154) rfl rfl
theorem tf_X11_158 : inT (.fieldLink RX11 158 "HomeRoll$Trail" "passedMark" "Z") := inT_1 (i := 155) rfl rfl
theorem tf_X10_19 : inT (.fieldLink RX10 19 "HomeRoll$Trail" "sinceBeforeMark" "I") := inT_1 (i := 156) rfl rfl
theorem tf_X11_268 : inT (.fieldLink RX11 268 "HomeRoll$Trail" "sinceBeforeMark" "I") := inT_1 (i := 157) rfl rfl
theorem tf_X10_22 : inT (.fieldLink RX10 22 "HomeRoll$Trail" "passedBehindMark" "I") := inT_1 (i := 158) rfl rfl
theorem tf_X11_271 : inT (.fieldLink RX11 271 "HomeRoll$Trail" "passedBehindMark" "I") := inT_1 (i := 159) rfl rfl
theorem ti_X0_init : inT (.instanceMethod yX0_init) := inT_1 (i := 176) rfl rfl
theorem tc_X0_init : inT (.code yX0_init cX0_init 1 none) := inT_1 (i := 177) rfl rfl
theorem tf_X0_11 : inT (.fieldLink RX0 11 "HomeRoll$Claims" "papers" "[I") := inT_1 (i := 179) rfl rfl
theorem tf_X11_250 : inT (.fieldLink RX11 250 "HomeRoll$Claims" "papers" "[I") := inT_1 (i := 180) rfl rfl
theorem tf_X0_15 : inT (.fieldLink RX0 15 "HomeRoll$Claims" "terms" "[I") := inT_1 (i := 181) rfl rfl
theorem tf_X11_205 : inT (.fieldLink RX11 205 "HomeRoll$Claims" "terms" "[I") := inT_1 (i := 182) rfl rfl
theorem tf_X0_18 : inT (.fieldLink RX0 18 "HomeRoll$Claims" "count" "I") := inT_1 (i := 183) rfl rfl
theorem tf_X11_244 : inT (.fieldLink RX11 244 "HomeRoll$Claims" "count" "I") := inT_1 (i := 184) rfl rfl
theorem ti_X8_init : inT (.instanceMethod yX8_init) := inT_1 (i := 195) rfl rfl
theorem tc_X8_init : inT (.code yX8_init cX8_init 1 none) := inT_1 (i := 196) rfl rfl
theorem tf_X8_9 : inT (.fieldLink RX8 9 "HomeRoll$Tape" "bytes" "[B") := inT_1 (i := 198) rfl rfl
theorem tf_X11_174 : inT (.fieldLink RX11 174 "HomeRoll$Tape" "bytes" "[B") := inT_1 (i := 199) rfl rfl
theorem tf_X8_13 : inT (.fieldLink RX8 13 "HomeRoll$Tape" "length" "I") := inT_1 (i := 200) rfl rfl
theorem tf_X11_168 : inT (.fieldLink RX11 168 "HomeRoll$Tape" "length" "I") := inT_1 (i := 201) rfl rfl
theorem ti_X9_init : inT (.instanceMethod yX9_init) := inT_1 (i := 211) rfl rfl
theorem tc_X9_init : inT (.code yX9_init cX9_init 1 none) := inT_1 (i := 212) rfl rfl
theorem tf_X9_11 : inT (.fieldLink RX9 11 "HomeRoll$Tokens" "kinds" "[B") := inT_1 (i := 214) rfl rfl
theorem tf_X4_60 : inT (.fieldLink RX4 60 "HomeRoll$Tokens" "kinds" "[B") := inT_1 (i := 215) rfl rfl
theorem tf_X9_17 : inT (.fieldLink RX9 17 "HomeRoll$Tokens" "places" "[S") := inT_1 (i := 216) rfl rfl
theorem tf_X4_68 : inT (.fieldLink RX4 68 "HomeRoll$Tokens" "places" "[S") := inT_1 (i := 217) rfl rfl
theorem tf_X9_21 : inT (.fieldLink RX9 21 "HomeRoll$Tokens" "numbers" "[I") := inT_1 (i := 218) rfl rfl
theorem tf_X4_64 : inT (.fieldLink RX4 64 "HomeRoll$Tokens" "numbers" "[I") := inT_1 (i := 219) rfl rfl
theorem tf_X9_25 : inT (.fieldLink RX9 25 "HomeRoll$Tokens" "count" "I") := inT_1 (i := 220) rfl rfl
theorem tf_X4_57 : inT (.fieldLink RX4 57 "HomeRoll$Tokens" "count" "I") := inT_1 (i := 221) rfl rfl
theorem tm_X11_75 : inT (.methodLink RX11 75 yX4_init) := inT_1 (i := 234) rfl rfl
theorem ti_X4_init : inT (.instanceMethod yX4_init) := inT_1 (i := 235) rfl rfl
theorem tc_X4_init : inT (.code yX4_init cX4_init 2 none) := inT_1 (i := 236) rfl rfl
theorem ti_X2_init : inT (.instanceMethod yX2_init) := inT_2 (i := 1) rfl rfl
theorem tc_X2_init : inT (.code yX2_init cX2_init 1 none) := inT_2 (i := 2) rfl rfl
theorem tf_X2_11 : inT (.fieldLink RX2 11 "HomeRoll$Law" "steps" "[I") := inT_2 (i := 4) rfl rfl
theorem tf_X2_17 : inT (.fieldLink RX2 17 "HomeRoll$Law" "lineEnds" "[I") := inT_2 (i := 5) rfl rfl
theorem tf_X2_20 : inT (.fieldLink RX2 20 "HomeRoll$Law" "rulings" "[I") := inT_2 (i := 6) rfl rfl
theorem tf_X11_212 : inT (.fieldLink RX11 212 "HomeRoll$Law" "rulings" "[I") := inT_2 (i := 7) rfl rfl
theorem tf_X2_23 : inT (.fieldLink RX2 23 "HomeRoll$Law" "percents" "[I") := inT_2 (i := 8) rfl rfl
theorem tf_X11_215 : inT (.fieldLink RX11 215 "HomeRoll$Law" "percents" "[I") := inT_2 (i := 9) rfl rfl
theorem tf_X2_26 : inT (.fieldLink RX2 26 "HomeRoll$Law" "waiting" "[I") := inT_2 (i := 10) rfl rfl
theorem tf_X2_29 : inT (.fieldLink RX2 29 "HomeRoll$Law" "size" "I") := inT_2 (i := 11) rfl rfl
theorem tf_X2_33 : inT (.fieldLink RX2 33 "HomeRoll$Law" "lines" "I") := inT_2 (i := 12) rfl rfl
theorem tf_X11_189 : inT (.fieldLink RX11 189 "HomeRoll$Law" "lines" "I") := inT_2 (i := 13) rfl rfl
theorem tf_X4_39 : inT (.fieldLink RX4 39 "HomeRoll$Parser" "tokens" "LHomeRoll$Tokens;") := inT_2 (i := 29) rfl rfl
theorem tf_X4_12 : inT (.fieldLink RX4 12 "HomeRoll$Parser" "draft" "LHomeRoll$Law;") := inT_2 (i := 30) rfl rfl
theorem tf_X11_186 : inT (.fieldLink RX11 186 "HomeRoll$Parser" "draft" "LHomeRoll$Law;") := inT_2 (i := 31) rfl rfl
theorem tf_X4_18 : inT (.fieldLink RX4 18 "HomeRoll$Parser" "faultFound" "I") := inT_2 (i := 32) rfl rfl
theorem tf_X11_192 : inT (.fieldLink RX11 192 "HomeRoll$Parser" "faultFound" "I") := inT_2 (i := 33) rfl rfl
theorem tf_X4_22 : inT (.fieldLink RX4 22 "HomeRoll$Parser" "faultPlace" "I") := inT_2 (i := 34) rfl rfl
theorem tf_X11_195 : inT (.fieldLink RX11 195 "HomeRoll$Parser" "faultPlace" "I") := inT_2 (i := 35) rfl rfl
theorem tf_X4_25 : inT (.fieldLink RX4 25 "HomeRoll$Parser" "next" "I") := inT_2 (i := 36) rfl rfl
theorem tf_X4_30 : inT (.fieldLink RX4 30 "HomeRoll$Parser" "kind" "I") := inT_2 (i := 37) rfl rfl
theorem tf_X4_33 : inT (.fieldLink RX4 33 "HomeRoll$Parser" "number" "I") := inT_2 (i := 38) rfl rfl
theorem tf_X4_36 : inT (.fieldLink RX4 36 "HomeRoll$Parser" "termCount" "I") := inT_2 (i := 39) rfl rfl
theorem ti_X7_init : inT (.instanceMethod yX7_init) := inT_2 (i := 60) rfl rfl
theorem tc_X7_init : inT (.code yX7_init cX7_init 1 none) := inT_2 (i := 61) rfl rfl
theorem tf_X7_11 : inT (.fieldLink RX7 11 "HomeRoll$Swaps" "joys" "[I") := inT_2 (i := 63) rfl rfl
theorem tf_X7_17 : inT (.fieldLink RX7 17 "HomeRoll$Swaps" "given" "[I") := inT_2 (i := 64) rfl rfl
theorem tf_X11_239 : inT (.fieldLink RX11 239 "HomeRoll$Swaps" "given" "[I") := inT_2 (i := 65) rfl rfl
theorem tf_X7_20 : inT (.fieldLink RX7 20 "HomeRoll$Swaps" "greatest" "[I") := inT_2 (i := 66) rfl rfl
theorem tf_X11_236 : inT (.fieldLink RX11 236 "HomeRoll$Swaps" "greatest" "[I") := inT_2 (i := 67) rfl rfl
theorem tf_X7_23 : inT (.fieldLink RX7 23 "HomeRoll$Swaps" "houses" "I") := inT_2 (i := 68) rfl rfl
theorem tf_X7_27 : inT (.fieldLink RX7 27 "HomeRoll$Swaps" "told" "I") := inT_2 (i := 69) rfl rfl
theorem tf_X11_245 : inT (.fieldLink RX11 245 "HomeRoll$Swaps" "told" "I") := inT_2 (i := 70) rfl rfl
theorem tf_X7_30 : inT (.fieldLink RX7 30 "HomeRoll$Swaps" "settled" "Z") := inT_2 (i := 71) rfl rfl
theorem tf_X11_10 : inT (.fieldLink RX11 10 "HomeRoll" "people" "LHomeRoll$People;") := inT_2 (i := 87) rfl rfl
theorem tf_X11_21 : inT (.fieldLink RX11 21 "HomeRoll" "shares" "LHomeRoll$Shares;") := inT_2 (i := 88) rfl rfl
theorem tf_X11_28 : inT (.fieldLink RX11 28 "HomeRoll" "houses" "LHomeRoll$Houses;") := inT_2 (i := 89) rfl rfl
theorem tf_X11_32 : inT (.fieldLink RX11 32 "HomeRoll" "levels" "[I") := inT_2 (i := 90) rfl rfl
theorem tf_X11_39 : inT (.fieldLink RX11 39 "HomeRoll" "papers" "LHomeRoll$Papers;") := inT_2 (i := 91) rfl rfl
theorem tf_X11_48 : inT (.fieldLink RX11 48 "HomeRoll" "trail" "LHomeRoll$Trail;") := inT_2 (i := 92) rfl rfl
theorem tf_X11_55 : inT (.fieldLink RX11 55 "HomeRoll" "claims" "LHomeRoll$Claims;") := inT_2 (i := 93) rfl rfl
theorem tf_X11_62 : inT (.fieldLink RX11 62 "HomeRoll" "tape" "LHomeRoll$Tape;") := inT_2 (i := 94) rfl rfl
theorem tf_X11_69 : inT (.fieldLink RX11 69 "HomeRoll" "tokens" "LHomeRoll$Tokens;") := inT_2 (i := 95) rfl rfl
theorem tf_X11_78 : inT (.fieldLink RX11 78 "HomeRoll" "parser" "LHomeRoll$Parser;") := inT_2 (i := 96) rfl rfl
theorem tf_X11_85 : inT (.fieldLink RX11 85 "HomeRoll" "swaps" "LHomeRoll$Swaps;") := inT_2 (i := 97) rfl rfl
theorem tf_X11_92 : inT (.fieldLink RX11 92 "HomeRoll" "inForce" "LHomeRoll$Law;") := inT_2 (i := 98) rfl rfl
theorem tf_X11_96 : inT (.fieldLink RX11 96 "HomeRoll" "today" "I") := inT_2 (i := 99) rfl rfl
theorem tm_L_13 : inT (.methodLink RL 13 yX11_person) := inT_2 (i := 127) rfl rfl
theorem ti_X11_person : inT (.instanceMethod yX11_person) := inT_2 (i := 128) rfl rfl
theorem tse_X11_person : inT (.selects RX11 yX11_person yX11_person) := inT_2 (i := 129) rfl rfl
theorem tc_X11_person : inT (.code yX11_person cX11_person 3 (some .int)) := inT_2 (i := 130) rfl rfl
theorem tm_X11_100 : inT (.methodLink RX11 100 yX5_add) := inT_2 (i := 131) rfl rfl
theorem ti_X5_add : inT (.instanceMethod yX5_add) := inT_2 (i := 132) rfl rfl
theorem tse_X5_add : inT (.selects RX5 yX5_add yX5_add) := inT_2 (i := 133) rfl rfl
theorem tc_X5_add : inT (.code yX5_add cX5_add 3 (some .int)) := inT_2 (i := 134) rfl rfl
theorem tm_X5_25 : inT (.methodLink RX5 25 yX5_canBeParent) := inT_2 (i := 135) rfl rfl
theorem ti_X5_canBeParent : inT (.instanceMethod yX5_canBeParent) := inT_2 (i := 136) rfl rfl
theorem tse_X5_canBeParent : inT (.selects RX5 yX5_canBeParent yX5_canBeParent) := inT_2 (i := 137) rfl rfl
theorem tc_X5_canBeParent : inT (.code yX5_canBeParent cX5_canBeParent 2 (some .boolean)) := inT_2 (i := 138) rfl rfl
theorem tm_X5_29 : inT (.methodLink RX5 29 yX5_has) := inT_2 (i := 139) rfl rfl
theorem ti_X5_has : inT (.instanceMethod yX5_has) := inT_2 (i := 140) rfl rfl
theorem tse_X5_has : inT (.selects RX5 yX5_has yX5_has) := inT_2 (i := 141) rfl rfl
theorem tc_X5_has : inT (.code yX5_has cX5_has 2 (some .boolean)) := inT_2 (i := 142) rfl rfl
theorem tm_L_18 : inT (.methodLink RL 18 yX11_dead) := inT_2 (i := 143) rfl rfl
theorem ti_X11_dead : inT (.instanceMethod yX11_dead) := inT_2 (i := 144) rfl rfl
theorem tse_X11_dead : inT (.selects RX11 yX11_dead yX11_dead) := inT_2 (i := 145) rfl rfl
theorem tc_X11_dead : inT (.code yX11_dead cX11_dead 3 (some .boolean)) := inT_2 (i := 146) rfl rfl
theorem tm_X11_104 : inT (.methodLink RX11 104 yX11_isDay) := inT_2 (i := 147) rfl rfl
theorem tst_X11_isDay : inT (.static yX11_isDay) := inT_2 (i := 148) rfl rfl
theorem tc_X11_isDay : inT (.code yX11_isDay cX11_isDay 1 (some .boolean)) := inT_2 (i := 149) rfl rfl
theorem tk_X11_146 : inT (.constant RX11 146 (36499)) := inT_2 (i := 150) rfl rfl
theorem tm_X11_108 : inT (.methodLink RX11 108 yX5_tellDeath) := inT_2 (i := 151) rfl rfl
theorem ti_X5_tellDeath : inT (.instanceMethod yX5_tellDeath) := inT_2 (i := 152) rfl rfl
theorem tse_X5_tellDeath : inT (.selects RX5 yX5_tellDeath yX5_tellDeath) := inT_2 (i := 153) rfl rfl
theorem tc_X5_tellDeath : inT (.code yX5_tellDeath cX5_tellDeath 3 (some .boolean)) := inT_2 (i := 154) rfl rfl
theorem tm_L_23 : inT (.methodLink RL 23 yX11_house) := inT_2 (i := 155) rfl rfl
theorem ti_X11_house : inT (.instanceMethod yX11_house) := inT_2 (i := 156) rfl rfl
theorem tse_X11_house : inT (.selects RX11 yX11_house yX11_house) := inT_2 (i := 157) rfl rfl
theorem tc_X11_house : inT (.code yX11_house cX11_house 4 (some .int)) := inT_2 (i := 158) rfl rfl
theorem tm_X11_112 : inT (.methodLink RX11 112 yX5_has) := inT_2 (i := 159) rfl rfl
theorem tm_X11_115 : inT (.methodLink RX11 115 yX11_isMoney) := inT_2 (i := 160) rfl rfl
theorem tst_X11_isMoney : inT (.static yX11_isMoney) := inT_2 (i := 161) rfl rfl
theorem tc_X11_isMoney : inT (.code yX11_isMoney cX11_isMoney 1 (some .boolean)) := inT_2 (i := 162) rfl rfl
theorem tk_X11_248 : inT (.constant RX11 248 (1000000)) := inT_2 (i := 163) rfl rfl
theorem tm_X11_118 : inT (.methodLink RX11 118 yX1_add) := inT_2 (i := 164) rfl rfl
theorem ti_X1_add : inT (.instanceMethod yX1_add) := inT_2 (i := 165) rfl rfl
theorem tse_X1_add : inT (.selects RX1 yX1_add yX1_add) := inT_2 (i := 166) rfl rfl
theorem tc_X1_add : inT (.code yX1_add cX1_add 3 (some .int)) := inT_2 (i := 167) rfl rfl
theorem tm_X11_122 : inT (.methodLink RX11 122 yX7_reachTo) := inT_2 (i := 168) rfl rfl
theorem ti_X7_reachTo : inT (.instanceMethod yX7_reachTo) := inT_2 (i := 169) rfl rfl
theorem tse_X7_reachTo : inT (.selects RX7 yX7_reachTo yX7_reachTo) := inT_2 (i := 170) rfl rfl
theorem tc_X7_reachTo : inT (.code yX7_reachTo cX7_reachTo 2 none) := inT_2 (i := 171) rfl rfl
theorem tm_L_27 : inT (.methodLink RL 27 yX11_level) := inT_2 (i := 172) rfl rfl
theorem ti_X11_level : inT (.instanceMethod yX11_level) := inT_2 (i := 173) rfl rfl
theorem tse_X11_level : inT (.selects RX11 yX11_level yX11_level) := inT_2 (i := 174) rfl rfl
theorem tc_X11_level : inT (.code yX11_level cX11_level 3 (some .boolean)) := inT_2 (i := 175) rfl rfl
theorem tm_X11_126 : inT (.methodLink RX11 126 yX11_isYear) := inT_2 (i := 176) rfl rfl
theorem tst_X11_isYear : inT (.static yX11_isYear) := inT_2 (i := 177) rfl rfl
theorem tc_X11_isYear : inT (.code yX11_isYear cX11_isYear 1 (some .boolean)) := inT_2 (i := 178) rfl rfl
theorem tm_L_31 : inT (.methodLink RL 31 yX11_money) := inT_2 (i := 179) rfl rfl
theorem ti_X11_money : inT (.instanceMethod yX11_money) := inT_2 (i := 180) rfl rfl
theorem tse_X11_money : inT (.selects RX11 yX11_money yX11_money) := inT_2 (i := 181) rfl rfl
theorem tc_X11_money : inT (.code yX11_money cX11_money 4 (some .long)) := inT_2 (i := 182) rfl rfl
theorem tm_X11_129 : inT (.methodLink RX11 129 yX11_convert) := inT_2 (i := 183) rfl rfl
theorem ti_X11_convert : inT (.instanceMethod yX11_convert) := inT_2 (i := 185) rfl rfl
theorem tc_X11_convert : inT (.code yX11_convert cX11_convert 4 (some .long)) := inT_2 (i := 186) rfl rfl
theorem tl_X11_133 : inT (.constantLong RX11 133 (-1)) := inT_2 (i := 187) rfl rfl
theorem tm_L_36 : inT (.methodLink RL 36 yX11_paper) := inT_2 (i := 188) rfl rfl
theorem ti_X11_paper : inT (.instanceMethod yX11_paper) := inT_2 (i := 189) rfl rfl
theorem tse_X11_paper : inT (.selects RX11 yX11_paper yX11_paper) := inT_2 (i := 190) rfl rfl
theorem tc_X11_paper : inT (.code yX11_paper cX11_paper 8 (some .int)) := inT_2 (i := 191) rfl rfl
theorem tm_X11_135 : inT (.methodLink RX11 135 yX1_has) := inT_2 (i := 192) rfl rfl
theorem ti_X1_has : inT (.instanceMethod yX1_has) := inT_2 (i := 193) rfl rfl
theorem tse_X1_has : inT (.selects RX1 yX1_has yX1_has) := inT_2 (i := 194) rfl rfl
theorem tc_X1_has : inT (.code yX1_has cX1_has 2 (some .boolean)) := inT_2 (i := 195) rfl rfl
theorem tm_X11_136 : inT (.methodLink RX11 136 yX3_add) := inT_2 (i := 196) rfl rfl
theorem ti_X3_add : inT (.instanceMethod yX3_add) := inT_2 (i := 197) rfl rfl
theorem tse_X3_add : inT (.selects RX3 yX3_add yX3_add) := inT_2 (i := 198) rfl rfl
theorem tc_X3_add : inT (.code yX3_add cX3_add 6 (some .int)) := inT_2 (i := 199) rfl rfl
theorem tm_X3_43 : inT (.methodLink RX3 43 yX3_putInOrder) := inT_2 (i := 200) rfl rfl
theorem ti_X3_putInOrder : inT (.instanceMethod yX3_putInOrder) := inT_2 (i := 202) rfl rfl
theorem tc_X3_putInOrder : inT (.code yX3_putInOrder cX3_putInOrder 4 none) := inT_2 (i := 203) rfl rfl
theorem tm_X11_139 : inT (.methodLink RX11 139 yX3_describe) := inT_2 (i := 204) rfl rfl
theorem ti_X3_describe : inT (.instanceMethod yX3_describe) := inT_2 (i := 205) rfl rfl
theorem tse_X3_describe : inT (.selects RX3 yX3_describe yX3_describe) := inT_2 (i := 206) rfl rfl
theorem tc_X3_describe : inT (.code yX3_describe cX3_describe 5 none) := inT_2 (i := 207) rfl rfl
theorem tm_X3_47 : inT (.methodLink RX3 47 yX3_has) := inT_2 (i := 208) rfl rfl
theorem ti_X3_has : inT (.instanceMethod yX3_has) := inT_2 (i := 209) rfl rfl
theorem tse_X3_has : inT (.selects RX3 yX3_has yX3_has) := inT_2 (i := 210) rfl rfl
theorem tc_X3_has : inT (.code yX3_has cX3_has 2 (some .boolean)) := inT_2 (i := 211) rfl rfl
theorem tm_L_41 : inT (.methodLink RL 41 yX11_isFalse) := inT_2 (i := 212) rfl rfl
theorem ti_X11_isFalse : inT (.instanceMethod yX11_isFalse) := inT_2 (i := 213) rfl rfl
theorem tse_X11_isFalse : inT (.selects RX11 yX11_isFalse yX11_isFalse) := inT_2 (i := 214) rfl rfl
theorem tc_X11_isFalse : inT (.code yX11_isFalse cX11_isFalse 2 (some .boolean)) := inT_2 (i := 215) rfl rfl
theorem tm_X11_143 : inT (.methodLink RX11 143 yX3_revoke) := inT_2 (i := 216) rfl rfl
theorem ti_X3_revoke : inT (.instanceMethod yX3_revoke) := inT_2 (i := 217) rfl rfl
theorem tse_X3_revoke : inT (.selects RX3 yX3_revoke yX3_revoke) := inT_2 (i := 218) rfl rfl
theorem tc_X3_revoke : inT (.code yX3_revoke cX3_revoke 3 (some .boolean)) := inT_2 (i := 219) rfl rfl
theorem tm_L_46 : inT (.methodLink RL 46 yX11_later) := inT_2 (i := 220) rfl rfl
theorem ti_X11_later : inT (.instanceMethod yX11_later) := inT_2 (i := 221) rfl rfl
theorem tse_X11_later : inT (.selects RX11 yX11_later yX11_later) := inT_2 (i := 222) rfl rfl
theorem tc_X11_later : inT (.code yX11_later cX11_later 2 (some .int)) := inT_2 (i := 223) rfl rfl
theorem tm_L_51 : inT (.methodLink RL 51 yX11_holder) := inT_2 (i := 224) rfl rfl
theorem ti_X11_holder : inT (.instanceMethod yX11_holder) := inT_2 (i := 225) rfl rfl
theorem tse_X11_holder : inT (.selects RX11 yX11_holder yX11_holder) := inT_2 (i := 226) rfl rfl
theorem tc_X11_holder : inT (.code yX11_holder cX11_holder 4 (some .int)) := inT_2 (i := 227) rfl rfl
theorem tm_X11_147 : inT (.methodLink RX11 147 yX10_follow) := inT_2 (i := 228) rfl rfl
theorem ti_X10_follow : inT (.instanceMethod yX10_follow) := inT_2 (i := 229) rfl rfl
theorem tse_X10_follow : inT (.selects RX10 yX10_follow yX10_follow) := inT_2 (i := 230) rfl rfl
theorem tc_X10_follow : inT (.code yX10_follow cX10_follow 8 none) := inT_2 (i := 231) rfl rfl
theorem tm_X10_33 : inT (.methodLink RX10 33 yX1_has) := inT_2 (i := 232) rfl rfl
theorem tm_X10_56 : inT (.methodLink RX10 56 yX10_movesHouse) := inT_2 (i := 233) rfl rfl
theorem ti_X10_movesHouse : inT (.instanceMethod yX10_movesHouse) := inT_2 (i := 235) rfl rfl
theorem tc_X10_movesHouse : inT (.code yX10_movesHouse cX10_movesHouse 3 (some .boolean)) := inT_2 (i := 236) rfl rfl
theorem tm_X10_63 : inT (.methodLink RX10 63 yX3_countsOn) := inT_2 (i := 237) rfl rfl
theorem ti_X3_countsOn : inT (.instanceMethod yX3_countsOn) := inT_2 (i := 238) rfl rfl
theorem tse_X3_countsOn : inT (.selects RX3 yX3_countsOn yX3_countsOn) := inT_2 (i := 239) rfl rfl
theorem tc_X3_countsOn : inT (.code yX3_countsOn cX3_countsOn 3 (some .boolean)) := inT_3 (i := 0) rfl rfl
theorem tm_L_56 : inT (.methodLink RL 56 yX11_loose) := inT_3 (i := 1) rfl rfl
theorem ti_X11_loose : inT (.instanceMethod yX11_loose) := inT_3 (i := 2) rfl rfl
theorem tse_X11_loose : inT (.selects RX11 yX11_loose yX11_loose) := inT_3 (i := 3) rfl rfl
theorem tc_X11_loose : inT (.code yX11_loose cX11_loose 3 (some .int)) := inT_3 (i := 4) rfl rfl
theorem tm_X11_153 : inT (.methodLink RX11 153 yX3_countsOn) := inT_3 (i := 5) rfl rfl
theorem tm_L_60 : inT (.methodLink RL 60 yX11_feed) := inT_3 (i := 6) rfl rfl
theorem ti_X11_feed : inT (.instanceMethod yX11_feed) := inT_3 (i := 7) rfl rfl
theorem tse_X11_feed : inT (.selects RX11 yX11_feed yX11_feed) := inT_3 (i := 8) rfl rfl
theorem tc_X11_feed : inT (.code yX11_feed cX11_feed 6 (some .int)) := inT_3 (i := 9) rfl rfl
theorem tm_X11_162 : inT (.methodLink RX11 162 yX8_hasRoomFor) := inT_3 (i := 10) rfl rfl
theorem ti_X8_hasRoomFor : inT (.instanceMethod yX8_hasRoomFor) := inT_3 (i := 11) rfl rfl
theorem tse_X8_hasRoomFor : inT (.selects RX8 yX8_hasRoomFor yX8_hasRoomFor) := inT_3 (i := 12) rfl rfl
theorem tc_X8_hasRoomFor : inT (.code yX8_hasRoomFor cX8_hasRoomFor 2 (some .boolean)) := inT_3 (i := 13) rfl rfl
theorem tm_X11_165 : inT (.methodLink RX11 165 yX8_put) := inT_3 (i := 14) rfl rfl
theorem ti_X8_put : inT (.instanceMethod yX8_put) := inT_3 (i := 15) rfl rfl
theorem tse_X8_put : inT (.selects RX8 yX8_put yX8_put) := inT_3 (i := 16) rfl rfl
theorem tc_X8_put : inT (.code yX8_put cX8_put 2 none) := inT_3 (i := 17) rfl rfl
theorem tm_X8_17 : inT (.methodLink RX8 17 yX8_hasRoomFor) := inT_3 (i := 18) rfl rfl
theorem tm_L_65 : inT (.methodLink RL 65 yX11_end) := inT_3 (i := 19) rfl rfl
theorem ti_X11_end : inT (.instanceMethod yX11_end) := inT_3 (i := 20) rfl rfl
theorem tse_X11_end : inT (.selects RX11 yX11_end yX11_end) := inT_3 (i := 21) rfl rfl
theorem tc_X11_end : inT (.code yX11_end cX11_end 2 (some .int)) := inT_3 (i := 22) rfl rfl
theorem tm_X11_171 : inT (.methodLink RX11 171 yX8_cut) := inT_3 (i := 23) rfl rfl
theorem ti_X8_cut : inT (.instanceMethod yX8_cut) := inT_3 (i := 24) rfl rfl
theorem tse_X8_cut : inT (.selects RX8 yX8_cut yX8_cut) := inT_3 (i := 25) rfl rfl
theorem tc_X8_cut : inT (.code yX8_cut cX8_cut 2 (some .boolean)) := inT_3 (i := 26) rfl rfl
theorem tm_L_69 : inT (.methodLink RL 69 yX11_law) := inT_3 (i := 27) rfl rfl
theorem ti_X11_law : inT (.instanceMethod yX11_law) := inT_3 (i := 28) rfl rfl
theorem tse_X11_law : inT (.selects RX11 yX11_law yX11_law) := inT_3 (i := 29) rfl rfl
theorem tc_X11_law : inT (.code yX11_law cX11_law 2 (some .int)) := inT_3 (i := 30) rfl rfl
theorem tm_X11_178 : inT (.methodLink RX11 178 yX9_scan) := inT_3 (i := 31) rfl rfl
theorem ti_X9_scan : inT (.instanceMethod yX9_scan) := inT_3 (i := 32) rfl rfl
theorem tse_X9_scan : inT (.selects RX9 yX9_scan yX9_scan) := inT_3 (i := 33) rfl rfl
theorem tc_X9_scan : inT (.code yX9_scan cX9_scan 6 none) := inT_3 (i := 34) rfl rfl
theorem tm_X9_29 : inT (.methodLink RX9 29 yX9_isBlank) := inT_3 (i := 35) rfl rfl
theorem tst_X9_isBlank : inT (.static yX9_isBlank) := inT_3 (i := 36) rfl rfl
theorem tc_X9_isBlank : inT (.code yX9_isBlank cX9_isBlank 1 (some .boolean)) := inT_3 (i := 37) rfl rfl
theorem tm_X9_33 : inT (.methodLink RX9 33 yX9_scanToken) := inT_3 (i := 38) rfl rfl
theorem ti_X9_scanToken : inT (.instanceMethod yX9_scanToken) := inT_3 (i := 40) rfl rfl
theorem tc_X9_scanToken : inT (.code yX9_scanToken cX9_scanToken 5 (some .int)) := inT_3 (i := 41) rfl rfl
theorem tm_X9_41 : inT (.methodLink RX9 41 yX9_isLetter) := inT_3 (i := 42) rfl rfl
theorem tst_X9_isLetter : inT (.static yX9_isLetter) := inT_3 (i := 43) rfl rfl
theorem tc_X9_isLetter : inT (.code yX9_isLetter cX9_isLetter 1 (some .boolean)) := inT_3 (i := 44) rfl rfl
theorem tm_X9_44 : inT (.methodLink RX9 44 yX9_scanWord) := inT_3 (i := 45) rfl rfl
theorem ti_X9_scanWord : inT (.instanceMethod yX9_scanWord) := inT_3 (i := 47) rfl rfl
theorem tc_X9_scanWord : inT (.code yX9_scanWord cX9_scanWord 8 (some .int)) := inT_3 (i := 48) rfl rfl
theorem tm_X9_63 : inT (.methodLink RX9 63 yX9_rowOf) := inT_3 (i := 50) rfl rfl
theorem tst_X9_rowOf : inT (.static yX9_rowOf) := inT_3 (i := 51) rfl rfl
theorem tc_X9_rowOf : inT (.code yX9_rowOf cX9_rowOf 5 (some .int)) := inT_3 (i := 52) rfl rfl
theorem tm_X9_69 : inT (.methodLink RX9 69 yJ0_length_8abf5) := inT_3 (i := 53) rfl rfl
theorem ti_J0_length_8abf5 : inT (.instanceMethod yJ0_length_8abf5) := inT_3 (i := 54) rfl rfl
theorem tse_J0_length_8abf5 : inT (.selects RJ0 yJ0_length_8abf5 yJ0_length_8abf5) := inT_3 (i := 55) rfl rfl
theorem tc_J0_length_8abf5 : inT (.code yJ0_length_8abf5 cJ0_length_8abf5 1 (some .int)) := inT_3 (i := 56) rfl rfl
theorem tm_J0_335 : inT (.methodLink RJ0 335 yJ0_coder_7d493) := inT_3 (i := 57) rfl rfl
theorem ti_J0_coder_7d493 : inT (.instanceMethod yJ0_coder_7d493) := inT_3 (i := 58) rfl rfl
theorem tse_J0_coder_7d493 : inT (.selects RJ0 yJ0_coder_7d493 yJ0_coder_7d493) := inT_3 (i := 59) rfl rfl
theorem tc_J0_coder_7d493 : inT (.code yJ0_coder_7d493 cJ0_coder_7d493 1 (some .byte)) := inT_3 (i := 60) rfl rfl
theorem tf_J0_38 : inT (.fieldLink RJ0 38 "java/lang/String" "COMPACT_STRINGS" "Z") := inT_3 (i := 61) rfl rfl
theorem tm_X9_73 : inT (.methodLink RX9 73 yX9_isWord) := inT_3 (i := 63) rfl rfl
theorem tst_X9_isWord : inT (.static yX9_isWord) := inT_3 (i := 64) rfl rfl
theorem tc_X9_isWord : inT (.code yX9_isWord cX9_isWord 7 (some .boolean)) := inT_3 (i := 65) rfl rfl
theorem tm_X9_77 : inT (.methodLink RX9 77 yJ0_charAt_5068e) := inT_3 (i := 66) rfl rfl
theorem ti_J0_charAt_5068e : inT (.instanceMethod yJ0_charAt_5068e) := inT_3 (i := 67) rfl rfl
theorem tse_J0_charAt_5068e : inT (.selects RJ0 yJ0_charAt_5068e yJ0_charAt_5068e) := inT_3 (i := 68) rfl rfl
theorem tc_J0_charAt_5068e : inT (.code yJ0_charAt_5068e cJ0_charAt_5068e 2 (some .char)) := inT_3 (i := 69) rfl rfl
theorem tm_J0_492 : inT (.methodLink RJ0 492 yJ0_isLatin1_aae02) := inT_3 (i := 70) rfl rfl
theorem ti_J0_isLatin1_aae02 : inT (.instanceMethod yJ0_isLatin1_aae02) := inT_3 (i := 71) rfl rfl
theorem tse_J0_isLatin1_aae02 : inT (.selects RJ0 yJ0_isLatin1_aae02 yJ0_isLatin1_aae02) := inT_3 (i := 72) rfl rfl
theorem tc_J0_isLatin1_aae02 : inT (.code yJ0_isLatin1_aae02 cJ0_isLatin1_aae02 1 (some .boolean)) := inT_3 (i := 73) rfl rfl
theorem tm_J0_495 : inT (.methodLink RJ0 495 yJ1_charAt_3b067) := inT_3 (i := 74) rfl rfl
theorem tst_J1_charAt_3b067 : inT (.static yJ1_charAt_3b067) := inT_3 (i := 75) rfl rfl
theorem tc_J1_charAt_3b067 : inT (.code yJ1_charAt_3b067 cJ1_charAt_3b067 2 (some .char)) := inT_3 (i := 76) rfl rfl
theorem tm_J1_9 : inT (.methodLink RJ1 9 yJ0_checkIndex_df160) := inT_3 (i := 77) rfl rfl
theorem tst_J0_checkIndex_df160 : inT (.static yJ0_checkIndex_df160) := inT_3 (i := 78) rfl rfl
theorem tc_J0_checkIndex_df160 : inT (.code yJ0_checkIndex_df160 cJ0_checkIndex_df160 2 none) := inT_3 (i := 79) rfl rfl
theorem tf_J0_1053 : inT (.fieldLink RJ0 1053 "jdk/internal/util/Preconditions" "SIOOBE_FORMATTER" "Ljava/util/function/BiFunction;") := inT_3 (i := 80) rfl rfl
theorem tm_J0_1059 : inT (.methodLink RJ0 1059 yJ3_checkIndex_8e157) := inT_3 (i := 82) rfl rfl
theorem tst_J3_checkIndex_8e157 : inT (.static yJ3_checkIndex_8e157) := inT_3 (i := 83) rfl rfl
theorem tc_J3_checkIndex_8e157 : inT (.code yJ3_checkIndex_8e157 cJ3_checkIndex_8e157 3 (some .int)) := inT_3 (i := 84) rfl rfl
theorem tm_J0_498 : inT (.methodLink RJ0 498 yJ2_charAt_3b067) := inT_3 (i := 85) rfl rfl
theorem tst_J2_charAt_3b067 : inT (.static yJ2_charAt_3b067) := inT_3 (i := 86) rfl rfl
theorem tc_J2_charAt_3b067 : inT (.code yJ2_charAt_3b067 cJ2_charAt_3b067 2 (some .char)) := inT_3 (i := 87) rfl rfl
theorem tm_J2_67 : inT (.methodLink RJ2 67 yJ2_checkIndex_2214a) := inT_3 (i := 88) rfl rfl
theorem tst_J2_checkIndex_2214a : inT (.static yJ2_checkIndex_2214a) := inT_3 (i := 89) rfl rfl
theorem tc_J2_checkIndex_2214a : inT (.code yJ2_checkIndex_2214a cJ2_checkIndex_2214a 2 none) := inT_3 (i := 90) rfl rfl
theorem tm_J2_48 : inT (.methodLink RJ2 48 yJ2_length_9d52b) := inT_3 (i := 91) rfl rfl
theorem tst_J2_length_9d52b : inT (.static yJ2_length_9d52b) := inT_3 (i := 92) rfl rfl
theorem tc_J2_length_9d52b : inT (.code yJ2_length_9d52b cJ2_length_9d52b 1 (some .int)) := inT_3 (i := 93) rfl rfl
theorem tm_J2_414 : inT (.methodLink RJ2 414 yJ0_checkIndex_df160) := inT_3 (i := 94) rfl rfl
theorem tm_J2_71 : inT (.methodLink RJ2 71 yJ2_getChar_3b067) := inT_3 (i := 95) rfl rfl
theorem tst_J2_getChar_3b067 : inT (.static yJ2_getChar_3b067) := inT_3 (i := 96) rfl rfl
theorem tc_J2_getChar_3b067 : inT (.code yJ2_getChar_3b067 cJ2_getChar_3b067 2 (some .char)) := inT_3 (i := 97) rfl rfl
theorem tf_J2_44 : inT (.fieldLink RJ2 44 "java/lang/StringUTF16" "$assertionsDisabled" "Z") := inT_3 (i := 98) rfl rfl
theorem tf_J2_59 : inT (.fieldLink RJ2 59 "java/lang/StringUTF16" "HI_BYTE_SHIFT" "I") := inT_3 (i := 100) rfl rfl
theorem tf_J2_63 : inT (.fieldLink RJ2 63 "java/lang/StringUTF16" "LO_BYTE_SHIFT" "I") := inT_3 (i := 102) rfl rfl
theorem tm_X9_37 : inT (.methodLink RX9 37 yX9_add) := inT_3 (i := 105) rfl rfl
theorem ti_X9_add : inT (.instanceMethod yX9_add) := inT_3 (i := 107) rfl rfl
theorem tc_X9_add : inT (.code yX9_add cX9_add 4 none) := inT_3 (i := 108) rfl rfl
theorem tm_X9_47 : inT (.methodLink RX9 47 yX9_isDigit) := inT_3 (i := 109) rfl rfl
theorem tst_X9_isDigit : inT (.static yX9_isDigit) := inT_3 (i := 110) rfl rfl
theorem tc_X9_isDigit : inT (.code yX9_isDigit cX9_isDigit 1 (some .boolean)) := inT_3 (i := 111) rfl rfl
theorem tm_X9_50 : inT (.methodLink RX9 50 yX9_scanNumber) := inT_3 (i := 112) rfl rfl
theorem ti_X9_scanNumber : inT (.instanceMethod yX9_scanNumber) := inT_3 (i := 114) rfl rfl
theorem tc_X9_scanNumber : inT (.code yX9_scanNumber cX9_scanNumber 7 (some .int)) := inT_3 (i := 115) rfl rfl
theorem tm_X9_55 : inT (.methodLink RX9 55 yJ0_indexOf_0f7a4) := inT_3 (i := 117) rfl rfl
theorem ti_J0_indexOf_0f7a4 : inT (.instanceMethod yJ0_indexOf_0f7a4) := inT_3 (i := 118) rfl rfl
theorem tse_J0_indexOf_0f7a4 : inT (.selects RJ0 yJ0_indexOf_0f7a4 yJ0_indexOf_0f7a4) := inT_3 (i := 119) rfl rfl
theorem tc_J0_indexOf_0f7a4 : inT (.code yJ0_indexOf_0f7a4 cJ0_indexOf_0f7a4 2 (some .int)) := inT_3 (i := 120) rfl rfl
theorem tm_J0_633 : inT (.methodLink RJ0 633 yJ0_indexOf_7cf53) := inT_3 (i := 121) rfl rfl
theorem ti_J0_indexOf_7cf53 : inT (.instanceMethod yJ0_indexOf_7cf53) := inT_3 (i := 122) rfl rfl
theorem tse_J0_indexOf_7cf53 : inT (.selects RJ0 yJ0_indexOf_7cf53 yJ0_indexOf_7cf53) := inT_3 (i := 123) rfl rfl
theorem tc_J0_indexOf_7cf53 : inT (.code yJ0_indexOf_7cf53 cJ0_indexOf_7cf53 3 (some .int)) := inT_3 (i := 124) rfl rfl
theorem tm_J0_505 : inT (.methodLink RJ0 505 yJ0_length_8abf5) := inT_3 (i := 125) rfl rfl
theorem tm_J0_637 : inT (.methodLink RJ0 637 yJ1_indexOf_4cfef) := inT_3 (i := 126) rfl rfl
theorem tst_J1_indexOf_4cfef : inT (.static yJ1_indexOf_4cfef) := inT_3 (i := 127) rfl rfl
theorem tc_J1_indexOf_4cfef : inT (.code yJ1_indexOf_4cfef cJ1_indexOf_4cfef 4 (some .int)) := inT_3 (i := 128) rfl rfl
theorem tm_J1_88 : inT (.methodLink RJ1 88 yJ1_canEncode_9a6ad) := inT_3 (i := 129) rfl rfl
theorem tst_J1_canEncode_9a6ad : inT (.static yJ1_canEncode_9a6ad) := inT_3 (i := 130) rfl rfl
theorem tc_J1_canEncode_9a6ad : inT (.code yJ1_canEncode_9a6ad cJ1_canEncode_9a6ad 1 (some .boolean)) := inT_3 (i := 131) rfl rfl
theorem tm_J1_92 : inT (.methodLink RJ1 92 yJ9_max_7cf53) := inT_3 (i := 132) rfl rfl
theorem tst_J9_max_7cf53 : inT (.static yJ9_max_7cf53) := inT_3 (i := 133) rfl rfl
theorem tc_J9_max_7cf53 : inT (.code yJ9_max_7cf53 cJ9_max_7cf53 2 (some .int)) := inT_3 (i := 134) rfl rfl
theorem tm_J1_38 : inT (.methodLink RJ1 38 yJ9_min_7cf53) := inT_3 (i := 135) rfl rfl
theorem tst_J9_min_7cf53 : inT (.static yJ9_min_7cf53) := inT_3 (i := 136) rfl rfl
theorem tc_J9_min_7cf53 : inT (.code yJ9_min_7cf53 cJ9_min_7cf53 2 (some .int)) := inT_3 (i := 137) rfl rfl
theorem tm_J1_95 : inT (.methodLink RJ1 95 yJ1_indexOfChar_4cfef) := inT_3 (i := 138) rfl rfl
theorem tst_J1_indexOfChar_4cfef : inT (.static yJ1_indexOfChar_4cfef) := inT_3 (i := 139) rfl rfl
theorem tc_J1_indexOfChar_4cfef : inT (.code yJ1_indexOfChar_4cfef cJ1_indexOfChar_4cfef 6 (some .int)) := inT_3 (i := 140) rfl rfl
theorem tm_J0_640 : inT (.methodLink RJ0 640 yJ2_indexOf_4cfef) := inT_3 (i := 141) rfl rfl
theorem tst_J2_indexOf_4cfef : inT (.static yJ2_indexOf_4cfef) := inT_3 (i := 142) rfl rfl
theorem tc_J2_indexOf_4cfef : inT (.code yJ2_indexOf_4cfef cJ2_indexOf_4cfef 4 (some .int)) := inT_3 (i := 143) rfl rfl
theorem tm_J2_224 : inT (.methodLink RJ2 224 yJ9_max_7cf53) := inT_3 (i := 144) rfl rfl
theorem tm_J2_183 : inT (.methodLink RJ2 183 yJ9_min_7cf53) := inT_3 (i := 145) rfl rfl
theorem tk_J2_227 : inT (.constant RJ2 227 (65536)) := inT_3 (i := 146) rfl rfl
theorem tm_J2_228 : inT (.methodLink RJ2 228 yJ2_indexOfChar_4cfef) := inT_3 (i := 147) rfl rfl
theorem tst_J2_indexOfChar_4cfef : inT (.static yJ2_indexOfChar_4cfef) := inT_3 (i := 148) rfl rfl
theorem tc_J2_indexOfChar_4cfef : inT (.code yJ2_indexOfChar_4cfef cJ2_indexOfChar_4cfef 4 (some .int)) := inT_3 (i := 149) rfl rfl
theorem tm_J2_96 : inT (.methodLink RJ2 96 yJ2_checkBoundsBeginEnd_d044e) := inT_3 (i := 150) rfl rfl
theorem tst_J2_checkBoundsBeginEnd_d044e : inT (.static yJ2_checkBoundsBeginEnd_d044e) := inT_3 (i := 151) rfl rfl
theorem tc_J2_checkBoundsBeginEnd_d044e : inT (.code yJ2_checkBoundsBeginEnd_d044e cJ2_checkBoundsBeginEnd_d044e 3 none) := inT_3 (i := 152) rfl rfl
theorem tm_J2_241 : inT (.methodLink RJ2 241 yJ0_checkBoundsBeginEnd_23922) := inT_3 (i := 153) rfl rfl
theorem tst_J0_checkBoundsBeginEnd_23922 : inT (.static yJ0_checkBoundsBeginEnd_23922) := inT_3 (i := 154) rfl rfl
theorem tc_J0_checkBoundsBeginEnd_23922 : inT (.code yJ0_checkBoundsBeginEnd_23922 cJ0_checkBoundsBeginEnd_23922 3 none) := inT_3 (i := 155) rfl rfl
theorem tm_J0_1062 : inT (.methodLink RJ0 1062 yJ3_checkFromToIndex_8c36e) := inT_3 (i := 156) rfl rfl
theorem tst_J3_checkFromToIndex_8c36e : inT (.static yJ3_checkFromToIndex_8c36e) := inT_3 (i := 157) rfl rfl
theorem tc_J3_checkFromToIndex_8c36e : inT (.code yJ3_checkFromToIndex_8c36e cJ3_checkFromToIndex_8c36e 4 (some .int)) := inT_3 (i := 158) rfl rfl
theorem tm_J2_244 : inT (.methodLink RJ2 244 yJ2_indexOfCharUnsafe_4cfef) := inT_3 (i := 159) rfl rfl
theorem tst_J2_indexOfCharUnsafe_4cfef : inT (.static yJ2_indexOfCharUnsafe_4cfef) := inT_3 (i := 160) rfl rfl
theorem tc_J2_indexOfCharUnsafe_4cfef : inT (.code yJ2_indexOfCharUnsafe_4cfef cJ2_indexOfCharUnsafe_4cfef 5 (some .int)) := inT_3 (i := 161) rfl rfl
theorem tm_J2_232 : inT (.methodLink RJ2 232 yJ2_indexOfSupplementary_4cfef) := inT_3 (i := 162) rfl rfl
theorem tst_J2_indexOfSupplementary_4cfef : inT (.static yJ2_indexOfSupplementary_4cfef) := inT_3 (i := 163) rfl rfl
theorem tc_J2_indexOfSupplementary_4cfef : inT (.code yJ2_indexOfSupplementary_4cfef cJ2_indexOfSupplementary_4cfef 7 (some .int)) := inT_3 (i := 164) rfl rfl
theorem tm_J2_164 : inT (.methodLink RJ2 164 yJ11_isValidCodePoint_9a6ad) := inT_3 (i := 165) rfl rfl
theorem tst_J11_isValidCodePoint_9a6ad : inT (.static yJ11_isValidCodePoint_9a6ad) := inT_3 (i := 166) rfl rfl
theorem tc_J11_isValidCodePoint_9a6ad : inT (.code yJ11_isValidCodePoint_9a6ad cJ11_isValidCodePoint_9a6ad 2 (some .boolean)) := inT_3 (i := 167) rfl rfl
theorem tm_J2_157 : inT (.methodLink RJ2 157 yJ11_highSurrogate_5068e) := inT_3 (i := 168) rfl rfl
theorem tst_J11_highSurrogate_5068e : inT (.static yJ11_highSurrogate_5068e) := inT_3 (i := 169) rfl rfl
theorem tc_J11_highSurrogate_5068e : inT (.code yJ11_highSurrogate_5068e cJ11_highSurrogate_5068e 1 (some .char)) := inT_3 (i := 170) rfl rfl
theorem tk_J11_110 : inT (.constant RJ11 110 (55232)) := inT_3 (i := 171) rfl rfl
theorem tm_J2_161 : inT (.methodLink RJ2 161 yJ11_lowSurrogate_5068e) := inT_3 (i := 172) rfl rfl
theorem tst_J11_lowSurrogate_5068e : inT (.static yJ11_lowSurrogate_5068e) := inT_3 (i := 173) rfl rfl
theorem tc_J11_lowSurrogate_5068e : inT (.code yJ11_lowSurrogate_5068e cJ11_lowSurrogate_5068e 1 (some .char)) := inT_3 (i := 174) rfl rfl
theorem tk_J11_76 : inT (.constant RJ11 76 (56320)) := inT_3 (i := 175) rfl rfl
theorem tm_X11_182 : inT (.methodLink RX11 182 yX4_parse) := inT_3 (i := 176) rfl rfl
theorem ti_X4_parse : inT (.instanceMethod yX4_parse) := inT_3 (i := 177) rfl rfl
theorem tse_X4_parse : inT (.selects RX4 yX4_parse yX4_parse) := inT_3 (i := 178) rfl rfl
theorem tc_X4_parse : inT (.code yX4_parse cX4_parse 2 (some .boolean)) := inT_3 (i := 179) rfl rfl
theorem tm_X4_43 : inT (.methodLink RX4 43 yX2_clear) := inT_3 (i := 180) rfl rfl
theorem ti_X2_clear : inT (.instanceMethod yX2_clear) := inT_3 (i := 181) rfl rfl
theorem tse_X2_clear : inT (.selects RX2 yX2_clear yX2_clear) := inT_3 (i := 182) rfl rfl
theorem tc_X2_clear : inT (.code yX2_clear cX2_clear 1 none) := inT_3 (i := 183) rfl rfl
theorem tm_X4_46 : inT (.methodLink RX4 46 yX4_moveTo) := inT_3 (i := 184) rfl rfl
theorem ti_X4_moveTo : inT (.instanceMethod yX4_moveTo) := inT_3 (i := 186) rfl rfl
theorem tc_X4_moveTo : inT (.code yX4_moveTo cX4_moveTo 3 none) := inT_3 (i := 187) rfl rfl
theorem tm_X4_50 : inT (.methodLink RX4 50 yX4_parseLine) := inT_3 (i := 188) rfl rfl
theorem ti_X4_parseLine : inT (.instanceMethod yX4_parseLine) := inT_3 (i := 190) rfl rfl
theorem tc_X4_parseLine : inT (.code yX4_parseLine cX4_parseLine 1 (some .boolean)) := inT_3 (i := 191) rfl rfl
theorem tm_X4_72 : inT (.methodLink RX4 72 yX4_take) := inT_3 (i := 192) rfl rfl
theorem ti_X4_take : inT (.instanceMethod yX4_take) := inT_3 (i := 194) rfl rfl
theorem tc_X4_take : inT (.code yX4_take cX4_take 2 (some .boolean)) := inT_3 (i := 195) rfl rfl
theorem tm_X4_54 : inT (.methodLink RX4 54 yX4_refuse) := inT_3 (i := 196) rfl rfl
theorem ti_X4_refuse : inT (.instanceMethod yX4_refuse) := inT_3 (i := 198) rfl rfl
theorem tc_X4_refuse : inT (.code yX4_refuse cX4_refuse 1 (some .boolean)) := inT_3 (i := 199) rfl rfl
theorem tm_X4_76 : inT (.methodLink RX4 76 yX4_parseEither) := inT_3 (i := 200) rfl rfl
theorem ti_X4_parseEither : inT (.instanceMethod yX4_parseEither) := inT_3 (i := 202) rfl rfl
theorem tc_X4_parseEither : inT (.code yX4_parseEither cX4_parseEither 3 (some .boolean)) := inT_3 (i := 203) rfl rfl
theorem tm_X4_86 : inT (.methodLink RX4 86 yX4_parseBoth) := inT_3 (i := 204) rfl rfl
theorem ti_X4_parseBoth : inT (.instanceMethod yX4_parseBoth) := inT_3 (i := 206) rfl rfl
theorem tc_X4_parseBoth : inT (.code yX4_parseBoth cX4_parseBoth 3 (some .boolean)) := inT_3 (i := 207) rfl rfl
theorem tm_X4_92 : inT (.methodLink RX4 92 yX4_parseOne) := inT_3 (i := 208) rfl rfl
theorem ti_X4_parseOne : inT (.instanceMethod yX4_parseOne) := inT_3 (i := 210) rfl rfl
theorem tc_X4_parseOne : inT (.code yX4_parseOne cX4_parseOne 4 (some .boolean)) := inT_3 (i := 211) rfl rfl
theorem tm_X4_89 : inT (.methodLink RX4 89 yX2_write) := inT_3 (i := 212) rfl rfl
theorem ti_X2_write : inT (.instanceMethod yX2_write) := inT_3 (i := 213) rfl rfl
theorem tse_X2_write : inT (.selects RX2 yX2_write yX2_write) := inT_3 (i := 214) rfl rfl
theorem tc_X2_write : inT (.code yX2_write cX2_write 3 none) := inT_3 (i := 215) rfl rfl
theorem tm_X4_95 : inT (.methodLink RX4 95 yX4_parseSum) := inT_3 (i := 216) rfl rfl
theorem ti_X4_parseSum : inT (.instanceMethod yX4_parseSum) := inT_3 (i := 218) rfl rfl
theorem tc_X4_parseSum : inT (.code yX4_parseSum cX4_parseSum 5 (some .boolean)) := inT_3 (i := 219) rfl rfl
theorem tm_X4_79 : inT (.methodLink RX4 79 yX4_parseRuling) := inT_3 (i := 220) rfl rfl
theorem ti_X4_parseRuling : inT (.instanceMethod yX4_parseRuling) := inT_3 (i := 222) rfl rfl
theorem tc_X4_parseRuling : inT (.code yX4_parseRuling cX4_parseRuling 2 (some .boolean)) := inT_3 (i := 223) rfl rfl
theorem tm_X4_82 : inT (.methodLink RX4 82 yX2_closeLine) := inT_3 (i := 224) rfl rfl
theorem ti_X2_closeLine : inT (.instanceMethod yX2_closeLine) := inT_3 (i := 225) rfl rfl
theorem tse_X2_closeLine : inT (.selects RX2 yX2_closeLine yX2_closeLine) := inT_3 (i := 226) rfl rfl
theorem tc_X2_closeLine : inT (.code yX2_closeLine cX2_closeLine 3 none) := inT_3 (i := 227) rfl rfl
theorem tm_L_74 : inT (.methodLink RL 74 yX11_fault) := inT_3 (i := 228) rfl rfl
theorem ti_X11_fault : inT (.instanceMethod yX11_fault) := inT_3 (i := 229) rfl rfl
theorem tse_X11_fault : inT (.selects RX11 yX11_fault yX11_fault) := inT_3 (i := 230) rfl rfl
theorem tc_X11_fault : inT (.code yX11_fault cX11_fault 2 (some .int)) := inT_3 (i := 231) rfl rfl
theorem tm_L_78 : inT (.methodLink RL 78 yX11_claim) := inT_3 (i := 232) rfl rfl
theorem ti_X11_claim : inT (.instanceMethod yX11_claim) := inT_3 (i := 233) rfl rfl
theorem tse_X11_claim : inT (.selects RX11 yX11_claim yX11_claim) := inT_3 (i := 234) rfl rfl
theorem tc_X11_claim : inT (.code yX11_claim cX11_claim 2 (some .int)) := inT_3 (i := 235) rfl rfl
theorem tm_X11_198 : inT (.methodLink RX11 198 yX3_has) := inT_3 (i := 236) rfl rfl
theorem tm_X11_199 : inT (.methodLink RX11 199 yX0_add) := inT_3 (i := 237) rfl rfl
theorem ti_X0_add : inT (.instanceMethod yX0_add) := inT_3 (i := 238) rfl rfl
theorem tse_X0_add : inT (.selects RX0 yX0_add yX0_add) := inT_3 (i := 239) rfl rfl
theorem tc_X0_add : inT (.code yX0_add cX0_add 2 (some .int)) := inT_4 (i := 0) rfl rfl
theorem tm_X0_22 : inT (.methodLink RX0 22 yX0_isClaimed) := inT_4 (i := 1) rfl rfl
theorem ti_X0_isClaimed : inT (.instanceMethod yX0_isClaimed) := inT_4 (i := 3) rfl rfl
theorem tc_X0_isClaimed : inT (.code yX0_isClaimed cX0_isClaimed 3 (some .boolean)) := inT_4 (i := 4) rfl rfl
theorem tm_L_82 : inT (.methodLink RL 82 yX11_ruling) := inT_4 (i := 5) rfl rfl
theorem ti_X11_ruling : inT (.instanceMethod yX11_ruling) := inT_4 (i := 6) rfl rfl
theorem tse_X11_ruling : inT (.selects RX11 yX11_ruling yX11_ruling) := inT_4 (i := 7) rfl rfl
theorem tc_X11_ruling : inT (.code yX11_ruling cX11_ruling 4 (some .int)) := inT_4 (i := 8) rfl rfl
theorem tm_X11_202 : inT (.methodLink RX11 202 yX11_weigh) := inT_4 (i := 9) rfl rfl
theorem ti_X11_weigh : inT (.instanceMethod yX11_weigh) := inT_4 (i := 11) rfl rfl
theorem tc_X11_weigh : inT (.code yX11_weigh cX11_weigh 7 (some .boolean)) := inT_4 (i := 12) rfl rfl
theorem tm_X11_249 : inT (.methodLink RX11 249 yX0_has) := inT_4 (i := 13) rfl rfl
theorem ti_X0_has : inT (.instanceMethod yX0_has) := inT_4 (i := 14) rfl rfl
theorem tse_X0_has : inT (.selects RX0 yX0_has yX0_has) := inT_4 (i := 15) rfl rfl
theorem tc_X0_has : inT (.code yX0_has cX0_has 2 (some .boolean)) := inT_4 (i := 16) rfl rfl
theorem tm_X11_258 : inT (.methodLink RX11 258 yX11_truth) := inT_4 (i := 17) rfl rfl
theorem tst_X11_truth : inT (.static yX11_truth) := inT_4 (i := 18) rfl rfl
theorem tc_X11_truth : inT (.code yX11_truth cX11_truth 1 (some .int)) := inT_4 (i := 19) rfl rfl
theorem tm_X11_262 : inT (.methodLink RX11 262 yX11_priceOfLastYear) := inT_4 (i := 20) rfl rfl
theorem ti_X11_priceOfLastYear : inT (.instanceMethod yX11_priceOfLastYear) := inT_4 (i := 22) rfl rfl
theorem tc_X11_priceOfLastYear : inT (.code yX11_priceOfLastYear cX11_priceOfLastYear 3 (some .int)) := inT_4 (i := 23) rfl rfl
theorem tl_X11_286 : inT (.constantLong RX11 286 (2147483647)) := inT_4 (i := 24) rfl rfl
theorem tm_X11_288 : inT (.methodLink RX11 288 yJ9_min_f86c9) := inT_4 (i := 25) rfl rfl
theorem tst_J9_min_f86c9 : inT (.static yJ9_min_f86c9) := inT_4 (i := 26) rfl rfl
theorem tc_J9_min_f86c9 : inT (.code yJ9_min_f86c9 cJ9_min_f86c9 4 (some .long)) := inT_4 (i := 27) rfl rfl
theorem tm_X11_280 : inT (.methodLink RX11 280 yX5_isDeadOn) := inT_4 (i := 28) rfl rfl
theorem ti_X5_isDeadOn : inT (.instanceMethod yX5_isDeadOn) := inT_4 (i := 29) rfl rfl
theorem tse_X5_isDeadOn : inT (.selects RX5 yX5_isDeadOn yX5_isDeadOn) := inT_4 (i := 30) rfl rfl
theorem tc_X5_isDeadOn : inT (.code yX5_isDeadOn cX5_isDeadOn 3 (some .boolean)) := inT_4 (i := 31) rfl rfl
theorem tm_X11_208 : inT (.methodLink RX11 208 yX2_firstLineThatHolds) := inT_4 (i := 32) rfl rfl
theorem ti_X2_firstLineThatHolds : inT (.instanceMethod yX2_firstLineThatHolds) := inT_4 (i := 33) rfl rfl
theorem tse_X2_firstLineThatHolds : inT (.selects RX2 yX2_firstLineThatHolds yX2_firstLineThatHolds) := inT_4 (i := 34) rfl rfl
theorem tc_X2_firstLineThatHolds : inT (.code yX2_firstLineThatHolds cX2_firstLineThatHolds 4 (some .int)) := inT_4 (i := 35) rfl rfl
theorem tm_X2_36 : inT (.methodLink RX2 36 yX2_valueOf) := inT_4 (i := 36) rfl rfl
theorem ti_X2_valueOf : inT (.instanceMethod yX2_valueOf) := inT_4 (i := 38) rfl rfl
theorem tc_X2_valueOf : inT (.code yX2_valueOf cX2_valueOf 8 (some .int)) := inT_4 (i := 39) rfl rfl
theorem tm_X2_44 : inT (.methodLink RX2 44 yX2_join) := inT_4 (i := 41) rfl rfl
theorem tst_X2_join : inT (.static yX2_join) := inT_4 (i := 42) rfl rfl
theorem tc_X2_join : inT (.code yX2_join cX2_join 3 (some .int)) := inT_4 (i := 43) rfl rfl
theorem tm_L_86 : inT (.methodLink RL 86 yX11_sum) := inT_4 (i := 44) rfl rfl
theorem ti_X11_sum : inT (.instanceMethod yX11_sum) := inT_4 (i := 45) rfl rfl
theorem tse_X11_sum : inT (.selects RX11 yX11_sum yX11_sum) := inT_4 (i := 46) rfl rfl
theorem tc_X11_sum : inT (.code yX11_sum cX11_sum 4 (some .int)) := inT_4 (i := 47) rfl rfl
theorem tm_L_90 : inT (.methodLink RL 90 yX11_term) := inT_4 (i := 48) rfl rfl
theorem ti_X11_term : inT (.instanceMethod yX11_term) := inT_4 (i := 49) rfl rfl
theorem tse_X11_term : inT (.selects RX11 yX11_term yX11_term) := inT_4 (i := 50) rfl rfl
theorem tc_X11_term : inT (.code yX11_term cX11_term 4 (some .int)) := inT_4 (i := 51) rfl rfl
theorem tm_L_94 : inT (.methodLink RL 94 yX11_share) := inT_4 (i := 52) rfl rfl
theorem ti_X11_share : inT (.instanceMethod yX11_share) := inT_4 (i := 53) rfl rfl
theorem tse_X11_share : inT (.selects RX11 yX11_share yX11_share) := inT_4 (i := 54) rfl rfl
theorem tc_X11_share : inT (.code yX11_share cX11_share 5 (some .long)) := inT_4 (i := 55) rfl rfl
theorem tm_X11_218 : inT (.methodLink RX11 218 yX6_divide) := inT_4 (i := 56) rfl rfl
theorem ti_X6_divide : inT (.instanceMethod yX6_divide) := inT_4 (i := 57) rfl rfl
theorem tse_X6_divide : inT (.selects RX6 yX6_divide yX6_divide) := inT_4 (i := 58) rfl rfl
theorem tc_X6_divide : inT (.code yX6_divide cX6_divide 4 none) := inT_4 (i := 59) rfl rfl
theorem tm_X6_31 : inT (.methodLink RX6 31 yX6_findHeirs) := inT_4 (i := 60) rfl rfl
theorem ti_X6_findHeirs : inT (.instanceMethod yX6_findHeirs) := inT_4 (i := 62) rfl rfl
theorem tc_X6_findHeirs : inT (.code yX6_findHeirs cX6_findHeirs 4 none) := inT_4 (i := 63) rfl rfl
theorem tm_X6_46 : inT (.methodLink RX6 46 yX6_isHeir) := inT_4 (i := 64) rfl rfl
theorem ti_X6_isHeir : inT (.instanceMethod yX6_isHeir) := inT_4 (i := 66) rfl rfl
theorem tc_X6_isHeir : inT (.code yX6_isHeir cX6_isHeir 3 (some .boolean)) := inT_4 (i := 67) rfl rfl
theorem tm_X6_49 : inT (.methodLink RX6 49 yX5_isChildOf) := inT_4 (i := 68) rfl rfl
theorem ti_X5_isChildOf : inT (.instanceMethod yX5_isChildOf) := inT_4 (i := 69) rfl rfl
theorem tse_X5_isChildOf : inT (.selects RX5 yX5_isChildOf yX5_isChildOf) := inT_4 (i := 70) rfl rfl
theorem tc_X5_isChildOf : inT (.code yX5_isChildOf cX5_isChildOf 3 (some .boolean)) := inT_4 (i := 71) rfl rfl
theorem tm_X6_39 : inT (.methodLink RX6 39 yX5_isDeadOn) := inT_4 (i := 72) rfl rfl
theorem tm_X6_43 : inT (.methodLink RX6 43 yX6_handOn) := inT_4 (i := 73) rfl rfl
theorem ti_X6_handOn : inT (.instanceMethod yX6_handOn) := inT_4 (i := 75) rfl rfl
theorem tc_X6_handOn : inT (.code yX6_handOn cX6_handOn 5 none) := inT_4 (i := 76) rfl rfl
theorem tm_X11_222 : inT (.methodLink RX11 222 yX6_numerator) := inT_4 (i := 77) rfl rfl
theorem ti_X6_numerator : inT (.instanceMethod yX6_numerator) := inT_4 (i := 78) rfl rfl
theorem tse_X6_numerator : inT (.selects RX6 yX6_numerator yX6_numerator) := inT_4 (i := 79) rfl rfl
theorem tc_X6_numerator : inT (.code yX6_numerator cX6_numerator 4 (some .long)) := inT_4 (i := 80) rfl rfl
theorem tm_X6_52 : inT (.methodLink RX6 52 yX6_commonDivisor) := inT_4 (i := 81) rfl rfl
theorem tst_X6_commonDivisor : inT (.static yX6_commonDivisor) := inT_4 (i := 82) rfl rfl
theorem tc_X6_commonDivisor : inT (.code yX6_commonDivisor cX6_commonDivisor 11 (some .long)) := inT_4 (i := 83) rfl rfl
theorem tm_X11_226 : inT (.methodLink RX11 226 yX6_denominator) := inT_4 (i := 84) rfl rfl
theorem ti_X6_denominator : inT (.instanceMethod yX6_denominator) := inT_4 (i := 85) rfl rfl
theorem tse_X6_denominator : inT (.selects RX6 yX6_denominator yX6_denominator) := inT_4 (i := 86) rfl rfl
theorem tc_X6_denominator : inT (.code yX6_denominator cX6_denominator 4 (some .long)) := inT_4 (i := 87) rfl rfl
theorem tm_L_99 : inT (.methodLink RL 99 yX11_want) := inT_4 (i := 88) rfl rfl
theorem ti_X11_want : inT (.instanceMethod yX11_want) := inT_4 (i := 89) rfl rfl
theorem tse_X11_want : inT (.selects RX11 yX11_want yX11_want) := inT_4 (i := 90) rfl rfl
theorem tc_X11_want : inT (.code yX11_want cX11_want 4 (some .int)) := inT_4 (i := 91) rfl rfl
theorem tm_X11_229 : inT (.methodLink RX11 229 yX7_tell) := inT_4 (i := 92) rfl rfl
theorem ti_X7_tell : inT (.instanceMethod yX7_tell) := inT_4 (i := 93) rfl rfl
theorem tse_X7_tell : inT (.selects RX7 yX7_tell yX7_tell) := inT_4 (i := 94) rfl rfl
theorem tc_X7_tell : inT (.code yX7_tell cX7_tell 4 (some .int)) := inT_4 (i := 95) rfl rfl
theorem tm_L_103 : inT (.methodLink RL 103 yX11_joy) := inT_4 (i := 96) rfl rfl
theorem ti_X11_joy : inT (.instanceMethod yX11_joy) := inT_4 (i := 97) rfl rfl
theorem tse_X11_joy : inT (.selects RX11 yX11_joy yX11_joy) := inT_4 (i := 98) rfl rfl
theorem tc_X11_joy : inT (.code yX11_joy cX11_joy 1 (some .int)) := inT_4 (i := 99) rfl rfl
theorem tm_X11_233 : inT (.methodLink RX11 233 yX7_settle) := inT_4 (i := 100) rfl rfl
theorem ti_X7_settle : inT (.instanceMethod yX7_settle) := inT_4 (i := 101) rfl rfl
theorem tse_X7_settle : inT (.selects RX7 yX7_settle yX7_settle) := inT_4 (i := 102) rfl rfl
theorem tc_X7_settle : inT (.code yX7_settle cX7_settle 3 none) := inT_4 (i := 103) rfl rfl
theorem tm_X7_34 : inT (.methodLink RX7 34 yX7_greatestBehind) := inT_4 (i := 104) rfl rfl
theorem ti_X7_greatestBehind : inT (.instanceMethod yX7_greatestBehind) := inT_4 (i := 106) rfl rfl
theorem tc_X7_greatestBehind : inT (.code yX7_greatestBehind cX7_greatestBehind 4 (some .int)) := inT_4 (i := 107) rfl rfl
theorem tm_X7_41 : inT (.methodLink RX7 41 yX7_joyWith) := inT_4 (i := 108) rfl rfl
theorem ti_X7_joyWith : inT (.instanceMethod yX7_joyWith) := inT_4 (i := 110) rfl rfl
theorem tc_X7_joyWith : inT (.code yX7_joyWith cX7_joyWith 6 (some .int)) := inT_4 (i := 111) rfl rfl
theorem tm_X7_50 : inT (.methodLink RX7 50 yJ6_bitCount_0f7a4) := inT_4 (i := 112) rfl rfl
theorem tst_J6_bitCount_0f7a4 : inT (.static yJ6_bitCount_0f7a4) := inT_4 (i := 113) rfl rfl
theorem tc_J6_bitCount_0f7a4 : inT (.code yJ6_bitCount_0f7a4 cJ6_bitCount_0f7a4 1 (some .int)) := inT_4 (i := 114) rfl rfl
theorem tk_J6_265 : inT (.constant RJ6 265 (1431655765)) := inT_4 (i := 115) rfl rfl
theorem tk_J6_266 : inT (.constant RJ6 266 (858993459)) := inT_4 (i := 116) rfl rfl
theorem tk_J6_267 : inT (.constant RJ6 267 (252645135)) := inT_4 (i := 117) rfl rfl
theorem tm_X7_45 : inT (.methodLink RX7 45 yJ9_max_7cf53) := inT_4 (i := 118) rfl rfl
theorem tm_X7_38 : inT (.methodLink RX7 38 yX7_choose) := inT_4 (i := 119) rfl rfl
theorem ti_X7_choose : inT (.instanceMethod yX7_choose) := inT_4 (i := 121) rfl rfl
theorem tc_X7_choose : inT (.code yX7_choose cX7_choose 4 none) := inT_4 (i := 122) rfl rfl
theorem tm_L_107 : inT (.methodLink RL 107 yX11_swap) := inT_4 (i := 123) rfl rfl
theorem ti_X11_swap : inT (.instanceMethod yX11_swap) := inT_4 (i := 124) rfl rfl
theorem tse_X11_swap : inT (.selects RX11 yX11_swap yX11_swap) := inT_4 (i := 125) rfl rfl
theorem tc_X11_swap : inT (.code yX11_swap cX11_swap 2 (some .int)) := inT_4 (i := 126) rfl rfl
theorem tm_L_111 : inT (.methodLink RL 111 yX11_about) := inT_4 (i := 127) rfl rfl
theorem ti_X11_about : inT (.instanceMethod yX11_about) := inT_4 (i := 128) rfl rfl
theorem tse_X11_about : inT (.selects RX11 yX11_about yX11_about) := inT_4 (i := 129) rfl rfl
theorem tc_X11_about : inT (.code yX11_about cX11_about 2 (some .int)) := inT_4 (i := 130) rfl rfl
theorem tm_L_12 : inT (.methodLink RL 12 yX12_init) := inT_4 (i := 133) rfl rfl
theorem ti_X12_init : inT (.instanceMethod yX12_init) := inT_4 (i := 134) rfl rfl
theorem tc_X12_init : inT (.code yX12_init cX12_init 2 none) := inT_4 (i := 135) rfl rfl
theorem tf_X12_7 : inT (.fieldLink RX12 7 "HomeRollModel" "mother" "[I") := inT_4 (i := 137) rfl rfl
theorem tf_X12_13 : inT (.fieldLink RX12 13 "HomeRollModel" "father" "[I") := inT_4 (i := 138) rfl rfl
theorem tf_X12_16 : inT (.fieldLink RX12 16 "HomeRollModel" "deadFrom" "[I") := inT_4 (i := 139) rfl rfl
theorem tf_X12_19 : inT (.fieldLink RX12 19 "HomeRollModel" "first" "[I") := inT_4 (i := 140) rfl rfl
theorem tf_X12_22 : inT (.fieldLink RX12 22 "HomeRollModel" "worth" "[I") := inT_4 (i := 141) rfl rfl
theorem tf_X12_25 : inT (.fieldLink RX12 25 "HomeRollModel" "levels" "[I") := inT_4 (i := 142) rfl rfl
theorem tf_X12_119 : inT (.fieldLink RX12 119 "HomeRollModel" "people" "I") := inT_4 (i := 143) rfl rfl
theorem tf_X12_122 : inT (.fieldLink RX12 122 "HomeRollModel" "houses" "I") := inT_4 (i := 144) rfl rfl
theorem tf_X12_149 : inT (.fieldLink RX12 149 "HomeRollModel" "today" "I") := inT_4 (i := 145) rfl rfl
theorem tf_X12_28 : inT (.fieldLink RX12 28 "HomeRollModel" "pHouse" "[I") := inT_4 (i := 146) rfl rfl
theorem tf_X12_31 : inT (.fieldLink RX12 31 "HomeRollModel" "pFrom" "[I") := inT_4 (i := 147) rfl rfl
theorem tf_X12_34 : inT (.fieldLink RX12 34 "HomeRollModel" "pTo" "[I") := inT_4 (i := 148) rfl rfl
theorem tf_X12_37 : inT (.fieldLink RX12 37 "HomeRollModel" "pDay" "[I") := inT_4 (i := 149) rfl rfl
theorem tf_X12_40 : inT (.fieldLink RX12 40 "HomeRollModel" "pSort" "[I") := inT_4 (i := 150) rfl rfl
theorem tf_X12_43 : inT (.fieldLink RX12 43 "HomeRollModel" "pPrice" "[I") := inT_4 (i := 151) rfl rfl
theorem tf_X12_46 : inT (.fieldLink RX12 46 "HomeRollModel" "pFound" "[I") := inT_4 (i := 152) rfl rfl
theorem tf_X12_49 : inT (.fieldLink RX12 49 "HomeRollModel" "pFalse" "[I") := inT_4 (i := 153) rfl rfl
theorem tf_X12_52 : inT (.fieldLink RX12 52 "HomeRollModel" "line" "[I") := inT_4 (i := 154) rfl rfl
theorem tf_X12_55 : inT (.fieldLink RX12 55 "HomeRollModel" "isLoose" "[Z") := inT_4 (i := 155) rfl rfl
theorem tf_X12_152 : inT (.fieldLink RX12 152 "HomeRollModel" "papers" "I") := inT_4 (i := 156) rfl rfl
theorem tf_X12_158 : inT (.fieldLink RX12 158 "HomeRollModel" "inLine" "I") := inT_4 (i := 157) rfl rfl
theorem tf_X12_59 : inT (.fieldLink RX12 59 "HomeRollModel" "tape" "[B") := inT_4 (i := 158) rfl rfl
theorem tf_X12_63 : inT (.fieldLink RX12 63 "HomeRollModel" "text" "[B") := inT_4 (i := 159) rfl rfl
theorem tf_X12_233 : inT (.fieldLink RX12 233 "HomeRollModel" "taped" "I") := inT_4 (i := 160) rfl rfl
theorem tf_X12_169 : inT (.fieldLink RX12 169 "HomeRollModel" "size" "I") := inT_4 (i := 161) rfl rfl
theorem tf_X12_172 : inT (.fieldLink RX12 172 "HomeRollModel" "faultKind" "I") := inT_4 (i := 162) rfl rfl
theorem tf_X12_66 : inT (.fieldLink RX12 66 "HomeRollModel" "faultPlace" "I") := inT_4 (i := 163) rfl rfl
theorem tf_X12_178 : inT (.fieldLink RX12 178 "HomeRollModel" "at" "I") := inT_4 (i := 164) rfl rfl
theorem tf_X12_175 : inT (.fieldLink RX12 175 "HomeRollModel" "end" "I") := inT_4 (i := 165) rfl rfl
theorem tf_X12_185 : inT (.fieldLink RX12 185 "HomeRollModel" "token" "I") := inT_4 (i := 166) rfl rfl
theorem tf_X12_198 : inT (.fieldLink RX12 198 "HomeRollModel" "number" "I") := inT_4 (i := 167) rfl rfl
theorem tf_X12_191 : inT (.fieldLink RX12 191 "HomeRollModel" "name" "J") := inT_4 (i := 168) rfl rfl
theorem tf_X12_70 : inT (.fieldLink RX12 70 "HomeRollModel" "lineMany" "[I") := inT_4 (i := 169) rfl rfl
theorem tf_X12_73 : inT (.fieldLink RX12 73 "HomeRollModel" "lRuling" "[I") := inT_4 (i := 170) rfl rfl
theorem tf_X12_76 : inT (.fieldLink RX12 76 "HomeRollModel" "lPart" "[I") := inT_4 (i := 171) rfl rfl
theorem tf_X12_79 : inT (.fieldLink RX12 79 "HomeRollModel" "lFrom" "[I") := inT_4 (i := 172) rfl rfl
theorem tf_X12_82 : inT (.fieldLink RX12 82 "HomeRollModel" "lTo" "[I") := inT_4 (i := 173) rfl rfl
theorem tf_X12_85 : inT (.fieldLink RX12 85 "HomeRollModel" "code" "[I") := inT_4 (i := 174) rfl rfl
theorem tf_X12_88 : inT (.fieldLink RX12 88 "HomeRollModel" "codeNumber" "[I") := inT_4 (i := 175) rfl rfl
theorem tf_X12_236 : inT (.fieldLink RX12 236 "HomeRollModel" "bank" "I") := inT_4 (i := 176) rfl rfl
theorem tf_X12_239 : inT (.fieldLink RX12 239 "HomeRollModel" "rb" "I") := inT_4 (i := 177) rfl rfl
theorem tf_X12_242 : inT (.fieldLink RX12 242 "HomeRollModel" "codes" "I") := inT_4 (i := 178) rfl rfl
theorem tf_X12_245 : inT (.fieldLink RX12 245 "HomeRollModel" "terms" "I") := inT_4 (i := 179) rfl rfl
theorem tf_X12_91 : inT (.fieldLink RX12 91 "HomeRollModel" "eWhat" "[I") := inT_4 (i := 180) rfl rfl
theorem tf_X12_277 : inT (.fieldLink RX12 277 "HomeRollModel" "piled" "I") := inT_4 (i := 181) rfl rfl
theorem tf_X12_280 : inT (.fieldLink RX12 280 "HomeRollModel" "deep" "I") := inT_4 (i := 182) rfl rfl
theorem tf_X12_94 : inT (.fieldLink RX12 94 "HomeRollModel" "values" "[I") := inT_4 (i := 183) rfl rfl
theorem tf_X12_97 : inT (.fieldLink RX12 97 "HomeRollModel" "told" "[I") := inT_4 (i := 184) rfl rfl
theorem tf_X12_100 : inT (.fieldLink RX12 100 "HomeRollModel" "claimed" "[I") := inT_4 (i := 185) rfl rfl
theorem tf_X12_315 : inT (.fieldLink RX12 315 "HomeRollModel" "claims" "I") := inT_4 (i := 186) rfl rfl
theorem tf_X12_103 : inT (.fieldLink RX12 103 "HomeRollModel" "tops" "[J") := inT_4 (i := 187) rfl rfl
theorem tf_X12_107 : inT (.fieldLink RX12 107 "HomeRollModel" "unders" "[J") := inT_4 (i := 188) rfl rfl
theorem tf_X12_110 : inT (.fieldLink RX12 110 "HomeRollModel" "canHave" "[Z") := inT_4 (i := 189) rfl rfl
theorem tf_X12_113 : inT (.fieldLink RX12 113 "HomeRollModel" "joys" "[I") := inT_4 (i := 190) rfl rfl
theorem tf_X12_116 : inT (.fieldLink RX12 116 "HomeRollModel" "mostFrom" "[I") := inT_4 (i := 191) rfl rfl
theorem tf_X12_353 : inT (.fieldLink RX12 353 "HomeRollModel" "wants" "I") := inT_4 (i := 192) rfl rfl
theorem tm_L_17 : inT (.methodLink RL 17 yX12_person) := inT_5 (i := 66) rfl rfl
theorem ti_X12_person : inT (.instanceMethod yX12_person) := inT_5 (i := 67) rfl rfl
theorem tse_X12_person : inT (.selects RX12 yX12_person yX12_person) := inT_5 (i := 68) rfl rfl
theorem tc_X12_person : inT (.code yX12_person cX12_person 3 (some .int)) := inT_5 (i := 69) rfl rfl
theorem tm_L_22 : inT (.methodLink RL 22 yX12_dead) := inT_5 (i := 70) rfl rfl
theorem ti_X12_dead : inT (.instanceMethod yX12_dead) := inT_5 (i := 71) rfl rfl
theorem tse_X12_dead : inT (.selects RX12 yX12_dead yX12_dead) := inT_5 (i := 72) rfl rfl
theorem tc_X12_dead : inT (.code yX12_dead cX12_dead 3 (some .boolean)) := inT_5 (i := 73) rfl rfl
theorem tm_X12_127 : inT (.methodLink RX12 127 yX12_isPerson) := inT_5 (i := 74) rfl rfl
theorem ti_X12_isPerson : inT (.instanceMethod yX12_isPerson) := inT_5 (i := 76) rfl rfl
theorem tc_X12_isPerson : inT (.code yX12_isPerson cX12_isPerson 2 (some .boolean)) := inT_5 (i := 77) rfl rfl
theorem tm_X12_131 : inT (.methodLink RX12 131 yX12_isDay) := inT_5 (i := 78) rfl rfl
theorem tst_X12_isDay : inT (.static yX12_isDay) := inT_5 (i := 79) rfl rfl
theorem tc_X12_isDay : inT (.code yX12_isDay cX12_isDay 1 (some .boolean)) := inT_5 (i := 80) rfl rfl
theorem tk_X12_125 : inT (.constant RX12 125 (36499)) := inT_5 (i := 81) rfl rfl
theorem tm_L_26 : inT (.methodLink RL 26 yX12_house) := inT_5 (i := 82) rfl rfl
theorem ti_X12_house : inT (.instanceMethod yX12_house) := inT_5 (i := 83) rfl rfl
theorem tse_X12_house : inT (.selects RX12 yX12_house yX12_house) := inT_5 (i := 84) rfl rfl
theorem tc_X12_house : inT (.code yX12_house cX12_house 3 (some .int)) := inT_5 (i := 85) rfl rfl
theorem tm_X12_134 : inT (.methodLink RX12 134 yX12_isSum) := inT_5 (i := 86) rfl rfl
theorem tst_X12_isSum : inT (.static yX12_isSum) := inT_5 (i := 87) rfl rfl
theorem tc_X12_isSum : inT (.code yX12_isSum cX12_isSum 1 (some .boolean)) := inT_5 (i := 88) rfl rfl
theorem tk_X12_126 : inT (.constant RX12 126 (1000000)) := inT_5 (i := 89) rfl rfl
theorem tm_L_30 : inT (.methodLink RL 30 yX12_level) := inT_5 (i := 90) rfl rfl
theorem ti_X12_level : inT (.instanceMethod yX12_level) := inT_5 (i := 91) rfl rfl
theorem tse_X12_level : inT (.selects RX12 yX12_level yX12_level) := inT_5 (i := 92) rfl rfl
theorem tc_X12_level : inT (.code yX12_level cX12_level 3 (some .boolean)) := inT_5 (i := 93) rfl rfl
theorem tm_X12_137 : inT (.methodLink RX12 137 yX12_isYear) := inT_5 (i := 94) rfl rfl
theorem tst_X12_isYear : inT (.static yX12_isYear) := inT_5 (i := 95) rfl rfl
theorem tc_X12_isYear : inT (.code yX12_isYear cX12_isYear 1 (some .boolean)) := inT_5 (i := 96) rfl rfl
theorem tm_L_35 : inT (.methodLink RL 35 yX12_money) := inT_5 (i := 97) rfl rfl
theorem ti_X12_money : inT (.instanceMethod yX12_money) := inT_5 (i := 98) rfl rfl
theorem tse_X12_money : inT (.selects RX12 yX12_money yX12_money) := inT_5 (i := 99) rfl rfl
theorem tc_X12_money : inT (.code yX12_money cX12_money 4 (some .long)) := inT_5 (i := 100) rfl rfl
theorem tm_X12_140 : inT (.methodLink RX12 140 yX12_turned) := inT_5 (i := 101) rfl rfl
theorem ti_X12_turned : inT (.instanceMethod yX12_turned) := inT_5 (i := 103) rfl rfl
theorem tc_X12_turned : inT (.code yX12_turned cX12_turned 4 (some .long)) := inT_5 (i := 104) rfl rfl
theorem tl_X12_144 : inT (.constantLong RX12 144 (-1)) := inT_5 (i := 105) rfl rfl
theorem tm_L_40 : inT (.methodLink RL 40 yX12_paper) := inT_5 (i := 106) rfl rfl
theorem ti_X12_paper : inT (.instanceMethod yX12_paper) := inT_5 (i := 107) rfl rfl
theorem tse_X12_paper : inT (.selects RX12 yX12_paper yX12_paper) := inT_5 (i := 108) rfl rfl
theorem tc_X12_paper : inT (.code yX12_paper cX12_paper 7 (some .int)) := inT_5 (i := 109) rfl rfl
theorem tm_X12_146 : inT (.methodLink RX12 146 yX12_isHouse) := inT_5 (i := 110) rfl rfl
theorem ti_X12_isHouse : inT (.instanceMethod yX12_isHouse) := inT_5 (i := 112) rfl rfl
theorem tc_X12_isHouse : inT (.code yX12_isHouse cX12_isHouse 2 (some .boolean)) := inT_5 (i := 113) rfl rfl
theorem tm_L_45 : inT (.methodLink RL 45 yX12_isFalse) := inT_5 (i := 114) rfl rfl
theorem ti_X12_isFalse : inT (.instanceMethod yX12_isFalse) := inT_5 (i := 115) rfl rfl
theorem tse_X12_isFalse : inT (.selects RX12 yX12_isFalse yX12_isFalse) := inT_5 (i := 116) rfl rfl
theorem tc_X12_isFalse : inT (.code yX12_isFalse cX12_isFalse 2 (some .boolean)) := inT_5 (i := 117) rfl rfl
theorem tm_X12_155 : inT (.methodLink RX12 155 yX12_isPaper) := inT_5 (i := 118) rfl rfl
theorem ti_X12_isPaper : inT (.instanceMethod yX12_isPaper) := inT_5 (i := 120) rfl rfl
theorem tc_X12_isPaper : inT (.code yX12_isPaper cX12_isPaper 2 (some .boolean)) := inT_5 (i := 121) rfl rfl
theorem tm_L_50 : inT (.methodLink RL 50 yX12_later) := inT_5 (i := 122) rfl rfl
theorem ti_X12_later : inT (.instanceMethod yX12_later) := inT_5 (i := 123) rfl rfl
theorem tse_X12_later : inT (.selects RX12 yX12_later yX12_later) := inT_5 (i := 124) rfl rfl
theorem tc_X12_later : inT (.code yX12_later cX12_later 2 (some .int)) := inT_5 (i := 125) rfl rfl
theorem tm_L_55 : inT (.methodLink RL 55 yX12_holder) := inT_5 (i := 126) rfl rfl
theorem ti_X12_holder : inT (.instanceMethod yX12_holder) := inT_5 (i := 127) rfl rfl
theorem tse_X12_holder : inT (.selects RX12 yX12_holder yX12_holder) := inT_5 (i := 128) rfl rfl
theorem tc_X12_holder : inT (.code yX12_holder cX12_holder 4 (some .int)) := inT_5 (i := 129) rfl rfl
theorem tm_X12_165 : inT (.methodLink RX12 165 yX12_follow) := inT_5 (i := 130) rfl rfl
theorem ti_X12_follow : inT (.instanceMethod yX12_follow) := inT_5 (i := 132) rfl rfl
theorem tc_X12_follow : inT (.code yX12_follow cX12_follow 8 (some .int)) := inT_5 (i := 133) rfl rfl
theorem tm_X12_161 : inT (.methodLink RX12 161 yX12_counts) := inT_5 (i := 134) rfl rfl
theorem ti_X12_counts : inT (.instanceMethod yX12_counts) := inT_5 (i := 136) rfl rfl
theorem tc_X12_counts : inT (.code yX12_counts cX12_counts 3 (some .boolean)) := inT_5 (i := 137) rfl rfl
theorem tm_L_59 : inT (.methodLink RL 59 yX12_loose) := inT_5 (i := 138) rfl rfl
theorem ti_X12_loose : inT (.instanceMethod yX12_loose) := inT_5 (i := 139) rfl rfl
theorem tse_X12_loose : inT (.selects RX12 yX12_loose yX12_loose) := inT_5 (i := 140) rfl rfl
theorem tc_X12_loose : inT (.code yX12_loose cX12_loose 3 (some .int)) := inT_5 (i := 141) rfl rfl
theorem tm_L_73 : inT (.methodLink RL 73 yX12_law) := inT_5 (i := 142) rfl rfl
theorem ti_X12_law : inT (.instanceMethod yX12_law) := inT_5 (i := 143) rfl rfl
theorem tse_X12_law : inT (.selects RX12 yX12_law yX12_law) := inT_5 (i := 144) rfl rfl
theorem tc_X12_law : inT (.code yX12_law cX12_law 2 (some .int)) := inT_5 (i := 145) rfl rfl
theorem tm_X12_209 : inT (.methodLink RX12 209 yX12_next) := inT_5 (i := 146) rfl rfl
theorem ti_X12_next : inT (.instanceMethod yX12_next) := inT_5 (i := 148) rfl rfl
theorem tc_X12_next : inT (.code yX12_next cX12_next 3 none) := inT_5 (i := 149) rfl rfl
theorem tm_X12_181 : inT (.methodLink RX12 181 yX12_sign) := inT_5 (i := 150) rfl rfl
theorem ti_X12_sign : inT (.instanceMethod yX12_sign) := inT_5 (i := 152) rfl rfl
theorem tc_X12_sign : inT (.code yX12_sign cX12_sign 2 (some .int)) := inT_5 (i := 153) rfl rfl
theorem tm_X12_188 : inT (.methodLink RX12 188 yX12_isLetter) := inT_5 (i := 154) rfl rfl
theorem tst_X12_isLetter : inT (.static yX12_isLetter) := inT_5 (i := 155) rfl rfl
theorem tc_X12_isLetter : inT (.code yX12_isLetter cX12_isLetter 1 (some .boolean)) := inT_5 (i := 156) rfl rfl
theorem tm_X12_195 : inT (.methodLink RX12 195 yX12_isDigit) := inT_5 (i := 157) rfl rfl
theorem tst_X12_isDigit : inT (.static yX12_isDigit) := inT_5 (i := 158) rfl rfl
theorem tc_X12_isDigit : inT (.code yX12_isDigit cX12_isDigit 1 (some .boolean)) := inT_5 (i := 159) rfl rfl
theorem tm_X12_205 : inT (.methodLink RX12 205 yX12_isGood) := inT_5 (i := 160) rfl rfl
theorem ti_X12_isGood : inT (.instanceMethod yX12_isGood) := inT_5 (i := 162) rfl rfl
theorem tc_X12_isGood : inT (.code yX12_isGood cX12_isGood 1 (some .boolean)) := inT_5 (i := 163) rfl rfl
theorem tm_X12_248 : inT (.methodLink RX12 248 yX12_readLine) := inT_5 (i := 164) rfl rfl
theorem ti_X12_readLine : inT (.instanceMethod yX12_readLine) := inT_5 (i := 166) rfl rfl
theorem tc_X12_readLine : inT (.code yX12_readLine cX12_readLine 2 none) := inT_5 (i := 167) rfl rfl
theorem tl_X12_251 : inT (.constantLong RX12 251 (2003330414)) := inT_5 (i := 168) rfl rfl
theorem tm_X12_253 : inT (.methodLink RX12 253 yX12_isWord) := inT_5 (i := 169) rfl rfl
theorem ti_X12_isWord : inT (.instanceMethod yX12_isWord) := inT_5 (i := 171) rfl rfl
theorem tc_X12_isWord : inT (.code yX12_isWord cX12_isWord 3 (some .boolean)) := inT_5 (i := 172) rfl rfl
theorem tm_X12_212 : inT (.methodLink RX12 212 yX12_wrong) := inT_5 (i := 173) rfl rfl
theorem ti_X12_wrong : inT (.instanceMethod yX12_wrong) := inT_5 (i := 175) rfl rfl
theorem tc_X12_wrong : inT (.code yX12_wrong cX12_wrong 1 none) := inT_5 (i := 176) rfl rfl
theorem tm_X12_201 : inT (.methodLink RX12 201 yX12_fails) := inT_5 (i := 177) rfl rfl
theorem ti_X12_fails : inT (.instanceMethod yX12_fails) := inT_5 (i := 179) rfl rfl
theorem tc_X12_fails : inT (.code yX12_fails cX12_fails 3 none) := inT_5 (i := 180) rfl rfl
theorem tm_X12_257 : inT (.methodLink RX12 257 yX12_e) := inT_5 (i := 181) rfl rfl
theorem ti_X12_e : inT (.instanceMethod yX12_e) := inT_5 (i := 183) rfl rfl
theorem tc_X12_e : inT (.code yX12_e cX12_e 2 none) := inT_5 (i := 184) rfl rfl
theorem tm_X12_283 : inT (.methodLink RX12 283 yX12_pile) := inT_5 (i := 185) rfl rfl
theorem ti_X12_pile : inT (.instanceMethod yX12_pile) := inT_5 (i := 187) rfl rfl
theorem tc_X12_pile : inT (.code yX12_pile cX12_pile 2 none) := inT_5 (i := 188) rfl rfl
theorem tm_X12_287 : inT (.methodLink RX12 287 yX12_one) := inT_5 (i := 189) rfl rfl
theorem ti_X12_one : inT (.instanceMethod yX12_one) := inT_5 (i := 191) rfl rfl
theorem tc_X12_one : inT (.code yX12_one cX12_one 2 (some .boolean)) := inT_5 (i := 192) rfl rfl
theorem tm_X12_274 : inT (.methodLink RX12 274 yX12_is) := inT_5 (i := 193) rfl rfl
theorem ti_X12_is : inT (.instanceMethod yX12_is) := inT_5 (i := 195) rfl rfl
theorem tc_X12_is : inT (.code yX12_is cX12_is 2 (some .boolean)) := inT_5 (i := 196) rfl rfl
theorem tl_X12_293 : inT (.constantLong RX12 293 (7237492)) := inT_5 (i := 197) rfl rfl
theorem tm_X12_295 : inT (.methodLink RX12 295 yX12_readSum) := inT_5 (i := 198) rfl rfl
theorem ti_X12_readSum : inT (.instanceMethod yX12_readSum) := inT_5 (i := 200) rfl rfl
theorem tc_X12_readSum : inT (.code yX12_readSum cX12_readSum 2 none) := inT_5 (i := 201) rfl rfl
theorem tm_X12_301 : inT (.methodLink RX12 301 yX12_readTerm) := inT_5 (i := 202) rfl rfl
theorem ti_X12_readTerm : inT (.instanceMethod yX12_readTerm) := inT_5 (i := 204) rfl rfl
theorem tc_X12_readTerm : inT (.code yX12_readTerm cX12_readTerm 2 none) := inT_5 (i := 205) rfl rfl
theorem tm_X12_304 : inT (.methodLink RX12 304 yX12_termHere) := inT_5 (i := 206) rfl rfl
theorem ti_X12_termHere : inT (.instanceMethod yX12_termHere) := inT_5 (i := 208) rfl rfl
theorem tc_X12_termHere : inT (.code yX12_termHere cX12_termHere 2 (some .int)) := inT_5 (i := 209) rfl rfl
theorem tl_X12_215 : inT (.constantLong RX12 215 (112628846519652)) := inT_5 (i := 210) rfl rfl
theorem tl_X12_217 : inT (.constantLong RX12 217 (444150998382)) := inT_5 (i := 211) rfl rfl
theorem tl_X12_219 : inT (.constantLong RX12 219 (482955846501)) := inT_5 (i := 212) rfl rfl
theorem tl_X12_221 : inT (.constantLong RX12 221 (512970880104)) := inT_5 (i := 213) rfl rfl
theorem tl_X12_223 : inT (.constantLong RX12 223 (2036687218)) := inT_5 (i := 214) rfl rfl
theorem tl_X12_225 : inT (.constantLong RX12 225 (1751477348)) := inT_5 (i := 215) rfl rfl
theorem tl_X12_227 : inT (.constantLong RX12 227 (448311223411)) := inT_5 (i := 216) rfl rfl
theorem tl_X12_229 : inT (.constantLong RX12 229 (465625834867)) := inT_5 (i := 217) rfl rfl
theorem tl_X12_231 : inT (.constantLong RX12 231 (1684365668)) := inT_5 (i := 218) rfl rfl
theorem tm_X12_298 : inT (.methodLink RX12 298 yX12_step) := inT_5 (i := 219) rfl rfl
theorem ti_X12_step : inT (.instanceMethod yX12_step) := inT_5 (i := 221) rfl rfl
theorem tc_X12_step : inT (.code yX12_step cX12_step 3 none) := inT_5 (i := 222) rfl rfl
theorem tm_X12_290 : inT (.methodLink RX12 290 yX12_behind) := inT_5 (i := 223) rfl rfl
theorem ti_X12_behind : inT (.instanceMethod yX12_behind) := inT_5 (i := 225) rfl rfl
theorem tc_X12_behind : inT (.code yX12_behind cX12_behind 2 (some .boolean)) := inT_5 (i := 226) rfl rfl
theorem tl_X12_308 : inT (.constantLong RX12 308 (6385252)) := inT_5 (i := 227) rfl rfl
theorem tl_X12_310 : inT (.constantLong RX12 310 (28530)) := inT_5 (i := 228) rfl rfl
theorem tm_X12_262 : inT (.methodLink RX12 262 yX12_must) := inT_5 (i := 229) rfl rfl
theorem ti_X12_must : inT (.instanceMethod yX12_must) := inT_5 (i := 231) rfl rfl
theorem tc_X12_must : inT (.code yX12_must cX12_must 2 none) := inT_5 (i := 232) rfl rfl
theorem tl_X12_260 : inT (.constantLong RX12 260 (25711)) := inT_5 (i := 233) rfl rfl
theorem tl_X12_266 : inT (.constantLong RX12 266 (1650549611)) := inT_5 (i := 234) rfl rfl
theorem tl_X12_268 : inT (.constantLong RX12 268 (478694368626)) := inT_5 (i := 235) rfl rfl
theorem tl_X12_270 : inT (.constantLong RX12 270 (470020941177)) := inT_5 (i := 236) rfl rfl
theorem tl_X12_272 : inT (.constantLong RX12 272 (1852796517)) := inT_5 (i := 237) rfl rfl
theorem tm_L_77 : inT (.methodLink RL 77 yX12_fault) := inT_5 (i := 238) rfl rfl
theorem ti_X12_fault : inT (.instanceMethod yX12_fault) := inT_5 (i := 239) rfl rfl
theorem tse_X12_fault : inT (.selects RX12 yX12_fault yX12_fault) := inT_6 (i := 0) rfl rfl
theorem tc_X12_fault : inT (.code yX12_fault cX12_fault 2 (some .int)) := inT_6 (i := 1) rfl rfl
theorem tm_L_81 : inT (.methodLink RL 81 yX12_claim) := inT_6 (i := 2) rfl rfl
theorem ti_X12_claim : inT (.instanceMethod yX12_claim) := inT_6 (i := 3) rfl rfl
theorem tse_X12_claim : inT (.selects RX12 yX12_claim yX12_claim) := inT_6 (i := 4) rfl rfl
theorem tc_X12_claim : inT (.code yX12_claim cX12_claim 3 (some .int)) := inT_6 (i := 5) rfl rfl
theorem tm_L_85 : inT (.methodLink RL 85 yX12_ruling) := inT_6 (i := 6) rfl rfl
theorem ti_X12_ruling : inT (.instanceMethod yX12_ruling) := inT_6 (i := 7) rfl rfl
theorem tse_X12_ruling : inT (.selects RX12 yX12_ruling yX12_ruling) := inT_6 (i := 8) rfl rfl
theorem tc_X12_ruling : inT (.code yX12_ruling cX12_ruling 4 (some .int)) := inT_6 (i := 9) rfl rfl
theorem tm_X12_331 : inT (.methodLink RX12 331 yX12_look) := inT_6 (i := 10) rfl rfl
theorem ti_X12_look : inT (.instanceMethod yX12_look) := inT_6 (i := 12) rfl rfl
theorem tc_X12_look : inT (.code yX12_look cX12_look 11 (some .boolean)) := inT_6 (i := 13) rfl rfl
theorem tm_X12_318 : inT (.methodLink RX12 318 yX12_loose) := inT_6 (i := 14) rfl rfl
theorem tl_X12_322 : inT (.constantLong RX12 322 (2147483647)) := inT_6 (i := 15) rfl rfl
theorem tk_X12_324 : inT (.constant RX12 324 (2147483647)) := inT_6 (i := 16) rfl rfl
theorem tm_X12_325 : inT (.methodLink RX12 325 yX12_isDead) := inT_6 (i := 17) rfl rfl
theorem ti_X12_isDead : inT (.instanceMethod yX12_isDead) := inT_6 (i := 19) rfl rfl
theorem tc_X12_isDead : inT (.code yX12_isDead cX12_isDead 3 (some .boolean)) := inT_6 (i := 20) rfl rfl
theorem tm_X12_334 : inT (.methodLink RX12 334 yX12_lineFor) := inT_6 (i := 21) rfl rfl
theorem ti_X12_lineFor : inT (.instanceMethod yX12_lineFor) := inT_6 (i := 23) rfl rfl
theorem tc_X12_lineFor : inT (.code yX12_lineFor cX12_lineFor 2 (some .int)) := inT_6 (i := 24) rfl rfl
theorem tm_X12_328 : inT (.methodLink RX12 328 yX12_holds) := inT_6 (i := 25) rfl rfl
theorem ti_X12_holds : inT (.instanceMethod yX12_holds) := inT_6 (i := 27) rfl rfl
theorem tc_X12_holds : inT (.code yX12_holds cX12_holds 5 (some .boolean)) := inT_6 (i := 28) rfl rfl
theorem tm_X12_312 : inT (.methodLink RX12 312 yX12_two) := inT_6 (i := 29) rfl rfl
theorem tst_X12_two : inT (.static yX12_two) := inT_6 (i := 30) rfl rfl
theorem tc_X12_two : inT (.code yX12_two cX12_two 3 (some .int)) := inT_6 (i := 31) rfl rfl
theorem tm_L_89 : inT (.methodLink RL 89 yX12_sum) := inT_6 (i := 32) rfl rfl
theorem ti_X12_sum : inT (.instanceMethod yX12_sum) := inT_6 (i := 33) rfl rfl
theorem tse_X12_sum : inT (.selects RX12 yX12_sum yX12_sum) := inT_6 (i := 34) rfl rfl
theorem tc_X12_sum : inT (.code yX12_sum cX12_sum 4 (some .int)) := inT_6 (i := 35) rfl rfl
theorem tl_X12_337 : inT (.constantLong RX12 337 (100)) := inT_6 (i := 36) rfl rfl
theorem tm_L_93 : inT (.methodLink RL 93 yX12_term) := inT_6 (i := 37) rfl rfl
theorem ti_X12_term : inT (.instanceMethod yX12_term) := inT_6 (i := 38) rfl rfl
theorem tse_X12_term : inT (.selects RX12 yX12_term yX12_term) := inT_6 (i := 39) rfl rfl
theorem tc_X12_term : inT (.code yX12_term cX12_term 4 (some .int)) := inT_6 (i := 40) rfl rfl
theorem tm_L_98 : inT (.methodLink RL 98 yX12_share) := inT_6 (i := 41) rfl rfl
theorem ti_X12_share : inT (.instanceMethod yX12_share) := inT_6 (i := 42) rfl rfl
theorem tse_X12_share : inT (.selects RX12 yX12_share yX12_share) := inT_6 (i := 43) rfl rfl
theorem tc_X12_share : inT (.code yX12_share cX12_share 5 (some .long)) := inT_6 (i := 44) rfl rfl
theorem tm_X12_350 : inT (.methodLink RX12 350 yX12_handDown) := inT_6 (i := 45) rfl rfl
theorem ti_X12_handDown : inT (.instanceMethod yX12_handDown) := inT_6 (i := 47) rfl rfl
theorem tc_X12_handDown : inT (.code yX12_handDown cX12_handDown 6 none) := inT_6 (i := 48) rfl rfl
theorem tm_X12_343 : inT (.methodLink RX12 343 yX12_isChild) := inT_6 (i := 49) rfl rfl
theorem ti_X12_isChild : inT (.instanceMethod yX12_isChild) := inT_6 (i := 51) rfl rfl
theorem tc_X12_isChild : inT (.code yX12_isChild cX12_isChild 3 (some .boolean)) := inT_6 (i := 52) rfl rfl
theorem tm_X12_346 : inT (.methodLink RX12 346 yX12_gets) := inT_6 (i := 53) rfl rfl
theorem ti_X12_gets : inT (.instanceMethod yX12_gets) := inT_6 (i := 55) rfl rfl
theorem tc_X12_gets : inT (.code yX12_gets cX12_gets 12 none) := inT_6 (i := 56) rfl rfl
theorem tm_X12_339 : inT (.methodLink RX12 339 yX12_divisor) := inT_6 (i := 57) rfl rfl
theorem tst_X12_divisor : inT (.static yX12_divisor) := inT_6 (i := 58) rfl rfl
theorem tc_X12_divisor : inT (.code yX12_divisor cX12_divisor 10 (some .long)) := inT_6 (i := 59) rfl rfl
theorem tm_L_102 : inT (.methodLink RL 102 yX12_want) := inT_6 (i := 60) rfl rfl
theorem ti_X12_want : inT (.instanceMethod yX12_want) := inT_6 (i := 61) rfl rfl
theorem tse_X12_want : inT (.selects RX12 yX12_want yX12_want) := inT_6 (i := 62) rfl rfl
theorem tc_X12_want : inT (.code yX12_want cX12_want 4 (some .int)) := inT_6 (i := 63) rfl rfl
theorem tm_L_106 : inT (.methodLink RL 106 yX12_joy) := inT_6 (i := 64) rfl rfl
theorem ti_X12_joy : inT (.instanceMethod yX12_joy) := inT_6 (i := 65) rfl rfl
theorem tse_X12_joy : inT (.selects RX12 yX12_joy yX12_joy) := inT_6 (i := 66) rfl rfl
theorem tc_X12_joy : inT (.code yX12_joy cX12_joy 1 (some .int)) := inT_6 (i := 67) rfl rfl
theorem tm_X12_359 : inT (.methodLink RX12 359 yX12_solve) := inT_6 (i := 68) rfl rfl
theorem ti_X12_solve : inT (.instanceMethod yX12_solve) := inT_6 (i := 70) rfl rfl
theorem tc_X12_solve : inT (.code yX12_solve cX12_solve 6 (some .int)) := inT_6 (i := 71) rfl rfl
theorem tm_X12_356 : inT (.methodLink RX12 356 yX12_mayGet) := inT_6 (i := 72) rfl rfl
theorem ti_X12_mayGet : inT (.instanceMethod yX12_mayGet) := inT_6 (i := 74) rfl rfl
theorem tc_X12_mayGet : inT (.code yX12_mayGet cX12_mayGet 3 (some .boolean)) := inT_6 (i := 75) rfl rfl
theorem tm_L_110 : inT (.methodLink RL 110 yX12_swap) := inT_6 (i := 76) rfl rfl
theorem ti_X12_swap : inT (.instanceMethod yX12_swap) := inT_6 (i := 77) rfl rfl
theorem tse_X12_swap : inT (.selects RX12 yX12_swap yX12_swap) := inT_6 (i := 78) rfl rfl
theorem tc_X12_swap : inT (.code yX12_swap cX12_swap 6 (some .int)) := inT_6 (i := 79) rfl rfl
theorem tm_L_114 : inT (.methodLink RL 114 yX12_about) := inT_6 (i := 80) rfl rfl
theorem ti_X12_about : inT (.instanceMethod yX12_about) := inT_6 (i := 81) rfl rfl
theorem tse_X12_about : inT (.selects RX12 yX12_about yX12_about) := inT_6 (i := 82) rfl rfl
theorem tc_X12_about : inT (.code yX12_about cX12_about 2 (some .int)) := inT_6 (i := 83) rfl rfl
theorem tm_L_64 : inT (.methodLink RL 64 yX12_feed) := inT_6 (i := 84) rfl rfl
theorem ti_X12_feed : inT (.instanceMethod yX12_feed) := inT_6 (i := 85) rfl rfl
theorem tse_X12_feed : inT (.selects RX12 yX12_feed yX12_feed) := inT_6 (i := 86) rfl rfl
theorem tc_X12_feed : inT (.code yX12_feed cX12_feed 8 (some .int)) := inT_6 (i := 87) rfl rfl
theorem tm_L_68 : inT (.methodLink RL 68 yX12_end) := inT_6 (i := 88) rfl rfl
theorem ti_X12_end : inT (.instanceMethod yX12_end) := inT_6 (i := 89) rfl rfl
theorem tse_X12_end : inT (.selects RX12 yX12_end yX12_end) := inT_6 (i := 90) rfl rfl
theorem tc_X12_end : inT (.code yX12_end cX12_end 2 (some .int)) := inT_6 (i := 91) rfl rfl
theorem tf_J0_9 : inT (.fieldLink RJ0 9 "java/lang/String" "value" "[B") := inT_6 (i := 92) rfl rfl
theorem tf_J0_15 : inT (.fieldLink RJ0 15 "java/lang/String" "coder" "B") := inT_6 (i := 93) rfl rfl
theorem tse_X11_convert : inT (.selects RX11 yX11_convert yX11_convert) := inT_0 (i := 0) rfl rfl
theorem tse_X3_putInOrder : inT (.selects RX3 yX3_putInOrder yX3_putInOrder) := inT_0 (i := 1) rfl rfl
theorem tse_X10_movesHouse : inT (.selects RX10 yX10_movesHouse yX10_movesHouse) := inT_0 (i := 2) rfl rfl
theorem tse_X9_scanToken : inT (.selects RX9 yX9_scanToken yX9_scanToken) := inT_0 (i := 3) rfl rfl
theorem tse_X9_scanWord : inT (.selects RX9 yX9_scanWord yX9_scanWord) := inT_0 (i := 4) rfl rfl
theorem tse_X9_add : inT (.selects RX9 yX9_add yX9_add) := inT_0 (i := 5) rfl rfl
theorem tse_X9_scanNumber : inT (.selects RX9 yX9_scanNumber yX9_scanNumber) := inT_0 (i := 6) rfl rfl
theorem tse_X4_moveTo : inT (.selects RX4 yX4_moveTo yX4_moveTo) := inT_0 (i := 7) rfl rfl
theorem tse_X4_parseLine : inT (.selects RX4 yX4_parseLine yX4_parseLine) := inT_0 (i := 8) rfl rfl
theorem tse_X4_take : inT (.selects RX4 yX4_take yX4_take) := inT_0 (i := 9) rfl rfl
theorem tse_X4_refuse : inT (.selects RX4 yX4_refuse yX4_refuse) := inT_0 (i := 10) rfl rfl
theorem tse_X4_parseEither : inT (.selects RX4 yX4_parseEither yX4_parseEither) := inT_0 (i := 11) rfl rfl
theorem tse_X4_parseBoth : inT (.selects RX4 yX4_parseBoth yX4_parseBoth) := inT_0 (i := 12) rfl rfl
theorem tse_X4_parseOne : inT (.selects RX4 yX4_parseOne yX4_parseOne) := inT_0 (i := 13) rfl rfl
theorem tse_X4_parseSum : inT (.selects RX4 yX4_parseSum yX4_parseSum) := inT_0 (i := 14) rfl rfl
theorem tse_X4_parseRuling : inT (.selects RX4 yX4_parseRuling yX4_parseRuling) := inT_0 (i := 15) rfl rfl
theorem tse_X0_isClaimed : inT (.selects RX0 yX0_isClaimed yX0_isClaimed) := inT_0 (i := 16) rfl rfl
theorem tse_X11_weigh : inT (.selects RX11 yX11_weigh yX11_weigh) := inT_0 (i := 17) rfl rfl
theorem tse_X11_priceOfLastYear : inT (.selects RX11 yX11_priceOfLastYear yX11_priceOfLastYear) := inT_0 (i := 18) rfl rfl
theorem tse_X2_valueOf : inT (.selects RX2 yX2_valueOf yX2_valueOf) := inT_0 (i := 19) rfl rfl
theorem tse_X6_findHeirs : inT (.selects RX6 yX6_findHeirs yX6_findHeirs) := inT_0 (i := 20) rfl rfl
theorem tse_X6_isHeir : inT (.selects RX6 yX6_isHeir yX6_isHeir) := inT_0 (i := 21) rfl rfl
theorem tse_X6_handOn : inT (.selects RX6 yX6_handOn yX6_handOn) := inT_0 (i := 22) rfl rfl
theorem tse_X7_greatestBehind : inT (.selects RX7 yX7_greatestBehind yX7_greatestBehind) := inT_0 (i := 23) rfl rfl
theorem tse_X7_joyWith : inT (.selects RX7 yX7_joyWith yX7_joyWith) := inT_0 (i := 24) rfl rfl
theorem tse_X7_choose : inT (.selects RX7 yX7_choose yX7_choose) := inT_0 (i := 25) rfl rfl
theorem tse_X12_isPerson : inT (.selects RX12 yX12_isPerson yX12_isPerson) := inT_0 (i := 26) rfl rfl
theorem tse_X12_turned : inT (.selects RX12 yX12_turned yX12_turned) := inT_0 (i := 27) rfl rfl
theorem tse_X12_isHouse : inT (.selects RX12 yX12_isHouse yX12_isHouse) := inT_0 (i := 28) rfl rfl
theorem tse_X12_isPaper : inT (.selects RX12 yX12_isPaper yX12_isPaper) := inT_0 (i := 29) rfl rfl
theorem tse_X12_follow : inT (.selects RX12 yX12_follow yX12_follow) := inT_0 (i := 30) rfl rfl
theorem tse_X12_counts : inT (.selects RX12 yX12_counts yX12_counts) := inT_0 (i := 31) rfl rfl
theorem tse_X12_next : inT (.selects RX12 yX12_next yX12_next) := inT_0 (i := 32) rfl rfl
theorem tse_X12_sign : inT (.selects RX12 yX12_sign yX12_sign) := inT_0 (i := 33) rfl rfl
theorem tse_X12_isGood : inT (.selects RX12 yX12_isGood yX12_isGood) := inT_0 (i := 34) rfl rfl
theorem tse_X12_readLine : inT (.selects RX12 yX12_readLine yX12_readLine) := inT_0 (i := 35) rfl rfl
theorem tse_X12_isWord : inT (.selects RX12 yX12_isWord yX12_isWord) := inT_0 (i := 36) rfl rfl
theorem tse_X12_wrong : inT (.selects RX12 yX12_wrong yX12_wrong) := inT_0 (i := 37) rfl rfl
theorem tse_X12_fails : inT (.selects RX12 yX12_fails yX12_fails) := inT_0 (i := 38) rfl rfl
theorem tse_X12_e : inT (.selects RX12 yX12_e yX12_e) := inT_0 (i := 39) rfl rfl
theorem tse_X12_pile : inT (.selects RX12 yX12_pile yX12_pile) := inT_0 (i := 40) rfl rfl
theorem tse_X12_one : inT (.selects RX12 yX12_one yX12_one) := inT_0 (i := 41) rfl rfl
theorem tse_X12_is : inT (.selects RX12 yX12_is yX12_is) := inT_0 (i := 42) rfl rfl
theorem tse_X12_readSum : inT (.selects RX12 yX12_readSum yX12_readSum) := inT_0 (i := 43) rfl rfl
theorem tse_X12_readTerm : inT (.selects RX12 yX12_readTerm yX12_readTerm) := inT_0 (i := 44) rfl rfl
theorem tse_X12_termHere : inT (.selects RX12 yX12_termHere yX12_termHere) := inT_0 (i := 45) rfl rfl
theorem tse_X12_step : inT (.selects RX12 yX12_step yX12_step) := inT_0 (i := 46) rfl rfl
theorem tse_X12_behind : inT (.selects RX12 yX12_behind yX12_behind) := inT_0 (i := 47) rfl rfl
theorem tse_X12_must : inT (.selects RX12 yX12_must yX12_must) := inT_0 (i := 48) rfl rfl
theorem tse_X12_look : inT (.selects RX12 yX12_look yX12_look) := inT_0 (i := 49) rfl rfl
theorem tse_X12_isDead : inT (.selects RX12 yX12_isDead yX12_isDead) := inT_0 (i := 50) rfl rfl
theorem tse_X12_lineFor : inT (.selects RX12 yX12_lineFor yX12_lineFor) := inT_0 (i := 51) rfl rfl
theorem tse_X12_holds : inT (.selects RX12 yX12_holds yX12_holds) := inT_0 (i := 52) rfl rfl
theorem tse_X12_handDown : inT (.selects RX12 yX12_handDown yX12_handDown) := inT_0 (i := 53) rfl rfl
theorem tse_X12_isChild : inT (.selects RX12 yX12_isChild yX12_isChild) := inT_0 (i := 54) rfl rfl
theorem tse_X12_gets : inT (.selects RX12 yX12_gets yX12_gets) := inT_0 (i := 55) rfl rfl
theorem tse_X12_solve : inT (.selects RX12 yX12_solve yX12_solve) := inT_0 (i := 56) rfl rfl
theorem tse_X12_mayGet : inT (.selects RX12 yX12_mayGet yX12_mayGet) := inT_0 (i := 57) rfl rfl
theorem twX0 : ∀ w ∈ u_ws RX0 TX0 3, inT w := by
  intro w hw
  obtain ⟨k, hk, rfl⟩ := List.mem_map.mp hw
  rw [List.mem_range] at hk
  match k, hk with
  | 0, _ => exact inT_1 (i := 185) rfl rfl
  | 1, _ => exact inT_1 (i := 187) rfl rfl
  | 2, _ => exact inT_1 (i := 189) rfl rfl
  | k + 3, hk => exact absurd hk (by omega)
theorem twX1 : ∀ w ∈ u_ws RX1 TX1 3, inT w := by
  intro w hw
  obtain ⟨k, hk, rfl⟩ := List.mem_map.mp hw
  rw [List.mem_range] at hk
  match k, hk with
  | 0, _ => exact inT_1 (i := 87) rfl rfl
  | 1, _ => exact inT_1 (i := 89) rfl rfl
  | 2, _ => exact inT_1 (i := 91) rfl rfl
  | k + 3, hk => exact absurd hk (by omega)
theorem twX2 : ∀ w ∈ u_ws RX2 TX2 7, inT w := by
  intro w hw
  obtain ⟨k, hk, rfl⟩ := List.mem_map.mp hw
  rw [List.mem_range] at hk
  match k, hk with
  | 0, _ => exact inT_2 (i := 14) rfl rfl
  | 1, _ => exact inT_2 (i := 16) rfl rfl
  | 2, _ => exact inT_2 (i := 18) rfl rfl
  | 3, _ => exact inT_2 (i := 20) rfl rfl
  | 4, _ => exact inT_2 (i := 22) rfl rfl
  | 5, _ => exact inT_2 (i := 24) rfl rfl
  | 6, _ => exact inT_2 (i := 26) rfl rfl
  | k + 7, hk => exact absurd hk (by omega)
theorem twX3 : ∀ w ∈ u_ws RX3 TX3 10, inT w := by
  intro w hw
  obtain ⟨k, hk, rfl⟩ := List.mem_map.mp hw
  rw [List.mem_range] at hk
  match k, hk with
  | 0, _ => exact inT_1 (i := 123) rfl rfl
  | 1, _ => exact inT_1 (i := 125) rfl rfl
  | 2, _ => exact inT_1 (i := 127) rfl rfl
  | 3, _ => exact inT_1 (i := 129) rfl rfl
  | 4, _ => exact inT_1 (i := 131) rfl rfl
  | 5, _ => exact inT_1 (i := 133) rfl rfl
  | 6, _ => exact inT_1 (i := 135) rfl rfl
  | 7, _ => exact inT_1 (i := 137) rfl rfl
  | 8, _ => exact inT_1 (i := 139) rfl rfl
  | 9, _ => exact inT_1 (i := 141) rfl rfl
  | k + 10, hk => exact absurd hk (by omega)
theorem twX4 : ∀ w ∈ u_ws RX4 TX4 8, inT w := by
  intro w hw
  obtain ⟨k, hk, rfl⟩ := List.mem_map.mp hw
  rw [List.mem_range] at hk
  match k, hk with
  | 0, _ => exact inT_2 (i := 40) rfl rfl
  | 1, _ => exact inT_2 (i := 42) rfl rfl
  | 2, _ => exact inT_2 (i := 44) rfl rfl
  | 3, _ => exact inT_2 (i := 46) rfl rfl
  | 4, _ => exact inT_2 (i := 48) rfl rfl
  | 5, _ => exact inT_2 (i := 50) rfl rfl
  | 6, _ => exact inT_2 (i := 52) rfl rfl
  | 7, _ => exact inT_2 (i := 54) rfl rfl
  | k + 8, hk => exact absurd hk (by omega)
theorem twX5 : ∀ w ∈ u_ws RX5 TX5 4, inT w := by
  intro w hw
  obtain ⟨k, hk, rfl⟩ := List.mem_map.mp hw
  rw [List.mem_range] at hk
  match k, hk with
  | 0, _ => exact inT_1 (i := 41) rfl rfl
  | 1, _ => exact inT_1 (i := 43) rfl rfl
  | 2, _ => exact inT_1 (i := 45) rfl rfl
  | 3, _ => exact inT_1 (i := 47) rfl rfl
  | k + 4, hk => exact absurd hk (by omega)
theorem twX6 : ∀ w ∈ u_ws RX6 TX6 5, inT w := by
  intro w hw
  obtain ⟨k, hk, rfl⟩ := List.mem_map.mp hw
  rw [List.mem_range] at hk
  match k, hk with
  | 0, _ => exact inT_1 (i := 62) rfl rfl
  | 1, _ => exact inT_1 (i := 64) rfl rfl
  | 2, _ => exact inT_1 (i := 66) rfl rfl
  | 3, _ => exact inT_1 (i := 68) rfl rfl
  | 4, _ => exact inT_1 (i := 70) rfl rfl
  | k + 5, hk => exact absurd hk (by omega)
theorem twX7 : ∀ w ∈ u_ws RX7 TX7 6, inT w := by
  intro w hw
  obtain ⟨k, hk, rfl⟩ := List.mem_map.mp hw
  rw [List.mem_range] at hk
  match k, hk with
  | 0, _ => exact inT_2 (i := 72) rfl rfl
  | 1, _ => exact inT_2 (i := 74) rfl rfl
  | 2, _ => exact inT_2 (i := 76) rfl rfl
  | 3, _ => exact inT_2 (i := 78) rfl rfl
  | 4, _ => exact inT_2 (i := 80) rfl rfl
  | 5, _ => exact inT_2 (i := 82) rfl rfl
  | k + 6, hk => exact absurd hk (by omega)
theorem twX8 : ∀ w ∈ u_ws RX8 TX8 2, inT w := by
  intro w hw
  obtain ⟨k, hk, rfl⟩ := List.mem_map.mp hw
  rw [List.mem_range] at hk
  match k, hk with
  | 0, _ => exact inT_1 (i := 202) rfl rfl
  | 1, _ => exact inT_1 (i := 204) rfl rfl
  | k + 2, hk => exact absurd hk (by omega)
theorem twX9 : ∀ w ∈ u_ws RX9 TX9 4, inT w := by
  intro w hw
  obtain ⟨k, hk, rfl⟩ := List.mem_map.mp hw
  rw [List.mem_range] at hk
  match k, hk with
  | 0, _ => exact inT_1 (i := 222) rfl rfl
  | 1, _ => exact inT_1 (i := 224) rfl rfl
  | 2, _ => exact inT_1 (i := 226) rfl rfl
  | 3, _ => exact inT_1 (i := 228) rfl rfl
  | k + 4, hk => exact absurd hk (by omega)
theorem twX10 : ∀ w ∈ u_ws RX10 TX10 6, inT w := by
  intro w hw
  obtain ⟨k, hk, rfl⟩ := List.mem_map.mp hw
  rw [List.mem_range] at hk
  match k, hk with
  | 0, _ => exact inT_1 (i := 160) rfl rfl
  | 1, _ => exact inT_1 (i := 162) rfl rfl
  | 2, _ => exact inT_1 (i := 164) rfl rfl
  | 3, _ => exact inT_1 (i := 166) rfl rfl
  | 4, _ => exact inT_1 (i := 168) rfl rfl
  | 5, _ => exact inT_1 (i := 170) rfl rfl
  | k + 6, hk => exact absurd hk (by omega)
theorem twX11 : ∀ w ∈ u_ws RX11 TX11 13, inT w := by
  intro w hw
  obtain ⟨k, hk, rfl⟩ := List.mem_map.mp hw
  rw [List.mem_range] at hk
  match k, hk with
  | 0, _ => exact inT_2 (i := 100) rfl rfl
  | 1, _ => exact inT_2 (i := 102) rfl rfl
  | 2, _ => exact inT_2 (i := 104) rfl rfl
  | 3, _ => exact inT_2 (i := 106) rfl rfl
  | 4, _ => exact inT_2 (i := 108) rfl rfl
  | 5, _ => exact inT_2 (i := 110) rfl rfl
  | 6, _ => exact inT_2 (i := 112) rfl rfl
  | 7, _ => exact inT_2 (i := 114) rfl rfl
  | 8, _ => exact inT_2 (i := 116) rfl rfl
  | 9, _ => exact inT_2 (i := 118) rfl rfl
  | 10, _ => exact inT_2 (i := 120) rfl rfl
  | 11, _ => exact inT_2 (i := 122) rfl rfl
  | 12, _ => exact inT_2 (i := 124) rfl rfl
  | k + 13, hk => exact absurd hk (by omega)
theorem twX12 : ∀ w ∈ u_ws RX12 TX12 56, inT w := by
  intro w hw
  obtain ⟨k, hk, rfl⟩ := List.mem_map.mp hw
  rw [List.mem_range] at hk
  match k, hk with
  | 0, _ => exact inT_4 (i := 193) rfl rfl
  | 1, _ => exact inT_4 (i := 195) rfl rfl
  | 2, _ => exact inT_4 (i := 197) rfl rfl
  | 3, _ => exact inT_4 (i := 199) rfl rfl
  | 4, _ => exact inT_4 (i := 201) rfl rfl
  | 5, _ => exact inT_4 (i := 203) rfl rfl
  | 6, _ => exact inT_4 (i := 205) rfl rfl
  | 7, _ => exact inT_4 (i := 207) rfl rfl
  | 8, _ => exact inT_4 (i := 209) rfl rfl
  | 9, _ => exact inT_4 (i := 211) rfl rfl
  | 10, _ => exact inT_4 (i := 213) rfl rfl
  | 11, _ => exact inT_4 (i := 215) rfl rfl
  | 12, _ => exact inT_4 (i := 217) rfl rfl
  | 13, _ => exact inT_4 (i := 219) rfl rfl
  | 14, _ => exact inT_4 (i := 221) rfl rfl
  | 15, _ => exact inT_4 (i := 223) rfl rfl
  | 16, _ => exact inT_4 (i := 225) rfl rfl
  | 17, _ => exact inT_4 (i := 227) rfl rfl
  | 18, _ => exact inT_4 (i := 229) rfl rfl
  | 19, _ => exact inT_4 (i := 231) rfl rfl
  | 20, _ => exact inT_4 (i := 233) rfl rfl
  | 21, _ => exact inT_4 (i := 235) rfl rfl
  | 22, _ => exact inT_4 (i := 237) rfl rfl
  | 23, _ => exact inT_4 (i := 239) rfl rfl
  | 24, _ => exact inT_5 (i := 1) rfl rfl
  | 25, _ => exact inT_5 (i := 3) rfl rfl
  | 26, _ => exact inT_5 (i := 5) rfl rfl
  | 27, _ => exact inT_5 (i := 7) rfl rfl
  | 28, _ => exact inT_5 (i := 9) rfl rfl
  | 29, _ => exact inT_5 (i := 11) rfl rfl
  | 30, _ => exact inT_5 (i := 13) rfl rfl
  | 31, _ => exact inT_5 (i := 15) rfl rfl
  | 32, _ => exact inT_5 (i := 17) rfl rfl
  | 33, _ => exact inT_5 (i := 19) rfl rfl
  | 34, _ => exact inT_5 (i := 21) rfl rfl
  | 35, _ => exact inT_5 (i := 23) rfl rfl
  | 36, _ => exact inT_5 (i := 25) rfl rfl
  | 37, _ => exact inT_5 (i := 27) rfl rfl
  | 38, _ => exact inT_5 (i := 29) rfl rfl
  | 39, _ => exact inT_5 (i := 31) rfl rfl
  | 40, _ => exact inT_5 (i := 33) rfl rfl
  | 41, _ => exact inT_5 (i := 35) rfl rfl
  | 42, _ => exact inT_5 (i := 37) rfl rfl
  | 43, _ => exact inT_5 (i := 39) rfl rfl
  | 44, _ => exact inT_5 (i := 41) rfl rfl
  | 45, _ => exact inT_5 (i := 43) rfl rfl
  | 46, _ => exact inT_5 (i := 45) rfl rfl
  | 47, _ => exact inT_5 (i := 47) rfl rfl
  | 48, _ => exact inT_5 (i := 49) rfl rfl
  | 49, _ => exact inT_5 (i := 51) rfl rfl
  | 50, _ => exact inT_5 (i := 53) rfl rfl
  | 51, _ => exact inT_5 (i := 55) rfl rfl
  | 52, _ => exact inT_5 (i := 57) rfl rfl
  | 53, _ => exact inT_5 (i := 59) rfl rfl
  | 54, _ => exact inT_5 (i := 61) rfl rfl
  | 55, _ => exact inT_5 (i := 63) rfl rfl
  | k + 56, hk => exact absurd hk (by omega)
theorem tc_mmax : inT (.code Lib.Math.max.name Lib.Math.max.code 2 (some .int)) := inT_3 (i := 134) (by decide +kernel) rfl
theorem tc_mminl : inT (.code Lib.MathLoose.min_long.x Lib.MathLoose.min_long.code 4 (some .long)) := inT_4 (i := 27) (by decide +kernel) rfl
theorem lookup_mem {β : Type} {a : Nat} {b : β} : ∀ {l : List (Nat × β)}, List.lookup a l = some b → (a, b) ∈ l
  | [], h => by cases h
  | (c, v) :: l, h => by
    rw [List.lookup_cons] at h
    by_cases e : a = c
    · subst e; simp at h; subst h; exact List.mem_cons_self
    · have e2 : (a == c) = false := by simpa using e
      rw [e2] at h
      exact List.mem_cons_of_mem _ (lookup_mem h)
set_option maxHeartbeats 4000000 in
theorem fT_ok {kn idx : Nat} {c k : Nat} (h : fT kn idx = some (c, k)) : ∃ C T n, vwCl[c]? = some (C, T, n) ∧ k < n ∧ inT (.fieldLink (clsN kn) idx (T k).1 (T k).2.1 (T k).2.2.1) := by
  unfold fT at h
  split at h
  · have hm := lookup_mem h
    simp only [List.mem_cons, List.not_mem_nil, or_false, Prod.mk.injEq] at hm
    rcases hm with ⟨rfl, ⟨rfl, rfl⟩⟩ | ⟨rfl, ⟨rfl, rfl⟩⟩
    · exact ⟨_, _, _, rfl, by decide, tf_X0_11⟩
    · exact ⟨_, _, _, rfl, by decide, tf_X0_18⟩
  · have hm := lookup_mem h
    simp only [List.mem_cons, List.not_mem_nil, or_false, Prod.mk.injEq] at hm
    rcases hm with ⟨rfl, ⟨rfl, rfl⟩⟩ | ⟨rfl, ⟨rfl, rfl⟩⟩ | ⟨rfl, ⟨rfl, rfl⟩⟩
    · exact ⟨_, _, _, rfl, by decide, tf_X1_11⟩
    · exact ⟨_, _, _, rfl, by decide, tf_X1_15⟩
    · exact ⟨_, _, _, rfl, by decide, tf_X1_18⟩
  · have hm := lookup_mem h
    simp only [List.mem_cons, List.not_mem_nil, or_false, Prod.mk.injEq] at hm
    rcases hm with ⟨rfl, ⟨rfl, rfl⟩⟩ | ⟨rfl, ⟨rfl, rfl⟩⟩ | ⟨rfl, ⟨rfl, rfl⟩⟩ | ⟨rfl, ⟨rfl, rfl⟩⟩ | ⟨rfl, ⟨rfl, rfl⟩⟩ | ⟨rfl, ⟨rfl, rfl⟩⟩ | ⟨rfl, ⟨rfl, rfl⟩⟩
    · exact ⟨_, _, _, rfl, by decide, tf_X2_11⟩
    · exact ⟨_, _, _, rfl, by decide, tf_X2_17⟩
    · exact ⟨_, _, _, rfl, by decide, tf_X2_20⟩
    · exact ⟨_, _, _, rfl, by decide, tf_X2_23⟩
    · exact ⟨_, _, _, rfl, by decide, tf_X2_26⟩
    · exact ⟨_, _, _, rfl, by decide, tf_X2_29⟩
    · exact ⟨_, _, _, rfl, by decide, tf_X2_33⟩
  · have hm := lookup_mem h
    simp only [List.mem_cons, List.not_mem_nil, or_false, Prod.mk.injEq] at hm
    rcases hm with ⟨rfl, ⟨rfl, rfl⟩⟩ | ⟨rfl, ⟨rfl, rfl⟩⟩ | ⟨rfl, ⟨rfl, rfl⟩⟩ | ⟨rfl, ⟨rfl, rfl⟩⟩ | ⟨rfl, ⟨rfl, rfl⟩⟩ | ⟨rfl, ⟨rfl, rfl⟩⟩ | ⟨rfl, ⟨rfl, rfl⟩⟩ | ⟨rfl, ⟨rfl, rfl⟩⟩ | ⟨rfl, ⟨rfl, rfl⟩⟩ | ⟨rfl, ⟨rfl, rfl⟩⟩
    · exact ⟨_, _, _, rfl, by decide, tf_X3_11⟩
    · exact ⟨_, _, _, rfl, by decide, tf_X3_15⟩
    · exact ⟨_, _, _, rfl, by decide, tf_X3_18⟩
    · exact ⟨_, _, _, rfl, by decide, tf_X3_21⟩
    · exact ⟨_, _, _, rfl, by decide, tf_X3_24⟩
    · exact ⟨_, _, _, rfl, by decide, tf_X3_27⟩
    · exact ⟨_, _, _, rfl, by decide, tf_X3_30⟩
    · exact ⟨_, _, _, rfl, by decide, tf_X3_33⟩
    · exact ⟨_, _, _, rfl, by decide, tf_X3_36⟩
    · exact ⟨_, _, _, rfl, by decide, tf_X3_39⟩
  · have hm := lookup_mem h
    simp only [List.mem_cons, List.not_mem_nil, or_false, Prod.mk.injEq] at hm
    rcases hm with ⟨rfl, ⟨rfl, rfl⟩⟩ | ⟨rfl, ⟨rfl, rfl⟩⟩ | ⟨rfl, ⟨rfl, rfl⟩⟩ | ⟨rfl, ⟨rfl, rfl⟩⟩ | ⟨rfl, ⟨rfl, rfl⟩⟩ | ⟨rfl, ⟨rfl, rfl⟩⟩ | ⟨rfl, ⟨rfl, rfl⟩⟩ | ⟨rfl, ⟨rfl, rfl⟩⟩ | ⟨rfl, ⟨rfl, rfl⟩⟩ | ⟨rfl, ⟨rfl, rfl⟩⟩ | ⟨rfl, ⟨rfl, rfl⟩⟩ | ⟨rfl, ⟨rfl, rfl⟩⟩
    · exact ⟨_, _, _, rfl, by decide, tf_X4_12⟩
    · exact ⟨_, _, _, rfl, by decide, tf_X4_18⟩
    · exact ⟨_, _, _, rfl, by decide, tf_X4_22⟩
    · exact ⟨_, _, _, rfl, by decide, tf_X4_25⟩
    · exact ⟨_, _, _, rfl, by decide, tf_X4_30⟩
    · exact ⟨_, _, _, rfl, by decide, tf_X4_33⟩
    · exact ⟨_, _, _, rfl, by decide, tf_X4_36⟩
    · exact ⟨_, _, _, rfl, by decide, tf_X4_39⟩
    · exact ⟨_, _, _, rfl, by decide, tf_X4_57⟩
    · exact ⟨_, _, _, rfl, by decide, tf_X4_60⟩
    · exact ⟨_, _, _, rfl, by decide, tf_X4_64⟩
    · exact ⟨_, _, _, rfl, by decide, tf_X4_68⟩
  · have hm := lookup_mem h
    simp only [List.mem_cons, List.not_mem_nil, or_false, Prod.mk.injEq] at hm
    rcases hm with ⟨rfl, ⟨rfl, rfl⟩⟩ | ⟨rfl, ⟨rfl, rfl⟩⟩ | ⟨rfl, ⟨rfl, rfl⟩⟩ | ⟨rfl, ⟨rfl, rfl⟩⟩
    · exact ⟨_, _, _, rfl, by decide, tf_X5_11⟩
    · exact ⟨_, _, _, rfl, by decide, tf_X5_15⟩
    · exact ⟨_, _, _, rfl, by decide, tf_X5_18⟩
    · exact ⟨_, _, _, rfl, by decide, tf_X5_21⟩
  · have hm := lookup_mem h
    simp only [List.mem_cons, List.not_mem_nil, or_false, Prod.mk.injEq] at hm
    rcases hm with ⟨rfl, ⟨rfl, rfl⟩⟩ | ⟨rfl, ⟨rfl, rfl⟩⟩ | ⟨rfl, ⟨rfl, rfl⟩⟩ | ⟨rfl, ⟨rfl, rfl⟩⟩ | ⟨rfl, ⟨rfl, rfl⟩⟩ | ⟨rfl, ⟨rfl, rfl⟩⟩
    · exact ⟨_, _, _, rfl, by decide, tf_X6_9⟩
    · exact ⟨_, _, _, rfl, by decide, tf_X6_15⟩
    · exact ⟨_, _, _, rfl, by decide, tf_X6_19⟩
    · exact ⟨_, _, _, rfl, by decide, tf_X6_23⟩
    · exact ⟨_, _, _, rfl, by decide, tf_X6_27⟩
    · exact ⟨_, _, _, rfl, by decide, tf_X6_35⟩
  · have hm := lookup_mem h
    simp only [List.mem_cons, List.not_mem_nil, or_false, Prod.mk.injEq] at hm
    rcases hm with ⟨rfl, ⟨rfl, rfl⟩⟩ | ⟨rfl, ⟨rfl, rfl⟩⟩ | ⟨rfl, ⟨rfl, rfl⟩⟩ | ⟨rfl, ⟨rfl, rfl⟩⟩ | ⟨rfl, ⟨rfl, rfl⟩⟩ | ⟨rfl, ⟨rfl, rfl⟩⟩
    · exact ⟨_, _, _, rfl, by decide, tf_X7_11⟩
    · exact ⟨_, _, _, rfl, by decide, tf_X7_17⟩
    · exact ⟨_, _, _, rfl, by decide, tf_X7_20⟩
    · exact ⟨_, _, _, rfl, by decide, tf_X7_23⟩
    · exact ⟨_, _, _, rfl, by decide, tf_X7_27⟩
    · exact ⟨_, _, _, rfl, by decide, tf_X7_30⟩
  · have hm := lookup_mem h
    simp only [List.mem_cons, List.not_mem_nil, or_false, Prod.mk.injEq] at hm
    rcases hm with ⟨rfl, ⟨rfl, rfl⟩⟩ | ⟨rfl, ⟨rfl, rfl⟩⟩
    · exact ⟨_, _, _, rfl, by decide, tf_X8_9⟩
    · exact ⟨_, _, _, rfl, by decide, tf_X8_13⟩
  · have hm := lookup_mem h
    simp only [List.mem_cons, List.not_mem_nil, or_false, Prod.mk.injEq] at hm
    rcases hm with ⟨rfl, ⟨rfl, rfl⟩⟩ | ⟨rfl, ⟨rfl, rfl⟩⟩ | ⟨rfl, ⟨rfl, rfl⟩⟩ | ⟨rfl, ⟨rfl, rfl⟩⟩
    · exact ⟨_, _, _, rfl, by decide, tf_X9_11⟩
    · exact ⟨_, _, _, rfl, by decide, tf_X9_17⟩
    · exact ⟨_, _, _, rfl, by decide, tf_X9_21⟩
    · exact ⟨_, _, _, rfl, by decide, tf_X9_25⟩
  · have hm := lookup_mem h
    simp only [List.mem_cons, List.not_mem_nil, or_false, Prod.mk.injEq] at hm
    rcases hm with ⟨rfl, ⟨rfl, rfl⟩⟩ | ⟨rfl, ⟨rfl, rfl⟩⟩ | ⟨rfl, ⟨rfl, rfl⟩⟩ | ⟨rfl, ⟨rfl, rfl⟩⟩ | ⟨rfl, ⟨rfl, rfl⟩⟩ | ⟨rfl, ⟨rfl, rfl⟩⟩ | ⟨rfl, ⟨rfl, rfl⟩⟩ | ⟨rfl, ⟨rfl, rfl⟩⟩ | ⟨rfl, ⟨rfl, rfl⟩⟩ | ⟨rfl, ⟨rfl, rfl⟩⟩ | ⟨rfl, ⟨rfl, rfl⟩⟩ | ⟨rfl, ⟨rfl, rfl⟩⟩ | ⟨rfl, ⟨rfl, rfl⟩⟩
    · exact ⟨_, _, _, rfl, by decide, tf_X10_9⟩
    · exact ⟨_, _, _, rfl, by decide, tf_X10_15⟩
    · exact ⟨_, _, _, rfl, by decide, tf_X10_19⟩
    · exact ⟨_, _, _, rfl, by decide, tf_X10_22⟩
    · exact ⟨_, _, _, rfl, by decide, tf_X10_25⟩
    · exact ⟨_, _, _, rfl, by decide, tf_X10_29⟩
    · exact ⟨_, _, _, rfl, by decide, tf_X10_39⟩
    · exact ⟨_, _, _, rfl, by decide, tf_X10_43⟩
    · exact ⟨_, _, _, rfl, by decide, tf_X10_48⟩
    · exact ⟨_, _, _, rfl, by decide, tf_X10_51⟩
    · exact ⟨_, _, _, rfl, by decide, tf_X10_53⟩
    · exact ⟨_, _, _, rfl, by decide, tf_X10_60⟩
    · exact ⟨_, _, _, rfl, by decide, tf_X10_66⟩
  · have hm := lookup_mem h
    simp only [List.mem_cons, List.not_mem_nil, or_false, Prod.mk.injEq] at hm
    rcases hm with ⟨rfl, ⟨rfl, rfl⟩⟩ | ⟨rfl, ⟨rfl, rfl⟩⟩ | ⟨rfl, ⟨rfl, rfl⟩⟩ | ⟨rfl, ⟨rfl, rfl⟩⟩ | ⟨rfl, ⟨rfl, rfl⟩⟩ | ⟨rfl, ⟨rfl, rfl⟩⟩ | ⟨rfl, ⟨rfl, rfl⟩⟩ | ⟨rfl, ⟨rfl, rfl⟩⟩ | ⟨rfl, ⟨rfl, rfl⟩⟩ | ⟨rfl, ⟨rfl, rfl⟩⟩ | ⟨rfl, ⟨rfl, rfl⟩⟩ | ⟨rfl, ⟨rfl, rfl⟩⟩ | ⟨rfl, ⟨rfl, rfl⟩⟩ | ⟨rfl, ⟨rfl, rfl⟩⟩ | ⟨rfl, ⟨rfl, rfl⟩⟩ | ⟨rfl, ⟨rfl, rfl⟩⟩ | ⟨rfl, ⟨rfl, rfl⟩⟩ | ⟨rfl, ⟨rfl, rfl⟩⟩ | ⟨rfl, ⟨rfl, rfl⟩⟩ | ⟨rfl, ⟨rfl, rfl⟩⟩ | ⟨rfl, ⟨rfl, rfl⟩⟩ | ⟨rfl, ⟨rfl, rfl⟩⟩ | ⟨rfl, ⟨rfl, rfl⟩⟩ | ⟨rfl, ⟨rfl, rfl⟩⟩ | ⟨rfl, ⟨rfl, rfl⟩⟩ | ⟨rfl, ⟨rfl, rfl⟩⟩ | ⟨rfl, ⟨rfl, rfl⟩⟩ | ⟨rfl, ⟨rfl, rfl⟩⟩ | ⟨rfl, ⟨rfl, rfl⟩⟩ | ⟨rfl, ⟨rfl, rfl⟩⟩ | ⟨rfl, ⟨rfl, rfl⟩⟩ | ⟨rfl, ⟨rfl, rfl⟩⟩ | ⟨rfl, ⟨rfl, rfl⟩⟩ | ⟨rfl, ⟨rfl, rfl⟩⟩ | ⟨rfl, ⟨rfl, rfl⟩⟩ | ⟨rfl, ⟨rfl, rfl⟩⟩ | ⟨rfl, ⟨rfl, rfl⟩⟩ | ⟨rfl, ⟨rfl, rfl⟩⟩ | ⟨rfl, ⟨rfl, rfl⟩⟩ | ⟨rfl, ⟨rfl, rfl⟩⟩ | ⟨rfl, ⟨rfl, rfl⟩⟩
    · exact ⟨_, _, _, rfl, by decide, tf_X11_10⟩
    · exact ⟨_, _, _, rfl, by decide, tf_X11_21⟩
    · exact ⟨_, _, _, rfl, by decide, tf_X11_28⟩
    · exact ⟨_, _, _, rfl, by decide, tf_X11_32⟩
    · exact ⟨_, _, _, rfl, by decide, tf_X11_39⟩
    · exact ⟨_, _, _, rfl, by decide, tf_X11_48⟩
    · exact ⟨_, _, _, rfl, by decide, tf_X11_55⟩
    · exact ⟨_, _, _, rfl, by decide, tf_X11_62⟩
    · exact ⟨_, _, _, rfl, by decide, tf_X11_69⟩
    · exact ⟨_, _, _, rfl, by decide, tf_X11_78⟩
    · exact ⟨_, _, _, rfl, by decide, tf_X11_85⟩
    · exact ⟨_, _, _, rfl, by decide, tf_X11_92⟩
    · exact ⟨_, _, _, rfl, by decide, tf_X11_96⟩
    · exact ⟨_, _, _, rfl, by decide, tf_X11_119⟩
    · exact ⟨_, _, _, rfl, by decide, tf_X11_150⟩
    · exact ⟨_, _, _, rfl, by decide, tf_X11_156⟩
    · exact ⟨_, _, _, rfl, by decide, tf_X11_158⟩
    · exact ⟨_, _, _, rfl, by decide, tf_X11_168⟩
    · exact ⟨_, _, _, rfl, by decide, tf_X11_174⟩
    · exact ⟨_, _, _, rfl, by decide, tf_X11_186⟩
    · exact ⟨_, _, _, rfl, by decide, tf_X11_189⟩
    · exact ⟨_, _, _, rfl, by decide, tf_X11_192⟩
    · exact ⟨_, _, _, rfl, by decide, tf_X11_195⟩
    · exact ⟨_, _, _, rfl, by decide, tf_X11_205⟩
    · exact ⟨_, _, _, rfl, by decide, tf_X11_212⟩
    · exact ⟨_, _, _, rfl, by decide, tf_X11_215⟩
    · exact ⟨_, _, _, rfl, by decide, tf_X11_236⟩
    · exact ⟨_, _, _, rfl, by decide, tf_X11_239⟩
    · exact ⟨_, _, _, rfl, by decide, tf_X11_242⟩
    · exact ⟨_, _, _, rfl, by decide, tf_X11_243⟩
    · exact ⟨_, _, _, rfl, by decide, tf_X11_244⟩
    · exact ⟨_, _, _, rfl, by decide, tf_X11_245⟩
    · exact ⟨_, _, _, rfl, by decide, tf_X11_250⟩
    · exact ⟨_, _, _, rfl, by decide, tf_X11_252⟩
    · exact ⟨_, _, _, rfl, by decide, tf_X11_255⟩
    · exact ⟨_, _, _, rfl, by decide, tf_X11_265⟩
    · exact ⟨_, _, _, rfl, by decide, tf_X11_268⟩
    · exact ⟨_, _, _, rfl, by decide, tf_X11_271⟩
    · exact ⟨_, _, _, rfl, by decide, tf_X11_274⟩
    · exact ⟨_, _, _, rfl, by decide, tf_X11_277⟩
    · exact ⟨_, _, _, rfl, by decide, tf_X11_283⟩
  · have hm := lookup_mem h
    simp only [List.mem_cons, List.not_mem_nil, or_false, Prod.mk.injEq] at hm
    rcases hm with ⟨rfl, ⟨rfl, rfl⟩⟩ | ⟨rfl, ⟨rfl, rfl⟩⟩ | ⟨rfl, ⟨rfl, rfl⟩⟩ | ⟨rfl, ⟨rfl, rfl⟩⟩ | ⟨rfl, ⟨rfl, rfl⟩⟩ | ⟨rfl, ⟨rfl, rfl⟩⟩ | ⟨rfl, ⟨rfl, rfl⟩⟩ | ⟨rfl, ⟨rfl, rfl⟩⟩ | ⟨rfl, ⟨rfl, rfl⟩⟩ | ⟨rfl, ⟨rfl, rfl⟩⟩ | ⟨rfl, ⟨rfl, rfl⟩⟩ | ⟨rfl, ⟨rfl, rfl⟩⟩ | ⟨rfl, ⟨rfl, rfl⟩⟩ | ⟨rfl, ⟨rfl, rfl⟩⟩ | ⟨rfl, ⟨rfl, rfl⟩⟩ | ⟨rfl, ⟨rfl, rfl⟩⟩ | ⟨rfl, ⟨rfl, rfl⟩⟩ | ⟨rfl, ⟨rfl, rfl⟩⟩ | ⟨rfl, ⟨rfl, rfl⟩⟩ | ⟨rfl, ⟨rfl, rfl⟩⟩ | ⟨rfl, ⟨rfl, rfl⟩⟩ | ⟨rfl, ⟨rfl, rfl⟩⟩ | ⟨rfl, ⟨rfl, rfl⟩⟩ | ⟨rfl, ⟨rfl, rfl⟩⟩ | ⟨rfl, ⟨rfl, rfl⟩⟩ | ⟨rfl, ⟨rfl, rfl⟩⟩ | ⟨rfl, ⟨rfl, rfl⟩⟩ | ⟨rfl, ⟨rfl, rfl⟩⟩ | ⟨rfl, ⟨rfl, rfl⟩⟩ | ⟨rfl, ⟨rfl, rfl⟩⟩ | ⟨rfl, ⟨rfl, rfl⟩⟩ | ⟨rfl, ⟨rfl, rfl⟩⟩ | ⟨rfl, ⟨rfl, rfl⟩⟩ | ⟨rfl, ⟨rfl, rfl⟩⟩ | ⟨rfl, ⟨rfl, rfl⟩⟩ | ⟨rfl, ⟨rfl, rfl⟩⟩ | ⟨rfl, ⟨rfl, rfl⟩⟩ | ⟨rfl, ⟨rfl, rfl⟩⟩ | ⟨rfl, ⟨rfl, rfl⟩⟩ | ⟨rfl, ⟨rfl, rfl⟩⟩ | ⟨rfl, ⟨rfl, rfl⟩⟩ | ⟨rfl, ⟨rfl, rfl⟩⟩ | ⟨rfl, ⟨rfl, rfl⟩⟩ | ⟨rfl, ⟨rfl, rfl⟩⟩ | ⟨rfl, ⟨rfl, rfl⟩⟩ | ⟨rfl, ⟨rfl, rfl⟩⟩ | ⟨rfl, ⟨rfl, rfl⟩⟩ | ⟨rfl, ⟨rfl, rfl⟩⟩ | ⟨rfl, ⟨rfl, rfl⟩⟩ | ⟨rfl, ⟨rfl, rfl⟩⟩ | ⟨rfl, ⟨rfl, rfl⟩⟩ | ⟨rfl, ⟨rfl, rfl⟩⟩ | ⟨rfl, ⟨rfl, rfl⟩⟩ | ⟨rfl, ⟨rfl, rfl⟩⟩ | ⟨rfl, ⟨rfl, rfl⟩⟩ | ⟨rfl, ⟨rfl, rfl⟩⟩
    · exact ⟨_, _, _, rfl, by decide, tf_X12_7⟩
    · exact ⟨_, _, _, rfl, by decide, tf_X12_13⟩
    · exact ⟨_, _, _, rfl, by decide, tf_X12_16⟩
    · exact ⟨_, _, _, rfl, by decide, tf_X12_19⟩
    · exact ⟨_, _, _, rfl, by decide, tf_X12_22⟩
    · exact ⟨_, _, _, rfl, by decide, tf_X12_25⟩
    · exact ⟨_, _, _, rfl, by decide, tf_X12_28⟩
    · exact ⟨_, _, _, rfl, by decide, tf_X12_31⟩
    · exact ⟨_, _, _, rfl, by decide, tf_X12_34⟩
    · exact ⟨_, _, _, rfl, by decide, tf_X12_37⟩
    · exact ⟨_, _, _, rfl, by decide, tf_X12_40⟩
    · exact ⟨_, _, _, rfl, by decide, tf_X12_43⟩
    · exact ⟨_, _, _, rfl, by decide, tf_X12_46⟩
    · exact ⟨_, _, _, rfl, by decide, tf_X12_49⟩
    · exact ⟨_, _, _, rfl, by decide, tf_X12_52⟩
    · exact ⟨_, _, _, rfl, by decide, tf_X12_55⟩
    · exact ⟨_, _, _, rfl, by decide, tf_X12_59⟩
    · exact ⟨_, _, _, rfl, by decide, tf_X12_63⟩
    · exact ⟨_, _, _, rfl, by decide, tf_X12_66⟩
    · exact ⟨_, _, _, rfl, by decide, tf_X12_70⟩
    · exact ⟨_, _, _, rfl, by decide, tf_X12_73⟩
    · exact ⟨_, _, _, rfl, by decide, tf_X12_76⟩
    · exact ⟨_, _, _, rfl, by decide, tf_X12_79⟩
    · exact ⟨_, _, _, rfl, by decide, tf_X12_82⟩
    · exact ⟨_, _, _, rfl, by decide, tf_X12_85⟩
    · exact ⟨_, _, _, rfl, by decide, tf_X12_88⟩
    · exact ⟨_, _, _, rfl, by decide, tf_X12_91⟩
    · exact ⟨_, _, _, rfl, by decide, tf_X12_94⟩
    · exact ⟨_, _, _, rfl, by decide, tf_X12_97⟩
    · exact ⟨_, _, _, rfl, by decide, tf_X12_100⟩
    · exact ⟨_, _, _, rfl, by decide, tf_X12_103⟩
    · exact ⟨_, _, _, rfl, by decide, tf_X12_107⟩
    · exact ⟨_, _, _, rfl, by decide, tf_X12_110⟩
    · exact ⟨_, _, _, rfl, by decide, tf_X12_113⟩
    · exact ⟨_, _, _, rfl, by decide, tf_X12_116⟩
    · exact ⟨_, _, _, rfl, by decide, tf_X12_119⟩
    · exact ⟨_, _, _, rfl, by decide, tf_X12_122⟩
    · exact ⟨_, _, _, rfl, by decide, tf_X12_149⟩
    · exact ⟨_, _, _, rfl, by decide, tf_X12_152⟩
    · exact ⟨_, _, _, rfl, by decide, tf_X12_158⟩
    · exact ⟨_, _, _, rfl, by decide, tf_X12_169⟩
    · exact ⟨_, _, _, rfl, by decide, tf_X12_172⟩
    · exact ⟨_, _, _, rfl, by decide, tf_X12_175⟩
    · exact ⟨_, _, _, rfl, by decide, tf_X12_178⟩
    · exact ⟨_, _, _, rfl, by decide, tf_X12_185⟩
    · exact ⟨_, _, _, rfl, by decide, tf_X12_191⟩
    · exact ⟨_, _, _, rfl, by decide, tf_X12_198⟩
    · exact ⟨_, _, _, rfl, by decide, tf_X12_233⟩
    · exact ⟨_, _, _, rfl, by decide, tf_X12_236⟩
    · exact ⟨_, _, _, rfl, by decide, tf_X12_239⟩
    · exact ⟨_, _, _, rfl, by decide, tf_X12_242⟩
    · exact ⟨_, _, _, rfl, by decide, tf_X12_245⟩
    · exact ⟨_, _, _, rfl, by decide, tf_X12_277⟩
    · exact ⟨_, _, _, rfl, by decide, tf_X12_280⟩
    · exact ⟨_, _, _, rfl, by decide, tf_X12_315⟩
    · exact ⟨_, _, _, rfl, by decide, tf_X12_353⟩
  · cases h
set_option maxHeartbeats 4000000 in
theorem vT_ok {kn idx : Nat} {y' : Yt} (h : vT kn idx = some y') : inT (.methodLink (clsN kn) idx y'.1) ∧ inT (.instanceMethod y'.1) ∧ inT (.selects y'.1.cls y'.1 y'.1) ∧ inT (.initialized y'.1.cls) ∧ inT (.code y'.1 y'.2.1 y'.2.2.1 y'.2.2.2.1) ∧ notH y' := by
  unfold vT at h
  split at h
  · have hm := lookup_mem h
    simp only [List.mem_cons, List.not_mem_nil, or_false, Prod.mk.injEq] at hm
    rcases hm with ⟨rfl, rfl⟩
    · exact ⟨tm_X0_22, ti_X0_isClaimed, tse_X0_isClaimed, tin_X0, tc_X0_isClaimed, ⟨⟨by decide, by decide⟩, by decide⟩⟩
  · have hm := lookup_mem h
    simp only [List.mem_cons, List.not_mem_nil, or_false, Prod.mk.injEq] at hm
    rcases hm with ⟨rfl, rfl⟩
    · exact ⟨tm_X2_36, ti_X2_valueOf, tse_X2_valueOf, tin_X2, tc_X2_valueOf, ⟨⟨by decide, by decide⟩, by decide⟩⟩
  · have hm := lookup_mem h
    simp only [List.mem_cons, List.not_mem_nil, or_false, Prod.mk.injEq] at hm
    rcases hm with ⟨rfl, rfl⟩ | ⟨rfl, rfl⟩
    · exact ⟨tm_X3_43, ti_X3_putInOrder, tse_X3_putInOrder, tin_X3, tc_X3_putInOrder, ⟨⟨by decide, by decide⟩, by decide⟩⟩
    · exact ⟨tm_X3_47, ti_X3_has, tse_X3_has, tin_X3, tc_X3_has, ⟨⟨by decide, by decide⟩, by decide⟩⟩
  · have hm := lookup_mem h
    simp only [List.mem_cons, List.not_mem_nil, or_false, Prod.mk.injEq] at hm
    rcases hm with ⟨rfl, rfl⟩ | ⟨rfl, rfl⟩ | ⟨rfl, rfl⟩ | ⟨rfl, rfl⟩ | ⟨rfl, rfl⟩ | ⟨rfl, rfl⟩ | ⟨rfl, rfl⟩ | ⟨rfl, rfl⟩ | ⟨rfl, rfl⟩ | ⟨rfl, rfl⟩ | ⟨rfl, rfl⟩ | ⟨rfl, rfl⟩
    · exact ⟨tm_X4_43, ti_X2_clear, tse_X2_clear, tin_X2, tc_X2_clear, ⟨⟨by decide, by decide⟩, by decide⟩⟩
    · exact ⟨tm_X4_46, ti_X4_moveTo, tse_X4_moveTo, tin_X4, tc_X4_moveTo, ⟨⟨by decide, by decide⟩, by decide⟩⟩
    · exact ⟨tm_X4_50, ti_X4_parseLine, tse_X4_parseLine, tin_X4, tc_X4_parseLine, ⟨⟨by decide, by decide⟩, by decide⟩⟩
    · exact ⟨tm_X4_54, ti_X4_refuse, tse_X4_refuse, tin_X4, tc_X4_refuse, ⟨⟨by decide, by decide⟩, by decide⟩⟩
    · exact ⟨tm_X4_72, ti_X4_take, tse_X4_take, tin_X4, tc_X4_take, ⟨⟨by decide, by decide⟩, by decide⟩⟩
    · exact ⟨tm_X4_76, ti_X4_parseEither, tse_X4_parseEither, tin_X4, tc_X4_parseEither, ⟨⟨by decide, by decide⟩, by decide⟩⟩
    · exact ⟨tm_X4_79, ti_X4_parseRuling, tse_X4_parseRuling, tin_X4, tc_X4_parseRuling, ⟨⟨by decide, by decide⟩, by decide⟩⟩
    · exact ⟨tm_X4_82, ti_X2_closeLine, tse_X2_closeLine, tin_X2, tc_X2_closeLine, ⟨⟨by decide, by decide⟩, by decide⟩⟩
    · exact ⟨tm_X4_86, ti_X4_parseBoth, tse_X4_parseBoth, tin_X4, tc_X4_parseBoth, ⟨⟨by decide, by decide⟩, by decide⟩⟩
    · exact ⟨tm_X4_89, ti_X2_write, tse_X2_write, tin_X2, tc_X2_write, ⟨⟨by decide, by decide⟩, by decide⟩⟩
    · exact ⟨tm_X4_92, ti_X4_parseOne, tse_X4_parseOne, tin_X4, tc_X4_parseOne, ⟨⟨by decide, by decide⟩, by decide⟩⟩
    · exact ⟨tm_X4_95, ti_X4_parseSum, tse_X4_parseSum, tin_X4, tc_X4_parseSum, ⟨⟨by decide, by decide⟩, by decide⟩⟩
  · have hm := lookup_mem h
    simp only [List.mem_cons, List.not_mem_nil, or_false, Prod.mk.injEq] at hm
    rcases hm with ⟨rfl, rfl⟩ | ⟨rfl, rfl⟩
    · exact ⟨tm_X5_25, ti_X5_canBeParent, tse_X5_canBeParent, tin_X5, tc_X5_canBeParent, ⟨⟨by decide, by decide⟩, by decide⟩⟩
    · exact ⟨tm_X5_29, ti_X5_has, tse_X5_has, tin_X5, tc_X5_has, ⟨⟨by decide, by decide⟩, by decide⟩⟩
  · have hm := lookup_mem h
    simp only [List.mem_cons, List.not_mem_nil, or_false, Prod.mk.injEq] at hm
    rcases hm with ⟨rfl, rfl⟩ | ⟨rfl, rfl⟩ | ⟨rfl, rfl⟩ | ⟨rfl, rfl⟩ | ⟨rfl, rfl⟩
    · exact ⟨tm_X6_31, ti_X6_findHeirs, tse_X6_findHeirs, tin_X6, tc_X6_findHeirs, ⟨⟨by decide, by decide⟩, by decide⟩⟩
    · exact ⟨tm_X6_39, ti_X5_isDeadOn, tse_X5_isDeadOn, tin_X5, tc_X5_isDeadOn, ⟨⟨by decide, by decide⟩, by decide⟩⟩
    · exact ⟨tm_X6_43, ti_X6_handOn, tse_X6_handOn, tin_X6, tc_X6_handOn, ⟨⟨by decide, by decide⟩, by decide⟩⟩
    · exact ⟨tm_X6_46, ti_X6_isHeir, tse_X6_isHeir, tin_X6, tc_X6_isHeir, ⟨⟨by decide, by decide⟩, by decide⟩⟩
    · exact ⟨tm_X6_49, ti_X5_isChildOf, tse_X5_isChildOf, tin_X5, tc_X5_isChildOf, ⟨⟨by decide, by decide⟩, by decide⟩⟩
  · have hm := lookup_mem h
    simp only [List.mem_cons, List.not_mem_nil, or_false, Prod.mk.injEq] at hm
    rcases hm with ⟨rfl, rfl⟩ | ⟨rfl, rfl⟩ | ⟨rfl, rfl⟩
    · exact ⟨tm_X7_34, ti_X7_greatestBehind, tse_X7_greatestBehind, tin_X7, tc_X7_greatestBehind, ⟨⟨by decide, by decide⟩, by decide⟩⟩
    · exact ⟨tm_X7_38, ti_X7_choose, tse_X7_choose, tin_X7, tc_X7_choose, ⟨⟨by decide, by decide⟩, by decide⟩⟩
    · exact ⟨tm_X7_41, ti_X7_joyWith, tse_X7_joyWith, tin_X7, tc_X7_joyWith, ⟨⟨by decide, by decide⟩, by decide⟩⟩
  · have hm := lookup_mem h
    simp only [List.mem_cons, List.not_mem_nil, or_false, Prod.mk.injEq] at hm
    rcases hm with ⟨rfl, rfl⟩
    · exact ⟨tm_X8_17, ti_X8_hasRoomFor, tse_X8_hasRoomFor, tin_X8, tc_X8_hasRoomFor, ⟨⟨by decide, by decide⟩, by decide⟩⟩
  · have hm := lookup_mem h
    simp only [List.mem_cons, List.not_mem_nil, or_false, Prod.mk.injEq] at hm
    rcases hm with ⟨rfl, rfl⟩ | ⟨rfl, rfl⟩ | ⟨rfl, rfl⟩ | ⟨rfl, rfl⟩ | ⟨rfl, rfl⟩ | ⟨rfl, rfl⟩ | ⟨rfl, rfl⟩
    · exact ⟨tm_X9_33, ti_X9_scanToken, tse_X9_scanToken, tin_X9, tc_X9_scanToken, ⟨⟨by decide, by decide⟩, by decide⟩⟩
    · exact ⟨tm_X9_37, ti_X9_add, tse_X9_add, tin_X9, tc_X9_add, ⟨⟨by decide, by decide⟩, by decide⟩⟩
    · exact ⟨tm_X9_44, ti_X9_scanWord, tse_X9_scanWord, tin_X9, tc_X9_scanWord, ⟨⟨by decide, by decide⟩, by decide⟩⟩
    · exact ⟨tm_X9_50, ti_X9_scanNumber, tse_X9_scanNumber, tin_X9, tc_X9_scanNumber, ⟨⟨by decide, by decide⟩, by decide⟩⟩
    · exact ⟨tm_X9_55, ti_J0_indexOf_0f7a4, tse_J0_indexOf_0f7a4, tin_J0, tc_J0_indexOf_0f7a4, ⟨⟨by decide, by decide⟩, by decide⟩⟩
    · exact ⟨tm_X9_69, ti_J0_length_8abf5, tse_J0_length_8abf5, tin_J0, tc_J0_length_8abf5, ⟨⟨by decide, by decide⟩, by decide⟩⟩
    · exact ⟨tm_X9_77, ti_J0_charAt_5068e, tse_J0_charAt_5068e, tin_J0, tc_J0_charAt_5068e, ⟨⟨by decide, by decide⟩, by decide⟩⟩
  · have hm := lookup_mem h
    simp only [List.mem_cons, List.not_mem_nil, or_false, Prod.mk.injEq] at hm
    rcases hm with ⟨rfl, rfl⟩ | ⟨rfl, rfl⟩ | ⟨rfl, rfl⟩
    · exact ⟨tm_X10_33, ti_X1_has, tse_X1_has, tin_X1, tc_X1_has, ⟨⟨by decide, by decide⟩, by decide⟩⟩
    · exact ⟨tm_X10_56, ti_X10_movesHouse, tse_X10_movesHouse, tin_X10, tc_X10_movesHouse, ⟨⟨by decide, by decide⟩, by decide⟩⟩
    · exact ⟨tm_X10_63, ti_X3_countsOn, tse_X3_countsOn, tin_X3, tc_X3_countsOn, ⟨⟨by decide, by decide⟩, by decide⟩⟩
  · have hm := lookup_mem h
    simp only [List.mem_cons, List.not_mem_nil, or_false, Prod.mk.injEq] at hm
    rcases hm with ⟨rfl, rfl⟩ | ⟨rfl, rfl⟩ | ⟨rfl, rfl⟩ | ⟨rfl, rfl⟩ | ⟨rfl, rfl⟩ | ⟨rfl, rfl⟩ | ⟨rfl, rfl⟩ | ⟨rfl, rfl⟩ | ⟨rfl, rfl⟩ | ⟨rfl, rfl⟩ | ⟨rfl, rfl⟩ | ⟨rfl, rfl⟩ | ⟨rfl, rfl⟩ | ⟨rfl, rfl⟩ | ⟨rfl, rfl⟩ | ⟨rfl, rfl⟩ | ⟨rfl, rfl⟩ | ⟨rfl, rfl⟩ | ⟨rfl, rfl⟩ | ⟨rfl, rfl⟩ | ⟨rfl, rfl⟩ | ⟨rfl, rfl⟩ | ⟨rfl, rfl⟩ | ⟨rfl, rfl⟩ | ⟨rfl, rfl⟩ | ⟨rfl, rfl⟩ | ⟨rfl, rfl⟩ | ⟨rfl, rfl⟩ | ⟨rfl, rfl⟩
    · exact ⟨tm_X11_100, ti_X5_add, tse_X5_add, tin_X5, tc_X5_add, ⟨⟨by decide, by decide⟩, by decide⟩⟩
    · exact ⟨tm_X11_108, ti_X5_tellDeath, tse_X5_tellDeath, tin_X5, tc_X5_tellDeath, ⟨⟨by decide, by decide⟩, by decide⟩⟩
    · exact ⟨tm_X11_112, ti_X5_has, tse_X5_has, tin_X5, tc_X5_has, ⟨⟨by decide, by decide⟩, by decide⟩⟩
    · exact ⟨tm_X11_118, ti_X1_add, tse_X1_add, tin_X1, tc_X1_add, ⟨⟨by decide, by decide⟩, by decide⟩⟩
    · exact ⟨tm_X11_122, ti_X7_reachTo, tse_X7_reachTo, tin_X7, tc_X7_reachTo, ⟨⟨by decide, by decide⟩, by decide⟩⟩
    · exact ⟨tm_X11_129, ti_X11_convert, tse_X11_convert, tin_X11, tc_X11_convert, ⟨⟨by decide, by decide⟩, by decide⟩⟩
    · exact ⟨tm_X11_135, ti_X1_has, tse_X1_has, tin_X1, tc_X1_has, ⟨⟨by decide, by decide⟩, by decide⟩⟩
    · exact ⟨tm_X11_136, ti_X3_add, tse_X3_add, tin_X3, tc_X3_add, ⟨⟨by decide, by decide⟩, by decide⟩⟩
    · exact ⟨tm_X11_139, ti_X3_describe, tse_X3_describe, tin_X3, tc_X3_describe, ⟨⟨by decide, by decide⟩, by decide⟩⟩
    · exact ⟨tm_X11_143, ti_X3_revoke, tse_X3_revoke, tin_X3, tc_X3_revoke, ⟨⟨by decide, by decide⟩, by decide⟩⟩
    · exact ⟨tm_X11_147, ti_X10_follow, tse_X10_follow, tin_X10, tc_X10_follow, ⟨⟨by decide, by decide⟩, by decide⟩⟩
    · exact ⟨tm_X11_153, ti_X3_countsOn, tse_X3_countsOn, tin_X3, tc_X3_countsOn, ⟨⟨by decide, by decide⟩, by decide⟩⟩
    · exact ⟨tm_X11_162, ti_X8_hasRoomFor, tse_X8_hasRoomFor, tin_X8, tc_X8_hasRoomFor, ⟨⟨by decide, by decide⟩, by decide⟩⟩
    · exact ⟨tm_X11_165, ti_X8_put, tse_X8_put, tin_X8, tc_X8_put, ⟨⟨by decide, by decide⟩, by decide⟩⟩
    · exact ⟨tm_X11_171, ti_X8_cut, tse_X8_cut, tin_X8, tc_X8_cut, ⟨⟨by decide, by decide⟩, by decide⟩⟩
    · exact ⟨tm_X11_178, ti_X9_scan, tse_X9_scan, tin_X9, tc_X9_scan, ⟨⟨by decide, by decide⟩, by decide⟩⟩
    · exact ⟨tm_X11_182, ti_X4_parse, tse_X4_parse, tin_X4, tc_X4_parse, ⟨⟨by decide, by decide⟩, by decide⟩⟩
    · exact ⟨tm_X11_198, ti_X3_has, tse_X3_has, tin_X3, tc_X3_has, ⟨⟨by decide, by decide⟩, by decide⟩⟩
    · exact ⟨tm_X11_199, ti_X0_add, tse_X0_add, tin_X0, tc_X0_add, ⟨⟨by decide, by decide⟩, by decide⟩⟩
    · exact ⟨tm_X11_202, ti_X11_weigh, tse_X11_weigh, tin_X11, tc_X11_weigh, ⟨⟨by decide, by decide⟩, by decide⟩⟩
    · exact ⟨tm_X11_208, ti_X2_firstLineThatHolds, tse_X2_firstLineThatHolds, tin_X2, tc_X2_firstLineThatHolds, ⟨⟨by decide, by decide⟩, by decide⟩⟩
    · exact ⟨tm_X11_218, ti_X6_divide, tse_X6_divide, tin_X6, tc_X6_divide, ⟨⟨by decide, by decide⟩, by decide⟩⟩
    · exact ⟨tm_X11_222, ti_X6_numerator, tse_X6_numerator, tin_X6, tc_X6_numerator, ⟨⟨by decide, by decide⟩, by decide⟩⟩
    · exact ⟨tm_X11_226, ti_X6_denominator, tse_X6_denominator, tin_X6, tc_X6_denominator, ⟨⟨by decide, by decide⟩, by decide⟩⟩
    · exact ⟨tm_X11_229, ti_X7_tell, tse_X7_tell, tin_X7, tc_X7_tell, ⟨⟨by decide, by decide⟩, by decide⟩⟩
    · exact ⟨tm_X11_233, ti_X7_settle, tse_X7_settle, tin_X7, tc_X7_settle, ⟨⟨by decide, by decide⟩, by decide⟩⟩
    · exact ⟨tm_X11_249, ti_X0_has, tse_X0_has, tin_X0, tc_X0_has, ⟨⟨by decide, by decide⟩, by decide⟩⟩
    · exact ⟨tm_X11_262, ti_X11_priceOfLastYear, tse_X11_priceOfLastYear, tin_X11, tc_X11_priceOfLastYear, ⟨⟨by decide, by decide⟩, by decide⟩⟩
    · exact ⟨tm_X11_280, ti_X5_isDeadOn, tse_X5_isDeadOn, tin_X5, tc_X5_isDeadOn, ⟨⟨by decide, by decide⟩, by decide⟩⟩
  · have hm := lookup_mem h
    simp only [List.mem_cons, List.not_mem_nil, or_false, Prod.mk.injEq] at hm
    rcases hm with ⟨rfl, rfl⟩ | ⟨rfl, rfl⟩ | ⟨rfl, rfl⟩ | ⟨rfl, rfl⟩ | ⟨rfl, rfl⟩ | ⟨rfl, rfl⟩ | ⟨rfl, rfl⟩ | ⟨rfl, rfl⟩ | ⟨rfl, rfl⟩ | ⟨rfl, rfl⟩ | ⟨rfl, rfl⟩ | ⟨rfl, rfl⟩ | ⟨rfl, rfl⟩ | ⟨rfl, rfl⟩ | ⟨rfl, rfl⟩ | ⟨rfl, rfl⟩ | ⟨rfl, rfl⟩ | ⟨rfl, rfl⟩ | ⟨rfl, rfl⟩ | ⟨rfl, rfl⟩ | ⟨rfl, rfl⟩ | ⟨rfl, rfl⟩ | ⟨rfl, rfl⟩ | ⟨rfl, rfl⟩ | ⟨rfl, rfl⟩ | ⟨rfl, rfl⟩ | ⟨rfl, rfl⟩ | ⟨rfl, rfl⟩ | ⟨rfl, rfl⟩ | ⟨rfl, rfl⟩ | ⟨rfl, rfl⟩ | ⟨rfl, rfl⟩ | ⟨rfl, rfl⟩
    · exact ⟨tm_X12_127, ti_X12_isPerson, tse_X12_isPerson, tin_X12, tc_X12_isPerson, ⟨⟨by decide, by decide⟩, by decide⟩⟩
    · exact ⟨tm_X12_140, ti_X12_turned, tse_X12_turned, tin_X12, tc_X12_turned, ⟨⟨by decide, by decide⟩, by decide⟩⟩
    · exact ⟨tm_X12_146, ti_X12_isHouse, tse_X12_isHouse, tin_X12, tc_X12_isHouse, ⟨⟨by decide, by decide⟩, by decide⟩⟩
    · exact ⟨tm_X12_155, ti_X12_isPaper, tse_X12_isPaper, tin_X12, tc_X12_isPaper, ⟨⟨by decide, by decide⟩, by decide⟩⟩
    · exact ⟨tm_X12_161, ti_X12_counts, tse_X12_counts, tin_X12, tc_X12_counts, ⟨⟨by decide, by decide⟩, by decide⟩⟩
    · exact ⟨tm_X12_165, ti_X12_follow, tse_X12_follow, tin_X12, tc_X12_follow, ⟨⟨by decide, by decide⟩, by decide⟩⟩
    · exact ⟨tm_X12_181, ti_X12_sign, tse_X12_sign, tin_X12, tc_X12_sign, ⟨⟨by decide, by decide⟩, by decide⟩⟩
    · exact ⟨tm_X12_201, ti_X12_fails, tse_X12_fails, tin_X12, tc_X12_fails, ⟨⟨by decide, by decide⟩, by decide⟩⟩
    · exact ⟨tm_X12_205, ti_X12_isGood, tse_X12_isGood, tin_X12, tc_X12_isGood, ⟨⟨by decide, by decide⟩, by decide⟩⟩
    · exact ⟨tm_X12_209, ti_X12_next, tse_X12_next, tin_X12, tc_X12_next, ⟨⟨by decide, by decide⟩, by decide⟩⟩
    · exact ⟨tm_X12_212, ti_X12_wrong, tse_X12_wrong, tin_X12, tc_X12_wrong, ⟨⟨by decide, by decide⟩, by decide⟩⟩
    · exact ⟨tm_X12_248, ti_X12_readLine, tse_X12_readLine, tin_X12, tc_X12_readLine, ⟨⟨by decide, by decide⟩, by decide⟩⟩
    · exact ⟨tm_X12_253, ti_X12_isWord, tse_X12_isWord, tin_X12, tc_X12_isWord, ⟨⟨by decide, by decide⟩, by decide⟩⟩
    · exact ⟨tm_X12_257, ti_X12_e, tse_X12_e, tin_X12, tc_X12_e, ⟨⟨by decide, by decide⟩, by decide⟩⟩
    · exact ⟨tm_X12_262, ti_X12_must, tse_X12_must, tin_X12, tc_X12_must, ⟨⟨by decide, by decide⟩, by decide⟩⟩
    · exact ⟨tm_X12_274, ti_X12_is, tse_X12_is, tin_X12, tc_X12_is, ⟨⟨by decide, by decide⟩, by decide⟩⟩
    · exact ⟨tm_X12_283, ti_X12_pile, tse_X12_pile, tin_X12, tc_X12_pile, ⟨⟨by decide, by decide⟩, by decide⟩⟩
    · exact ⟨tm_X12_287, ti_X12_one, tse_X12_one, tin_X12, tc_X12_one, ⟨⟨by decide, by decide⟩, by decide⟩⟩
    · exact ⟨tm_X12_290, ti_X12_behind, tse_X12_behind, tin_X12, tc_X12_behind, ⟨⟨by decide, by decide⟩, by decide⟩⟩
    · exact ⟨tm_X12_295, ti_X12_readSum, tse_X12_readSum, tin_X12, tc_X12_readSum, ⟨⟨by decide, by decide⟩, by decide⟩⟩
    · exact ⟨tm_X12_298, ti_X12_step, tse_X12_step, tin_X12, tc_X12_step, ⟨⟨by decide, by decide⟩, by decide⟩⟩
    · exact ⟨tm_X12_301, ti_X12_readTerm, tse_X12_readTerm, tin_X12, tc_X12_readTerm, ⟨⟨by decide, by decide⟩, by decide⟩⟩
    · exact ⟨tm_X12_304, ti_X12_termHere, tse_X12_termHere, tin_X12, tc_X12_termHere, ⟨⟨by decide, by decide⟩, by decide⟩⟩
    · exact ⟨tm_X12_318, ti_X12_loose, tse_X12_loose, tin_X12, tc_X12_loose, ⟨⟨by decide, by decide⟩, by decide⟩⟩
    · exact ⟨tm_X12_325, ti_X12_isDead, tse_X12_isDead, tin_X12, tc_X12_isDead, ⟨⟨by decide, by decide⟩, by decide⟩⟩
    · exact ⟨tm_X12_328, ti_X12_holds, tse_X12_holds, tin_X12, tc_X12_holds, ⟨⟨by decide, by decide⟩, by decide⟩⟩
    · exact ⟨tm_X12_331, ti_X12_look, tse_X12_look, tin_X12, tc_X12_look, ⟨⟨by decide, by decide⟩, by decide⟩⟩
    · exact ⟨tm_X12_334, ti_X12_lineFor, tse_X12_lineFor, tin_X12, tc_X12_lineFor, ⟨⟨by decide, by decide⟩, by decide⟩⟩
    · exact ⟨tm_X12_343, ti_X12_isChild, tse_X12_isChild, tin_X12, tc_X12_isChild, ⟨⟨by decide, by decide⟩, by decide⟩⟩
    · exact ⟨tm_X12_346, ti_X12_gets, tse_X12_gets, tin_X12, tc_X12_gets, ⟨⟨by decide, by decide⟩, by decide⟩⟩
    · exact ⟨tm_X12_350, ti_X12_handDown, tse_X12_handDown, tin_X12, tc_X12_handDown, ⟨⟨by decide, by decide⟩, by decide⟩⟩
    · exact ⟨tm_X12_356, ti_X12_mayGet, tse_X12_mayGet, tin_X12, tc_X12_mayGet, ⟨⟨by decide, by decide⟩, by decide⟩⟩
    · exact ⟨tm_X12_359, ti_X12_solve, tse_X12_solve, tin_X12, tc_X12_solve, ⟨⟨by decide, by decide⟩, by decide⟩⟩
  · cases h
set_option maxHeartbeats 4000000 in
theorem sT_ok {kn idx : Nat} {y' : Yt} (h : sT kn idx = some y') : (inT (.methodLink (clsN kn) idx y'.1) ∨ (kn = 2 ∧ idx = 40 ∧ y'.1 = yX11_truth)) ∧ inT (.static y'.1) ∧ inT (.initialized y'.1.cls) ∧ inT (.code y'.1 y'.2.1 y'.2.2.1 y'.2.2.2.1) ∧ notH y' := by
  unfold sT at h
  split at h
  · have hm := lookup_mem h
    simp only [List.mem_cons, List.not_mem_nil, or_false, Prod.mk.injEq] at hm
    rcases hm with ⟨rfl, rfl⟩ | ⟨rfl, rfl⟩
    · exact ⟨Or.inr ⟨rfl, rfl, rfl⟩, tst_X11_truth, tin_X11, tc_X11_truth, ⟨⟨by decide, by decide⟩, by decide⟩⟩
    · exact ⟨Or.inl tm_X2_44, tst_X2_join, tin_X2, tc_X2_join, ⟨⟨by decide, by decide⟩, by decide⟩⟩
  · have hm := lookup_mem h
    simp only [List.mem_cons, List.not_mem_nil, or_false, Prod.mk.injEq] at hm
    rcases hm with ⟨rfl, rfl⟩
    · exact ⟨Or.inl tm_X6_52, tst_X6_commonDivisor, tin_X6, tc_X6_commonDivisor, ⟨⟨by decide, by decide⟩, by decide⟩⟩
  · have hm := lookup_mem h
    simp only [List.mem_cons, List.not_mem_nil, or_false, Prod.mk.injEq] at hm
    rcases hm with ⟨rfl, rfl⟩
    · exact ⟨Or.inl tm_X7_50, tst_J6_bitCount_0f7a4, tin_J6, tc_J6_bitCount_0f7a4, ⟨⟨by decide, by decide⟩, by decide⟩⟩
  · have hm := lookup_mem h
    simp only [List.mem_cons, List.not_mem_nil, or_false, Prod.mk.injEq] at hm
    rcases hm with ⟨rfl, rfl⟩ | ⟨rfl, rfl⟩ | ⟨rfl, rfl⟩ | ⟨rfl, rfl⟩ | ⟨rfl, rfl⟩
    · exact ⟨Or.inl tm_X9_29, tst_X9_isBlank, tin_X9, tc_X9_isBlank, ⟨⟨by decide, by decide⟩, by decide⟩⟩
    · exact ⟨Or.inl tm_X9_41, tst_X9_isLetter, tin_X9, tc_X9_isLetter, ⟨⟨by decide, by decide⟩, by decide⟩⟩
    · exact ⟨Or.inl tm_X9_47, tst_X9_isDigit, tin_X9, tc_X9_isDigit, ⟨⟨by decide, by decide⟩, by decide⟩⟩
    · exact ⟨Or.inl tm_X9_63, tst_X9_rowOf, tin_X9, tc_X9_rowOf, ⟨⟨by decide, by decide⟩, by decide⟩⟩
    · exact ⟨Or.inl tm_X9_73, tst_X9_isWord, tin_X9, tc_X9_isWord, ⟨⟨by decide, by decide⟩, by decide⟩⟩
  · have hm := lookup_mem h
    simp only [List.mem_cons, List.not_mem_nil, or_false, Prod.mk.injEq] at hm
    rcases hm with ⟨rfl, rfl⟩ | ⟨rfl, rfl⟩ | ⟨rfl, rfl⟩ | ⟨rfl, rfl⟩
    · exact ⟨Or.inl tm_X11_104, tst_X11_isDay, tin_X11, tc_X11_isDay, ⟨⟨by decide, by decide⟩, by decide⟩⟩
    · exact ⟨Or.inl tm_X11_115, tst_X11_isMoney, tin_X11, tc_X11_isMoney, ⟨⟨by decide, by decide⟩, by decide⟩⟩
    · exact ⟨Or.inl tm_X11_126, tst_X11_isYear, tin_X11, tc_X11_isYear, ⟨⟨by decide, by decide⟩, by decide⟩⟩
    · exact ⟨Or.inl tm_X11_258, tst_X11_truth, tin_X11, tc_X11_truth, ⟨⟨by decide, by decide⟩, by decide⟩⟩
  · have hm := lookup_mem h
    simp only [List.mem_cons, List.not_mem_nil, or_false, Prod.mk.injEq] at hm
    rcases hm with ⟨rfl, rfl⟩ | ⟨rfl, rfl⟩ | ⟨rfl, rfl⟩ | ⟨rfl, rfl⟩ | ⟨rfl, rfl⟩ | ⟨rfl, rfl⟩ | ⟨rfl, rfl⟩
    · exact ⟨Or.inl tm_X12_131, tst_X12_isDay, tin_X12, tc_X12_isDay, ⟨⟨by decide, by decide⟩, by decide⟩⟩
    · exact ⟨Or.inl tm_X12_134, tst_X12_isSum, tin_X12, tc_X12_isSum, ⟨⟨by decide, by decide⟩, by decide⟩⟩
    · exact ⟨Or.inl tm_X12_137, tst_X12_isYear, tin_X12, tc_X12_isYear, ⟨⟨by decide, by decide⟩, by decide⟩⟩
    · exact ⟨Or.inl tm_X12_188, tst_X12_isLetter, tin_X12, tc_X12_isLetter, ⟨⟨by decide, by decide⟩, by decide⟩⟩
    · exact ⟨Or.inl tm_X12_195, tst_X12_isDigit, tin_X12, tc_X12_isDigit, ⟨⟨by decide, by decide⟩, by decide⟩⟩
    · exact ⟨Or.inl tm_X12_312, tst_X12_two, tin_X12, tc_X12_two, ⟨⟨by decide, by decide⟩, by decide⟩⟩
    · exact ⟨Or.inl tm_X12_339, tst_X12_divisor, tin_X12, tc_X12_divisor, ⟨⟨by decide, by decide⟩, by decide⟩⟩
  · cases h
set_option maxHeartbeats 4000000 in
theorem kT_ok {kn idx : Nat} {v : Value} (h : kT kn idx = some v) : (∃ x, inT (.constant (clsN kn) idx x) ∧ v = .int x) ∨ (kn = 9 ∧ ((idx = 53 ∧ v = .ref 200) ∨ (idx = 61 ∧ v = .ref 201) ∨ (idx = 67 ∧ v = .ref 202))) := by
  unfold kT at h
  split at h
  · have hm := lookup_mem h
    simp only [List.mem_cons, List.not_mem_nil, or_false, Prod.mk.injEq] at hm
    rcases hm with ⟨rfl, rfl⟩ | ⟨rfl, rfl⟩ | ⟨rfl, rfl⟩
    · exact Or.inr ⟨rfl, by decide⟩
    · exact Or.inr ⟨rfl, by decide⟩
    · exact Or.inr ⟨rfl, by decide⟩
  · have hm := lookup_mem h
    simp only [List.mem_cons, List.not_mem_nil, or_false, Prod.mk.injEq] at hm
    rcases hm with ⟨rfl, rfl⟩ | ⟨rfl, rfl⟩
    · exact Or.inl ⟨_, tk_X11_146, rfl⟩
    · exact Or.inl ⟨_, tk_X11_248, rfl⟩
  · have hm := lookup_mem h
    simp only [List.mem_cons, List.not_mem_nil, or_false, Prod.mk.injEq] at hm
    rcases hm with ⟨rfl, rfl⟩ | ⟨rfl, rfl⟩ | ⟨rfl, rfl⟩
    · exact Or.inl ⟨_, tk_X12_125, rfl⟩
    · exact Or.inl ⟨_, tk_X12_126, rfl⟩
    · exact Or.inl ⟨_, tk_X12_324, rfl⟩
  · have hm := lookup_mem h
    simp only [List.mem_cons, List.not_mem_nil, or_false, Prod.mk.injEq] at hm
    rcases hm with ⟨rfl, rfl⟩ | ⟨rfl, rfl⟩ | ⟨rfl, rfl⟩
    · exact Or.inl ⟨_, tk_J6_265, rfl⟩
    · exact Or.inl ⟨_, tk_J6_266, rfl⟩
    · exact Or.inl ⟨_, tk_J6_267, rfl⟩
  · cases h
set_option maxHeartbeats 4000000 in
theorem lT_ok {kn idx : Nat} {v : Int64} (h : lT kn idx = some v) : inT (.constantLong (clsN kn) idx v) := by
  unfold lT at h
  split at h
  · have hm := lookup_mem h
    simp only [List.mem_cons, List.not_mem_nil, or_false, Prod.mk.injEq] at hm
    rcases hm with ⟨rfl, rfl⟩ | ⟨rfl, rfl⟩
    · exact tl_X11_133
    · exact tl_X11_286
  · have hm := lookup_mem h
    simp only [List.mem_cons, List.not_mem_nil, or_false, Prod.mk.injEq] at hm
    rcases hm with ⟨rfl, rfl⟩ | ⟨rfl, rfl⟩ | ⟨rfl, rfl⟩ | ⟨rfl, rfl⟩ | ⟨rfl, rfl⟩ | ⟨rfl, rfl⟩ | ⟨rfl, rfl⟩ | ⟨rfl, rfl⟩ | ⟨rfl, rfl⟩ | ⟨rfl, rfl⟩ | ⟨rfl, rfl⟩ | ⟨rfl, rfl⟩ | ⟨rfl, rfl⟩ | ⟨rfl, rfl⟩ | ⟨rfl, rfl⟩ | ⟨rfl, rfl⟩ | ⟨rfl, rfl⟩ | ⟨rfl, rfl⟩ | ⟨rfl, rfl⟩ | ⟨rfl, rfl⟩ | ⟨rfl, rfl⟩
    · exact tl_X12_144
    · exact tl_X12_215
    · exact tl_X12_217
    · exact tl_X12_219
    · exact tl_X12_221
    · exact tl_X12_223
    · exact tl_X12_225
    · exact tl_X12_227
    · exact tl_X12_229
    · exact tl_X12_231
    · exact tl_X12_251
    · exact tl_X12_260
    · exact tl_X12_266
    · exact tl_X12_268
    · exact tl_X12_270
    · exact tl_X12_272
    · exact tl_X12_293
    · exact tl_X12_308
    · exact tl_X12_310
    · exact tl_X12_322
    · exact tl_X12_337
  · cases h
