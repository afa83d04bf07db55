theorem nRL : Cond.initialized RL ∈ wsC := wsC_of (List.mem_append_right _ (List.mem_of_getElem? (i := 0) rfl)) rfl
theorem nRX5 : Cond.initialized RX5 ∈ wsC := wsC_of (List.mem_append_right _ (List.mem_of_getElem? (i := 1) rfl)) rfl
theorem nRX3 : Cond.initialized RX3 ∈ wsC := wsC_of (List.mem_append_right _ (List.mem_of_getElem? (i := 2) rfl)) rfl
theorem nRX2 : Cond.initialized RX2 ∈ wsC := wsC_of (List.mem_append_right _ (List.mem_of_getElem? (i := 3) rfl)) rfl
theorem nRX4 : Cond.initialized RX4 ∈ wsC := wsC_of (List.mem_append_right _ (List.mem_of_getElem? (i := 4) rfl)) rfl
theorem nRX0 : Cond.initialized RX0 ∈ wsC := wsC_of (List.mem_append_right _ (List.mem_of_getElem? (i := 5) rfl)) rfl
theorem nRX1 : Cond.initialized RX1 ∈ wsC := wsC_of (List.mem_append_right _ (List.mem_of_getElem? (i := 6) rfl)) rfl
theorem nRX6 : Cond.initialized RX6 ∈ wsC := wsC_of (List.mem_append_right _ (List.mem_of_getElem? (i := 7) rfl)) rfl
theorem nRJ7 : Cond.initialized RJ7 ∈ wsC := wsC_of (List.mem_append_right _ (List.mem_of_getElem? (i := 8) rfl)) rfl
theorem nRJ10 : Cond.initialized RJ10 ∈ wsC := wsC_of (List.mem_append_right _ (List.mem_of_getElem? (i := 9) rfl)) rfl
theorem nRJ9 : Cond.initialized RJ9 ∈ wsC := wsC_of (List.mem_append_right _ (List.mem_of_getElem? (i := 10) rfl)) rfl
theorem mL_9 : Cond.methodLink RL 9 yX5_init ∈ wsC := wsC_of (List.mem_append_right _ (List.mem_of_getElem? (i := 13) rfl)) rfl
theorem iX5_init : Cond.instanceMethod yX5_init ∈ wsC := wsC_of (List.mem_append_right _ (List.mem_of_getElem? (i := 14) rfl)) rfl
theorem kX5_init : Cond.code yX5_init cX5_init 1 (none) ∈ wsC := wsC_of (List.mem_append_right _ (List.mem_of_getElem? (i := 15) rfl)) rfl
theorem mX5_1 : Cond.methodLink RX5 1 objectInit ∈ wsC := wsC_of (List.mem_append_right _ (List.mem_of_getElem? (i := 16) rfl)) rfl
theorem iobjectInit : Cond.instanceMethod objectInit ∈ wsC := wsC_of (List.mem_append_right _ (List.mem_of_getElem? (i := 17) rfl)) rfl
theorem codeObj : Cond.code objectInit ⟨#[0xb1]⟩ 1 none ∈ wsC := wsC_of (List.mem_append_right _ (List.mem_of_getElem? (i := 18) rfl)) rfl
theorem iX3_init : Cond.instanceMethod yX3_init ∈ wsC := wsC_of (List.mem_append_right _ (List.mem_of_getElem? (i := 24) rfl)) rfl
theorem kX3_init : Cond.code yX3_init cX3_init 1 (none) ∈ wsC := wsC_of (List.mem_append_right _ (List.mem_of_getElem? (i := 25) rfl)) rfl
theorem mX3_3 : Cond.methodLink RX3 3 objectInit ∈ wsC := wsC_of (List.mem_append_right _ (List.mem_of_getElem? (i := 26) rfl)) rfl
theorem fX3_39 : Cond.fieldLink RX3 39 (TX3 0).1 (TX3 0).2.1 (TX3 0).2.2.1 ∈ wsC := wsC_of (List.mem_append_right _ (List.mem_of_getElem? (i := 29) rfl)) rfl
theorem fX5_81 : Cond.fieldLink RX5 81 (TX3 0).1 (TX3 0).2.1 (TX3 0).2.2.1 ∈ wsC := wsC_of (List.mem_append_right _ (List.mem_of_getElem? (i := 30) rfl)) rfl
theorem fX3_11 : Cond.fieldLink RX3 11 (TX3 1).1 (TX3 1).2.1 (TX3 1).2.2.1 ∈ wsC := wsC_of (List.mem_append_right _ (List.mem_of_getElem? (i := 31) rfl)) rfl
theorem fX3_15 : Cond.fieldLink RX3 15 (TX3 2).1 (TX3 2).2.1 (TX3 2).2.2.1 ∈ wsC := wsC_of (List.mem_append_right _ (List.mem_of_getElem? (i := 32) rfl)) rfl
theorem fX3_18 : Cond.fieldLink RX3 18 (TX3 3).1 (TX3 3).2.1 (TX3 3).2.2.1 ∈ wsC := wsC_of (List.mem_append_right _ (List.mem_of_getElem? (i := 33) rfl)) rfl
theorem fX3_21 : Cond.fieldLink RX3 21 (TX3 4).1 (TX3 4).2.1 (TX3 4).2.2.1 ∈ wsC := wsC_of (List.mem_append_right _ (List.mem_of_getElem? (i := 34) rfl)) rfl
theorem fX3_26 : Cond.fieldLink RX3 26 (TX3 5).1 (TX3 5).2.1 (TX3 5).2.2.1 ∈ wsC := wsC_of (List.mem_append_right _ (List.mem_of_getElem? (i := 35) rfl)) rfl
theorem iX2_init : Cond.instanceMethod yX2_init ∈ wsC := wsC_of (List.mem_append_right _ (List.mem_of_getElem? (i := 53) rfl)) rfl
theorem kX2_init : Cond.code yX2_init cX2_init 1 (none) ∈ wsC := wsC_of (List.mem_append_right _ (List.mem_of_getElem? (i := 54) rfl)) rfl
theorem mX2_3 : Cond.methodLink RX2 3 objectInit ∈ wsC := wsC_of (List.mem_append_right _ (List.mem_of_getElem? (i := 55) rfl)) rfl
theorem fX2_9 : Cond.fieldLink RX2 9 (TX2 0).1 (TX2 0).2.1 (TX2 0).2.2.1 ∈ wsC := wsC_of (List.mem_append_right _ (List.mem_of_getElem? (i := 56) rfl)) rfl
theorem fX4_37 : Cond.fieldLink RX4 37 (TX2 0).1 (TX2 0).2.1 (TX2 0).2.2.1 ∈ wsC := wsC_of (List.mem_append_right _ (List.mem_of_getElem? (i := 57) rfl)) rfl
theorem fX5_100 : Cond.fieldLink RX5 100 (TX2 0).1 (TX2 0).2.1 (TX2 0).2.2.1 ∈ wsC := wsC_of (List.mem_append_right _ (List.mem_of_getElem? (i := 58) rfl)) rfl
theorem iX4_init : Cond.instanceMethod yX4_init ∈ wsC := wsC_of (List.mem_append_right _ (List.mem_of_getElem? (i := 65) rfl)) rfl
theorem kX4_init : Cond.code yX4_init cX4_init 1 (none) ∈ wsC := wsC_of (List.mem_append_right _ (List.mem_of_getElem? (i := 66) rfl)) rfl
theorem mX4_1 : Cond.methodLink RX4 1 objectInit ∈ wsC := wsC_of (List.mem_append_right _ (List.mem_of_getElem? (i := 67) rfl)) rfl
theorem fX4_10 : Cond.fieldLink RX4 10 (TX4 0).1 (TX4 0).2.1 (TX4 0).2.2.1 ∈ wsC := wsC_of (List.mem_append_right _ (List.mem_of_getElem? (i := 70) rfl)) rfl
theorem iX0_init : Cond.instanceMethod yX0_init ∈ wsC := wsC_of (List.mem_append_right _ (List.mem_of_getElem? (i := 77) rfl)) rfl
theorem kX0_init : Cond.code yX0_init cX0_init 1 (none) ∈ wsC := wsC_of (List.mem_append_right _ (List.mem_of_getElem? (i := 78) rfl)) rfl
theorem mX0_3 : Cond.methodLink RX0 3 objectInit ∈ wsC := wsC_of (List.mem_append_right _ (List.mem_of_getElem? (i := 79) rfl)) rfl
theorem fX0_11 : Cond.fieldLink RX0 11 (TX0 0).1 (TX0 0).2.1 (TX0 0).2.2.1 ∈ wsC := wsC_of (List.mem_append_right _ (List.mem_of_getElem? (i := 82) rfl)) rfl
theorem fX0_16 : Cond.fieldLink RX0 16 (TX0 1).1 (TX0 1).2.1 (TX0 1).2.2.1 ∈ wsC := wsC_of (List.mem_append_right _ (List.mem_of_getElem? (i := 83) rfl)) rfl
theorem fX0_20 : Cond.fieldLink RX0 20 (TX0 2).1 (TX0 2).2.1 (TX0 2).2.2.1 ∈ wsC := wsC_of (List.mem_append_right _ (List.mem_of_getElem? (i := 84) rfl)) rfl
theorem fX0_23 : Cond.fieldLink RX0 23 (TX0 3).1 (TX0 3).2.1 (TX0 3).2.2.1 ∈ wsC := wsC_of (List.mem_append_right _ (List.mem_of_getElem? (i := 85) rfl)) rfl
theorem iX1_init : Cond.instanceMethod yX1_init ∈ wsC := wsC_of (List.mem_append_right _ (List.mem_of_getElem? (i := 98) rfl)) rfl
theorem kX1_init : Cond.code yX1_init cX1_init 1 (none) ∈ wsC := wsC_of (List.mem_append_right _ (List.mem_of_getElem? (i := 99) rfl)) rfl
theorem mX1_3 : Cond.methodLink RX1 3 objectInit ∈ wsC := wsC_of (List.mem_append_right _ (List.mem_of_getElem? (i := 100) rfl)) rfl
theorem fX1_9 : Cond.fieldLink RX1 9 (TX1 0).1 (TX1 0).2.1 (TX1 0).2.2.1 ∈ wsC := wsC_of (List.mem_append_right _ (List.mem_of_getElem? (i := 102) rfl)) rfl
theorem fX3_29 : Cond.fieldLink RX3 29 (TX1 0).1 (TX1 0).2.1 (TX1 0).2.2.1 ∈ wsC := wsC_of (List.mem_append_right _ (List.mem_of_getElem? (i := 103) rfl)) rfl
theorem fX4_16 : Cond.fieldLink RX4 16 (TX1 0).1 (TX1 0).2.1 (TX1 0).2.2.1 ∈ wsC := wsC_of (List.mem_append_right _ (List.mem_of_getElem? (i := 104) rfl)) rfl
theorem fX0_40 : Cond.fieldLink RX0 40 (TX1 0).1 (TX1 0).2.1 (TX1 0).2.2.1 ∈ wsC := wsC_of (List.mem_append_right _ (List.mem_of_getElem? (i := 105) rfl)) rfl
theorem fX2_23 : Cond.fieldLink RX2 23 (TX1 0).1 (TX1 0).2.1 (TX1 0).2.2.1 ∈ wsC := wsC_of (List.mem_append_right _ (List.mem_of_getElem? (i := 106) rfl)) rfl
theorem fX5_131 : Cond.fieldLink RX5 131 (TX1 0).1 (TX1 0).2.1 (TX1 0).2.2.1 ∈ wsC := wsC_of (List.mem_append_right _ (List.mem_of_getElem? (i := 107) rfl)) rfl
theorem fX1_15 : Cond.fieldLink RX1 15 (TX1 1).1 (TX1 1).2.1 (TX1 1).2.2.1 ∈ wsC := wsC_of (List.mem_append_right _ (List.mem_of_getElem? (i := 108) rfl)) rfl
theorem fX0_44 : Cond.fieldLink RX0 44 (TX1 1).1 (TX1 1).2.1 (TX1 1).2.2.1 ∈ wsC := wsC_of (List.mem_append_right _ (List.mem_of_getElem? (i := 109) rfl)) rfl
theorem fX3_64 : Cond.fieldLink RX3 64 (TX1 1).1 (TX1 1).2.1 (TX1 1).2.2.1 ∈ wsC := wsC_of (List.mem_append_right _ (List.mem_of_getElem? (i := 110) rfl)) rfl
theorem fX5_64 : Cond.fieldLink RX5 64 (TX1 1).1 (TX1 1).2.1 (TX1 1).2.2.1 ∈ wsC := wsC_of (List.mem_append_right _ (List.mem_of_getElem? (i := 111) rfl)) rfl
theorem fX1_21 : Cond.fieldLink RX1 21 (TX1 2).1 (TX1 2).2.1 (TX1 2).2.2.1 ∈ wsC := wsC_of (List.mem_append_right _ (List.mem_of_getElem? (i := 112) rfl)) rfl
theorem fX5_60 : Cond.fieldLink RX5 60 (TX1 2).1 (TX1 2).2.1 (TX1 2).2.2.1 ∈ wsC := wsC_of (List.mem_append_right _ (List.mem_of_getElem? (i := 113) rfl)) rfl
theorem fX2_32 : Cond.fieldLink RX2 32 (TX1 2).1 (TX1 2).2.1 (TX1 2).2.2.1 ∈ wsC := wsC_of (List.mem_append_right _ (List.mem_of_getElem? (i := 114) rfl)) rfl
theorem fX1_24 : Cond.fieldLink RX1 24 (TX1 3).1 (TX1 3).2.1 (TX1 3).2.2.1 ∈ wsC := wsC_of (List.mem_append_right _ (List.mem_of_getElem? (i := 115) rfl)) rfl
theorem fX3_49 : Cond.fieldLink RX3 49 (TX1 3).1 (TX1 3).2.1 (TX1 3).2.2.1 ∈ wsC := wsC_of (List.mem_append_right _ (List.mem_of_getElem? (i := 116) rfl)) rfl
theorem fX2_29 : Cond.fieldLink RX2 29 (TX1 3).1 (TX1 3).2.1 (TX1 3).2.2.1 ∈ wsC := wsC_of (List.mem_append_right _ (List.mem_of_getElem? (i := 117) rfl)) rfl
theorem fX5_85 : Cond.fieldLink RX5 85 (TX1 3).1 (TX1 3).2.1 (TX1 3).2.2.1 ∈ wsC := wsC_of (List.mem_append_right _ (List.mem_of_getElem? (i := 118) rfl)) rfl
theorem fX1_27 : Cond.fieldLink RX1 27 (TX1 4).1 (TX1 4).2.1 (TX1 4).2.2.1 ∈ wsC := wsC_of (List.mem_append_right _ (List.mem_of_getElem? (i := 119) rfl)) rfl
theorem fX4_22 : Cond.fieldLink RX4 22 (TX1 4).1 (TX1 4).2.1 (TX1 4).2.2.1 ∈ wsC := wsC_of (List.mem_append_right _ (List.mem_of_getElem? (i := 120) rfl)) rfl
theorem fX5_113 : Cond.fieldLink RX5 113 (TX1 4).1 (TX1 4).2.1 (TX1 4).2.2.1 ∈ wsC := wsC_of (List.mem_append_right _ (List.mem_of_getElem? (i := 121) rfl)) rfl
theorem fX4_26 : Cond.fieldLink RX4 26 (TX1 5).1 (TX1 5).2.1 (TX1 5).2.2.1 ∈ wsC := wsC_of (List.mem_append_right _ (List.mem_of_getElem? (i := 122) rfl)) rfl
theorem fX5_110 : Cond.fieldLink RX5 110 (TX1 5).1 (TX1 5).2.1 (TX1 5).2.2.1 ∈ wsC := wsC_of (List.mem_append_right _ (List.mem_of_getElem? (i := 123) rfl)) rfl
theorem fX5_141 : Cond.fieldLink RX5 141 (TX1 6).1 (TX1 6).2.1 (TX1 6).2.2.1 ∈ wsC := wsC_of (List.mem_append_right _ (List.mem_of_getElem? (i := 124) rfl)) rfl
theorem fX1_30 : Cond.fieldLink RX1 30 (TX1 7).1 (TX1 7).2.1 (TX1 7).2.2.1 ∈ wsC := wsC_of (List.mem_append_right _ (List.mem_of_getElem? (i := 125) rfl)) rfl
theorem fX0_27 : Cond.fieldLink RX0 27 (TX1 7).1 (TX1 7).2.1 (TX1 7).2.2.1 ∈ wsC := wsC_of (List.mem_append_right _ (List.mem_of_getElem? (i := 126) rfl)) rfl
theorem fX5_127 : Cond.fieldLink RX5 127 (TX1 7).1 (TX1 7).2.1 (TX1 7).2.2.1 ∈ wsC := wsC_of (List.mem_append_right _ (List.mem_of_getElem? (i := 127) rfl)) rfl
theorem fX5_144 : Cond.fieldLink RX5 144 (TX1 8).1 (TX1 8).2.1 (TX1 8).2.2.1 ∈ wsC := wsC_of (List.mem_append_right _ (List.mem_of_getElem? (i := 128) rfl)) rfl
theorem fX5_9 : Cond.fieldLink RX5 9 (TX5 0).1 (TX5 0).2.1 (TX5 0).2.2.1 ∈ wsC := wsC_of (List.mem_append_right _ (List.mem_of_getElem? (i := 148) rfl)) rfl
theorem fX5_18 : Cond.fieldLink RX5 18 (TX5 1).1 (TX5 1).2.1 (TX5 1).2.2.1 ∈ wsC := wsC_of (List.mem_append_right _ (List.mem_of_getElem? (i := 149) rfl)) rfl
theorem fX5_25 : Cond.fieldLink RX5 25 (TX5 2).1 (TX5 2).2.1 (TX5 2).2.2.1 ∈ wsC := wsC_of (List.mem_append_right _ (List.mem_of_getElem? (i := 150) rfl)) rfl
theorem fX5_32 : Cond.fieldLink RX5 32 (TX5 3).1 (TX5 3).2.1 (TX5 3).2.2.1 ∈ wsC := wsC_of (List.mem_append_right _ (List.mem_of_getElem? (i := 151) rfl)) rfl
theorem fX5_39 : Cond.fieldLink RX5 39 (TX5 4).1 (TX5 4).2.1 (TX5 4).2.2.1 ∈ wsC := wsC_of (List.mem_append_right _ (List.mem_of_getElem? (i := 152) rfl)) rfl
theorem fX5_147 : Cond.fieldLink RX5 147 (TX5 5).1 (TX5 5).2.1 (TX5 5).2.2.1 ∈ wsC := wsC_of (List.mem_append_right _ (List.mem_of_getElem? (i := 153) rfl)) rfl
theorem fX5_96 : Cond.fieldLink RX5 96 (TX5 6).1 (TX5 6).2.1 (TX5 6).2.2.1 ∈ wsC := wsC_of (List.mem_append_right _ (List.mem_of_getElem? (i := 154) rfl)) rfl
theorem mL_13 : Cond.methodLink RL 13 yX5_begin ∈ wsC := wsC_of (List.mem_append_right _ (List.mem_of_getElem? (i := 170) rfl)) rfl
theorem iX5_begin : Cond.instanceMethod yX5_begin ∈ wsC := wsC_of (List.mem_append_right _ (List.mem_of_getElem? (i := 171) rfl)) rfl
theorem sX5_begin : Cond.selects yX5_begin.cls yX5_begin yX5_begin ∈ wsC := wsC_of (List.mem_append_right _ (List.mem_of_getElem? (i := 172) rfl)) rfl
theorem kX5_begin : Cond.code yX5_begin cX5_begin 2 (some .int) ∈ wsC := wsC_of (List.mem_append_right _ (List.mem_of_getElem? (i := 173) rfl)) rfl
theorem mX5_44 : Cond.methodLink RX5 44 yX1_empty ∈ wsC := wsC_of (List.mem_append_right _ (List.mem_of_getElem? (i := 174) rfl)) rfl
theorem iX1_empty : Cond.instanceMethod yX1_empty ∈ wsC := wsC_of (List.mem_append_right _ (List.mem_of_getElem? (i := 175) rfl)) rfl
theorem sX1_empty : Cond.selects yX1_empty.cls yX1_empty yX1_empty ∈ wsC := wsC_of (List.mem_append_right _ (List.mem_of_getElem? (i := 176) rfl)) rfl
theorem kX1_empty : Cond.code yX1_empty cX1_empty 3 (none) ∈ wsC := wsC_of (List.mem_append_right _ (List.mem_of_getElem? (i := 177) rfl)) rfl
theorem mX1_34 : Cond.methodLink RX1 34 yJ7_fill_53178 ∈ wsC := wsC_of (List.mem_append_right _ (List.mem_of_getElem? (i := 178) rfl)) rfl
theorem tJ7_fill_53178 : Cond.static yJ7_fill_53178 ∈ wsC := wsC_of (List.mem_append_right _ (List.mem_of_getElem? (i := 179) rfl)) rfl
theorem kJ7_fill_53178 : Cond.code yJ7_fill_53178 cJ7_fill_53178 4 (none) ∈ wsC := wsC_of (List.mem_append_right _ (List.mem_of_getElem? (i := 180) rfl)) rfl
theorem mX5_48 : Cond.methodLink RX5 48 yX5_noteChange ∈ wsC := wsC_of (List.mem_append_right _ (List.mem_of_getElem? (i := 181) rfl)) rfl
theorem iX5_noteChange : Cond.instanceMethod yX5_noteChange ∈ wsC := wsC_of (List.mem_append_right _ (List.mem_of_getElem? (i := 183) rfl)) rfl
theorem kX5_noteChange : Cond.code yX5_noteChange cX5_noteChange 2 (none) ∈ wsC := wsC_of (List.mem_append_right _ (List.mem_of_getElem? (i := 184) rfl)) rfl
theorem mL_18 : Cond.methodLink RL 18 yX5_label ∈ wsC := wsC_of (List.mem_append_right _ (List.mem_of_getElem? (i := 185) rfl)) rfl
theorem iX5_label : Cond.instanceMethod yX5_label ∈ wsC := wsC_of (List.mem_append_right _ (List.mem_of_getElem? (i := 186) rfl)) rfl
theorem sX5_label : Cond.selects yX5_label.cls yX5_label yX5_label ∈ wsC := wsC_of (List.mem_append_right _ (List.mem_of_getElem? (i := 187) rfl)) rfl
theorem kX5_label : Cond.code yX5_label cX5_label 7 (some .int) ∈ wsC := wsC_of (List.mem_append_right _ (List.mem_of_getElem? (i := 188) rfl)) rfl
theorem mX5_52 : Cond.methodLink RX5 52 yX5_isVertex ∈ wsC := wsC_of (List.mem_append_right _ (List.mem_of_getElem? (i := 189) rfl)) rfl
theorem iX5_isVertex : Cond.instanceMethod yX5_isVertex ∈ wsC := wsC_of (List.mem_append_right _ (List.mem_of_getElem? (i := 191) rfl)) rfl
theorem kX5_isVertex : Cond.code yX5_isVertex cX5_isVertex 3 (some .boolean) ∈ wsC := wsC_of (List.mem_append_right _ (List.mem_of_getElem? (i := 192) rfl)) rfl
theorem mX5_72 : Cond.methodLink RX5 72 yX5_isGraph ∈ wsC := wsC_of (List.mem_append_right _ (List.mem_of_getElem? (i := 193) rfl)) rfl
theorem tX5_isGraph : Cond.static yX5_isGraph ∈ wsC := wsC_of (List.mem_append_right _ (List.mem_of_getElem? (i := 194) rfl)) rfl
theorem kX5_isGraph : Cond.code yX5_isGraph cX5_isGraph 1 (some .boolean) ∈ wsC := wsC_of (List.mem_append_right _ (List.mem_of_getElem? (i := 195) rfl)) rfl
theorem mX5_56 : Cond.methodLink RX5 56 yX5_isMark ∈ wsC := wsC_of (List.mem_append_right _ (List.mem_of_getElem? (i := 196) rfl)) rfl
theorem tX5_isMark : Cond.static yX5_isMark ∈ wsC := wsC_of (List.mem_append_right _ (List.mem_of_getElem? (i := 197) rfl)) rfl
theorem kX5_isMark : Cond.code yX5_isMark cX5_isMark 1 (some .boolean) ∈ wsC := wsC_of (List.mem_append_right _ (List.mem_of_getElem? (i := 198) rfl)) rfl
theorem mL_23 : Cond.methodLink RL 23 yX5_tint ∈ wsC := wsC_of (List.mem_append_right _ (List.mem_of_getElem? (i := 199) rfl)) rfl
theorem iX5_tint : Cond.instanceMethod yX5_tint ∈ wsC := wsC_of (List.mem_append_right _ (List.mem_of_getElem? (i := 200) rfl)) rfl
theorem sX5_tint : Cond.selects yX5_tint.cls yX5_tint yX5_tint ∈ wsC := wsC_of (List.mem_append_right _ (List.mem_of_getElem? (i := 201) rfl)) rfl
theorem kX5_tint : Cond.code yX5_tint cX5_tint 6 (some .int) ∈ wsC := wsC_of (List.mem_append_right _ (List.mem_of_getElem? (i := 202) rfl)) rfl
theorem mL_28 : Cond.methodLink RL 28 yX5_exchange ∈ wsC := wsC_of (List.mem_append_right _ (List.mem_of_getElem? (i := 203) rfl)) rfl
theorem iX5_exchange : Cond.instanceMethod yX5_exchange ∈ wsC := wsC_of (List.mem_append_right _ (List.mem_of_getElem? (i := 204) rfl)) rfl
theorem sX5_exchange : Cond.selects yX5_exchange.cls yX5_exchange yX5_exchange ∈ wsC := wsC_of (List.mem_append_right _ (List.mem_of_getElem? (i := 205) rfl)) rfl
theorem kX5_exchange : Cond.code yX5_exchange cX5_exchange 4 (some .int) ∈ wsC := wsC_of (List.mem_append_right _ (List.mem_of_getElem? (i := 206) rfl)) rfl
theorem mX5_68 : Cond.methodLink RX5 68 yX1_swap ∈ wsC := wsC_of (List.mem_append_right _ (List.mem_of_getElem? (i := 207) rfl)) rfl
theorem iX1_swap : Cond.instanceMethod yX1_swap ∈ wsC := wsC_of (List.mem_append_right _ (List.mem_of_getElem? (i := 208) rfl)) rfl
theorem sX1_swap : Cond.selects yX1_swap.cls yX1_swap yX1_swap ∈ wsC := wsC_of (List.mem_append_right _ (List.mem_of_getElem? (i := 209) rfl)) rfl
theorem kX1_swap : Cond.code yX1_swap cX1_swap 6 (none) ∈ wsC := wsC_of (List.mem_append_right _ (List.mem_of_getElem? (i := 210) rfl)) rfl
theorem mL_32 : Cond.methodLink RL 32 yX5_copy ∈ wsC := wsC_of (List.mem_append_right _ (List.mem_of_getElem? (i := 211) rfl)) rfl
theorem iX5_copy : Cond.instanceMethod yX5_copy ∈ wsC := wsC_of (List.mem_append_right _ (List.mem_of_getElem? (i := 212) rfl)) rfl
theorem sX5_copy : Cond.selects yX5_copy.cls yX5_copy yX5_copy ∈ wsC := wsC_of (List.mem_append_right _ (List.mem_of_getElem? (i := 213) rfl)) rfl
theorem kX5_copy : Cond.code yX5_copy cX5_copy 2 (some .int) ∈ wsC := wsC_of (List.mem_append_right _ (List.mem_of_getElem? (i := 214) rfl)) rfl
theorem mX5_75 : Cond.methodLink RX5 75 yX1_become ∈ wsC := wsC_of (List.mem_append_right _ (List.mem_of_getElem? (i := 215) rfl)) rfl
theorem iX1_become : Cond.instanceMethod yX1_become ∈ wsC := wsC_of (List.mem_append_right _ (List.mem_of_getElem? (i := 216) rfl)) rfl
theorem sX1_become : Cond.selects yX1_become.cls yX1_become yX1_become ∈ wsC := wsC_of (List.mem_append_right _ (List.mem_of_getElem? (i := 217) rfl)) rfl
theorem kX1_become : Cond.code yX1_become cX1_become 3 (none) ∈ wsC := wsC_of (List.mem_append_right _ (List.mem_of_getElem? (i := 218) rfl)) rfl
theorem mX1_40 : Cond.methodLink RX1 40 arraycopyName ∈ wsC := wsC_of (List.mem_append_right _ (List.mem_of_getElem? (i := 219) rfl)) rfl
theorem tarraycopy : Cond.static arraycopyName ∈ wsC := wsC_of (List.mem_append_right _ (List.mem_of_getElem? (i := 220) rfl)) rfl
theorem narraycopy : Cond.native arraycopyName ∈ wsC := wsC_of (List.mem_append_right _ (List.mem_of_getElem? (i := 221) rfl)) rfl
theorem mL_36 : Cond.methodLink RL 36 yX5_colours ∈ wsC := wsC_of (List.mem_append_right _ (List.mem_of_getElem? (i := 222) rfl)) rfl
theorem iX5_colours : Cond.instanceMethod yX5_colours ∈ wsC := wsC_of (List.mem_append_right _ (List.mem_of_getElem? (i := 223) rfl)) rfl
theorem sX5_colours : Cond.selects yX5_colours.cls yX5_colours yX5_colours ∈ wsC := wsC_of (List.mem_append_right _ (List.mem_of_getElem? (i := 224) rfl)) rfl
theorem kX5_colours : Cond.code yX5_colours cX5_colours 1 (some .int) ∈ wsC := wsC_of (List.mem_append_right _ (List.mem_of_getElem? (i := 225) rfl)) rfl
theorem mX5_78 : Cond.methodLink RX5 78 yX5_paintGraphs ∈ wsC := wsC_of (List.mem_append_right _ (List.mem_of_getElem? (i := 226) rfl)) rfl
theorem iX5_paintGraphs : Cond.instanceMethod yX5_paintGraphs ∈ wsC := wsC_of (List.mem_append_right _ (List.mem_of_getElem? (i := 228) rfl)) rfl
theorem kX5_paintGraphs : Cond.code yX5_paintGraphs cX5_paintGraphs 1 (none) ∈ wsC := wsC_of (List.mem_append_right _ (List.mem_of_getElem? (i := 229) rfl)) rfl
theorem mX5_150 : Cond.methodLink RX5 150 yX3_paint ∈ wsC := wsC_of (List.mem_append_right _ (List.mem_of_getElem? (i := 230) rfl)) rfl
theorem iX3_paint : Cond.instanceMethod yX3_paint ∈ wsC := wsC_of (List.mem_append_right _ (List.mem_of_getElem? (i := 231) rfl)) rfl
theorem sX3_paint : Cond.selects yX3_paint.cls yX3_paint yX3_paint ∈ wsC := wsC_of (List.mem_append_right _ (List.mem_of_getElem? (i := 232) rfl)) rfl
theorem kX3_paint : Cond.code yX3_paint cX3_paint 5 (none) ∈ wsC := wsC_of (List.mem_append_right _ (List.mem_of_getElem? (i := 233) rfl)) rfl
theorem mX3_35 : Cond.methodLink RX3 35 yX3_paintTints ∈ wsC := wsC_of (List.mem_append_right _ (List.mem_of_getElem? (i := 234) rfl)) rfl
theorem iX3_paintTints : Cond.instanceMethod yX3_paintTints ∈ wsC := wsC_of (List.mem_append_right _ (List.mem_of_getElem? (i := 236) rfl)) rfl
theorem kX3_paintTints : Cond.code yX3_paintTints cX3_paintTints 4 (none) ∈ wsC := wsC_of (List.mem_append_right _ (List.mem_of_getElem? (i := 237) rfl)) rfl
theorem mX3_45 : Cond.methodLink RX3 45 yX3_renumber ∈ wsC := wsC_of (List.mem_append_right _ (List.mem_of_getElem? (i := 238) rfl)) rfl
theorem iX3_renumber : Cond.instanceMethod yX3_renumber ∈ wsC := wsC_of (List.mem_append_right _ (List.mem_of_getElem? (i := 240) rfl)) rfl
theorem kX3_renumber : Cond.code yX3_renumber cX3_renumber 5 (none) ∈ wsC := wsC_of (List.mem_append_right _ (List.mem_of_getElem? (i := 241) rfl)) rfl
theorem mX3_75 : Cond.methodLink RX3 75 yX3_sortSpots ∈ wsC := wsC_of (List.mem_append_right _ (List.mem_of_getElem? (i := 242) rfl)) rfl
theorem iX3_sortSpots : Cond.instanceMethod yX3_sortSpots ∈ wsC := wsC_of (List.mem_append_right _ (List.mem_of_getElem? (i := 244) rfl)) rfl
theorem kX3_sortSpots : Cond.code yX3_sortSpots cX3_sortSpots 6 (none) ∈ wsC := wsC_of (List.mem_append_right _ (List.mem_of_getElem? (i := 245) rfl)) rfl
theorem mX3_78 : Cond.methodLink RX3 78 yX3_difference ∈ wsC := wsC_of (List.mem_append_right _ (List.mem_of_getElem? (i := 246) rfl)) rfl
theorem iX3_difference : Cond.instanceMethod yX3_difference ∈ wsC := wsC_of (List.mem_append_right _ (List.mem_of_getElem? (i := 248) rfl)) rfl
theorem kX3_difference : Cond.code yX3_difference cX3_difference 5 (some .int) ∈ wsC := wsC_of (List.mem_append_right _ (List.mem_of_getElem? (i := 249) rfl)) rfl
theorem mX3_52 : Cond.methodLink RX3 52 arraycopyName ∈ wsC := wsC_of (List.mem_append_right _ (List.mem_of_getElem? (i := 250) rfl)) rfl
theorem mX3_42 : Cond.methodLink RX3 42 yX3_gatherKeys ∈ wsC := wsC_of (List.mem_append_right _ (List.mem_of_getElem? (i := 251) rfl)) rfl
theorem iX3_gatherKeys : Cond.instanceMethod yX3_gatherKeys ∈ wsC := wsC_of (List.mem_append_right _ (List.mem_of_getElem? (i := 253) rfl)) rfl
theorem kX3_gatherKeys : Cond.code yX3_gatherKeys cX3_gatherKeys 4 (none) ∈ wsC := wsC_of (List.mem_append_right _ (List.mem_of_getElem? (i := 254) rfl)) rfl
theorem mX3_67 : Cond.methodLink RX3 67 yX3_gatherKeysOf ∈ wsC := wsC_of (List.mem_append_right _ (List.mem_of_getElem? (i := 255) rfl)) rfl
theorem iX3_gatherKeysOf : Cond.instanceMethod yX3_gatherKeysOf ∈ wsC := wsC_of (List.mem_append_right _ (List.mem_of_getElem? (i := 257) rfl)) rfl
theorem kX3_gatherKeysOf : Cond.code yX3_gatherKeysOf cX3_gatherKeysOf 9 (none) ∈ wsC := wsC_of (List.mem_append_right _ (List.mem_of_getElem? (i := 258) rfl)) rfl
theorem mX3_71 : Cond.methodLink RX3 71 yX1_pair ∈ wsC := wsC_of (List.mem_append_right _ (List.mem_of_getElem? (i := 259) rfl)) rfl
theorem iX1_pair : Cond.instanceMethod yX1_pair ∈ wsC := wsC_of (List.mem_append_right _ (List.mem_of_getElem? (i := 260) rfl)) rfl
theorem sX1_pair : Cond.selects yX1_pair.cls yX1_pair yX1_pair ∈ wsC := wsC_of (List.mem_append_right _ (List.mem_of_getElem? (i := 261) rfl)) rfl
theorem kX1_pair : Cond.code yX1_pair cX1_pair 3 (some .int) ∈ wsC := wsC_of (List.mem_append_right _ (List.mem_of_getElem? (i := 262) rfl)) rfl
theorem mL_41 : Cond.methodLink RL 41 yX5_colour ∈ wsC := wsC_of (List.mem_append_right _ (List.mem_of_getElem? (i := 263) rfl)) rfl
theorem iX5_colour : Cond.instanceMethod yX5_colour ∈ wsC := wsC_of (List.mem_append_right _ (List.mem_of_getElem? (i := 264) rfl)) rfl
theorem sX5_colour : Cond.selects yX5_colour.cls yX5_colour yX5_colour ∈ wsC := wsC_of (List.mem_append_right _ (List.mem_of_getElem? (i := 265) rfl)) rfl
theorem kX5_colour : Cond.code yX5_colour cX5_colour 3 (some .int) ∈ wsC := wsC_of (List.mem_append_right _ (List.mem_of_getElem? (i := 266) rfl)) rfl
theorem mL_46 : Cond.methodLink RL 46 yX5_twins ∈ wsC := wsC_of (List.mem_append_right _ (List.mem_of_getElem? (i := 267) rfl)) rfl
theorem iX5_twins : Cond.instanceMethod yX5_twins ∈ wsC := wsC_of (List.mem_append_right _ (List.mem_of_getElem? (i := 268) rfl)) rfl
theorem sX5_twins : Cond.selects yX5_twins.cls yX5_twins yX5_twins ∈ wsC := wsC_of (List.mem_append_right _ (List.mem_of_getElem? (i := 269) rfl)) rfl
theorem kX5_twins : Cond.code yX5_twins cX5_twins 1 (some .int) ∈ wsC := wsC_of (List.mem_append_right _ (List.mem_of_getElem? (i := 270) rfl)) rfl
theorem mX5_88 : Cond.methodLink RX5 88 yX3_paintsAlike ∈ wsC := wsC_of (List.mem_append_right _ (List.mem_of_getElem? (i := 271) rfl)) rfl
theorem iX3_paintsAlike : Cond.instanceMethod yX3_paintsAlike ∈ wsC := wsC_of (List.mem_append_right _ (List.mem_of_getElem? (i := 272) rfl)) rfl
theorem sX3_paintsAlike : Cond.selects yX3_paintsAlike.cls yX3_paintsAlike yX3_paintsAlike ∈ wsC := wsC_of (List.mem_append_right _ (List.mem_of_getElem? (i := 273) rfl)) rfl
theorem kX3_paintsAlike : Cond.code yX3_paintsAlike cX3_paintsAlike 3 (some .boolean) ∈ wsC := wsC_of (List.mem_append_right _ (List.mem_of_getElem? (i := 274) rfl)) rfl
theorem mX3_58 : Cond.methodLink RX3 58 yJ7_fill_53178 ∈ wsC := wsC_of (List.mem_append_right _ (List.mem_of_getElem? (i := 275) rfl)) rfl
theorem mX5_92 : Cond.methodLink RX5 92 yX2_findFirst ∈ wsC := wsC_of (List.mem_append_right _ (List.mem_of_getElem? (i := 276) rfl)) rfl
theorem iX2_findFirst : Cond.instanceMethod yX2_findFirst ∈ wsC := wsC_of (List.mem_append_right _ (List.mem_of_getElem? (i := 277) rfl)) rfl
theorem sX2_findFirst : Cond.selects yX2_findFirst.cls yX2_findFirst yX2_findFirst ∈ wsC := wsC_of (List.mem_append_right _ (List.mem_of_getElem? (i := 278) rfl)) rfl
theorem kX2_findFirst : Cond.code yX2_findFirst cX2_findFirst 3 (some .boolean) ∈ wsC := wsC_of (List.mem_append_right _ (List.mem_of_getElem? (i := 279) rfl)) rfl
theorem mX2_15 : Cond.methodLink RX2 15 yX2_place ∈ wsC := wsC_of (List.mem_append_right _ (List.mem_of_getElem? (i := 280) rfl)) rfl
theorem iX2_place : Cond.instanceMethod yX2_place ∈ wsC := wsC_of (List.mem_append_right _ (List.mem_of_getElem? (i := 282) rfl)) rfl
theorem kX2_place : Cond.code yX2_place cX2_place 8 (some .boolean) ∈ wsC := wsC_of (List.mem_append_right _ (List.mem_of_getElem? (i := 283) rfl)) rfl
theorem mX2_19 : Cond.methodLink RX2 19 yX2_fits ∈ wsC := wsC_of (List.mem_append_right _ (List.mem_of_getElem? (i := 284) rfl)) rfl
theorem iX2_fits : Cond.instanceMethod yX2_fits ∈ wsC := wsC_of (List.mem_append_right _ (List.mem_of_getElem? (i := 286) rfl)) rfl
theorem kX2_fits : Cond.code yX2_fits cX2_fits 7 (some .boolean) ∈ wsC := wsC_of (List.mem_append_right _ (List.mem_of_getElem? (i := 287) rfl)) rfl
theorem mL_50 : Cond.methodLink RL 50 yX5_image ∈ wsC := wsC_of (List.mem_append_right _ (List.mem_of_getElem? (i := 288) rfl)) rfl
theorem iX5_image : Cond.instanceMethod yX5_image ∈ wsC := wsC_of (List.mem_append_right _ (List.mem_of_getElem? (i := 289) rfl)) rfl
theorem sX5_image : Cond.selects yX5_image.cls yX5_image yX5_image ∈ wsC := wsC_of (List.mem_append_right _ (List.mem_of_getElem? (i := 290) rfl)) rfl
theorem kX5_image : Cond.code yX5_image cX5_image 2 (some .int) ∈ wsC := wsC_of (List.mem_append_right _ (List.mem_of_getElem? (i := 291) rfl)) rfl
theorem mL_54 : Cond.methodLink RL 54 yX5_next ∈ wsC := wsC_of (List.mem_append_right _ (List.mem_of_getElem? (i := 292) rfl)) rfl
theorem iX5_next : Cond.instanceMethod yX5_next ∈ wsC := wsC_of (List.mem_append_right _ (List.mem_of_getElem? (i := 293) rfl)) rfl
theorem sX5_next : Cond.selects yX5_next.cls yX5_next yX5_next ∈ wsC := wsC_of (List.mem_append_right _ (List.mem_of_getElem? (i := 294) rfl)) rfl
theorem kX5_next : Cond.code yX5_next cX5_next 1 (some .int) ∈ wsC := wsC_of (List.mem_append_right _ (List.mem_of_getElem? (i := 295) rfl)) rfl
theorem mX5_103 : Cond.methodLink RX5 103 yX2_findNext ∈ wsC := wsC_of (List.mem_append_right _ (List.mem_of_getElem? (i := 296) rfl)) rfl
theorem iX2_findNext : Cond.instanceMethod yX2_findNext ∈ wsC := wsC_of (List.mem_append_right _ (List.mem_of_getElem? (i := 297) rfl)) rfl
theorem sX2_findNext : Cond.selects yX2_findNext.cls yX2_findNext yX2_findNext ∈ wsC := wsC_of (List.mem_append_right _ (List.mem_of_getElem? (i := 298) rfl)) rfl
theorem kX2_findNext : Cond.code yX2_findNext cX2_findNext 3 (some .boolean) ∈ wsC := wsC_of (List.mem_append_right _ (List.mem_of_getElem? (i := 299) rfl)) rfl
theorem mL_58 : Cond.methodLink RL 58 yX5_symmetries ∈ wsC := wsC_of (List.mem_append_right _ (List.mem_of_getElem? (i := 300) rfl)) rfl
theorem iX5_symmetries : Cond.instanceMethod yX5_symmetries ∈ wsC := wsC_of (List.mem_append_right _ (List.mem_of_getElem? (i := 301) rfl)) rfl
theorem sX5_symmetries : Cond.selects yX5_symmetries.cls yX5_symmetries yX5_symmetries ∈ wsC := wsC_of (List.mem_append_right _ (List.mem_of_getElem? (i := 302) rfl)) rfl
theorem kX5_symmetries : Cond.code yX5_symmetries cX5_symmetries 2 (some .int) ∈ wsC := wsC_of (List.mem_append_right _ (List.mem_of_getElem? (i := 303) rfl)) rfl
theorem mX5_106 : Cond.methodLink RX5 106 yX5_withSymmetries ∈ wsC := wsC_of (List.mem_append_right _ (List.mem_of_getElem? (i := 304) rfl)) rfl
theorem iX5_withSymmetries : Cond.instanceMethod yX5_withSymmetries ∈ wsC := wsC_of (List.mem_append_right _ (List.mem_of_getElem? (i := 306) rfl)) rfl
theorem kX5_withSymmetries : Cond.code yX5_withSymmetries cX5_withSymmetries 3 (some (.object "GraphTwins$Graph")) ∈ wsC := wsC_of (List.mem_append_right _ (List.mem_of_getElem? (i := 307) rfl)) rfl
theorem mX5_154 : Cond.methodLink RX5 154 yX4_find ∈ wsC := wsC_of (List.mem_append_right _ (List.mem_of_getElem? (i := 308) rfl)) rfl
theorem iX4_find : Cond.instanceMethod yX4_find ∈ wsC := wsC_of (List.mem_append_right _ (List.mem_of_getElem? (i := 309) rfl)) rfl
theorem sX4_find : Cond.selects yX4_find.cls yX4_find yX4_find ∈ wsC := wsC_of (List.mem_append_right _ (List.mem_of_getElem? (i := 310) rfl)) rfl
theorem kX4_find : Cond.code yX4_find cX4_find 5 (none) ∈ wsC := wsC_of (List.mem_append_right _ (List.mem_of_getElem? (i := 311) rfl)) rfl
theorem mX4_29 : Cond.methodLink RX4 29 yX2_findSymmetry ∈ wsC := wsC_of (List.mem_append_right _ (List.mem_of_getElem? (i := 312) rfl)) rfl
theorem iX2_findSymmetry : Cond.instanceMethod yX2_findSymmetry ∈ wsC := wsC_of (List.mem_append_right _ (List.mem_of_getElem? (i := 313) rfl)) rfl
theorem sX2_findSymmetry : Cond.selects yX2_findSymmetry.cls yX2_findSymmetry yX2_findSymmetry ∈ wsC := wsC_of (List.mem_append_right _ (List.mem_of_getElem? (i := 314) rfl)) rfl
theorem kX2_findSymmetry : Cond.code yX2_findSymmetry cX2_findSymmetry 5 (some .boolean) ∈ wsC := wsC_of (List.mem_append_right _ (List.mem_of_getElem? (i := 315) rfl)) rfl
theorem mX4_33 : Cond.methodLink RX4 33 yX4_joinOrbits ∈ wsC := wsC_of (List.mem_append_right _ (List.mem_of_getElem? (i := 316) rfl)) rfl
theorem iX4_joinOrbits : Cond.instanceMethod yX4_joinOrbits ∈ wsC := wsC_of (List.mem_append_right _ (List.mem_of_getElem? (i := 318) rfl)) rfl
theorem kX4_joinOrbits : Cond.code yX4_joinOrbits cX4_joinOrbits 6 (none) ∈ wsC := wsC_of (List.mem_append_right _ (List.mem_of_getElem? (i := 319) rfl)) rfl
theorem mX4_40 : Cond.methodLink RX4 40 yJ9_max_7cf53 ∈ wsC := wsC_of (List.mem_append_right _ (List.mem_of_getElem? (i := 320) rfl)) rfl
theorem tJ9_max_7cf53 : Cond.static yJ9_max_7cf53 ∈ wsC := wsC_of (List.mem_append_right _ (List.mem_of_getElem? (i := 321) rfl)) rfl
theorem kJ9_max_7cf53 : Cond.code yJ9_max_7cf53 cJ9_max_7cf53 2 (some .int) ∈ wsC := wsC_of (List.mem_append_right _ (List.mem_of_getElem? (i := 322) rfl)) rfl
theorem mX4_46 : Cond.methodLink RX4 46 yJ9_min_7cf53 ∈ wsC := wsC_of (List.mem_append_right _ (List.mem_of_getElem? (i := 323) rfl)) rfl
theorem tJ9_min_7cf53 : Cond.static yJ9_min_7cf53 ∈ wsC := wsC_of (List.mem_append_right _ (List.mem_of_getElem? (i := 324) rfl)) rfl
theorem kJ9_min_7cf53 : Cond.code yJ9_min_7cf53 cJ9_min_7cf53 2 (some .int) ∈ wsC := wsC_of (List.mem_append_right _ (List.mem_of_getElem? (i := 325) rfl)) rfl
theorem mX4_49 : Cond.methodLink RX4 49 yX4_replace ∈ wsC := wsC_of (List.mem_append_right _ (List.mem_of_getElem? (i := 326) rfl)) rfl
theorem tX4_replace : Cond.static yX4_replace ∈ wsC := wsC_of (List.mem_append_right _ (List.mem_of_getElem? (i := 327) rfl)) rfl
theorem kX4_replace : Cond.code yX4_replace cX4_replace 5 (none) ∈ wsC := wsC_of (List.mem_append_right _ (List.mem_of_getElem? (i := 328) rfl)) rfl
theorem mL_62 : Cond.methodLink RL 62 yX5_orbit ∈ wsC := wsC_of (List.mem_append_right _ (List.mem_of_getElem? (i := 329) rfl)) rfl
theorem iX5_orbit : Cond.instanceMethod yX5_orbit ∈ wsC := wsC_of (List.mem_append_right _ (List.mem_of_getElem? (i := 330) rfl)) rfl
theorem sX5_orbit : Cond.selects yX5_orbit.cls yX5_orbit yX5_orbit ∈ wsC := wsC_of (List.mem_append_right _ (List.mem_of_getElem? (i := 331) rfl)) rfl
theorem kX5_orbit : Cond.code yX5_orbit cX5_orbit 3 (some .int) ∈ wsC := wsC_of (List.mem_append_right _ (List.mem_of_getElem? (i := 332) rfl)) rfl
theorem mL_66 : Cond.methodLink RL 66 yX5_form ∈ wsC := wsC_of (List.mem_append_right _ (List.mem_of_getElem? (i := 333) rfl)) rfl
theorem iX5_form : Cond.instanceMethod yX5_form ∈ wsC := wsC_of (List.mem_append_right _ (List.mem_of_getElem? (i := 334) rfl)) rfl
theorem sX5_form : Cond.selects yX5_form.cls yX5_form yX5_form ∈ wsC := wsC_of (List.mem_append_right _ (List.mem_of_getElem? (i := 335) rfl)) rfl
theorem kX5_form : Cond.code yX5_form cX5_form 3 (some .int) ∈ wsC := wsC_of (List.mem_append_right _ (List.mem_of_getElem? (i := 336) rfl)) rfl
theorem mX5_116 : Cond.methodLink RX5 116 yX5_formLength ∈ wsC := wsC_of (List.mem_append_right _ (List.mem_of_getElem? (i := 337) rfl)) rfl
theorem iX5_formLength : Cond.instanceMethod yX5_formLength ∈ wsC := wsC_of (List.mem_append_right _ (List.mem_of_getElem? (i := 339) rfl)) rfl
theorem kX5_formLength : Cond.code yX5_formLength cX5_formLength 1 (some .int) ∈ wsC := wsC_of (List.mem_append_right _ (List.mem_of_getElem? (i := 340) rfl)) rfl
theorem mX5_120 : Cond.methodLink RX5 120 yX5_withForm ∈ wsC := wsC_of (List.mem_append_right _ (List.mem_of_getElem? (i := 341) rfl)) rfl
theorem iX5_withForm : Cond.instanceMethod yX5_withForm ∈ wsC := wsC_of (List.mem_append_right _ (List.mem_of_getElem? (i := 343) rfl)) rfl
theorem kX5_withForm : Cond.code yX5_withForm cX5_withForm 3 (some (.object "GraphTwins$Graph")) ∈ wsC := wsC_of (List.mem_append_right _ (List.mem_of_getElem? (i := 344) rfl)) rfl
theorem mX5_157 : Cond.methodLink RX5 157 yX0_find ∈ wsC := wsC_of (List.mem_append_right _ (List.mem_of_getElem? (i := 345) rfl)) rfl
theorem iX0_find : Cond.instanceMethod yX0_find ∈ wsC := wsC_of (List.mem_append_right _ (List.mem_of_getElem? (i := 346) rfl)) rfl
theorem sX0_find : Cond.selects yX0_find.cls yX0_find yX0_find ∈ wsC := wsC_of (List.mem_append_right _ (List.mem_of_getElem? (i := 347) rfl)) rfl
theorem kX0_find : Cond.code yX0_find cX0_find 3 (none) ∈ wsC := wsC_of (List.mem_append_right _ (List.mem_of_getElem? (i := 348) rfl)) rfl
theorem qX0_32 : Cond.constantLong RX0 32 1099511627776 ∈ wsC := wsC_of (List.mem_append_right _ (List.mem_of_getElem? (i := 349) rfl)) rfl
theorem mX0_34 : Cond.methodLink RX0 34 yJ7_fill_d0a16 ∈ wsC := wsC_of (List.mem_append_right _ (List.mem_of_getElem? (i := 350) rfl)) rfl
theorem tJ7_fill_d0a16 : Cond.static yJ7_fill_d0a16 ∈ wsC := wsC_of (List.mem_append_right _ (List.mem_of_getElem? (i := 351) rfl)) rfl
theorem kJ7_fill_d0a16 : Cond.code yJ7_fill_d0a16 cJ7_fill_d0a16 5 (none) ∈ wsC := wsC_of (List.mem_append_right _ (List.mem_of_getElem? (i := 352) rfl)) rfl
theorem mX0_47 : Cond.methodLink RX0 47 yX0_lesserLikes ∈ wsC := wsC_of (List.mem_append_right _ (List.mem_of_getElem? (i := 353) rfl)) rfl
theorem tX0_lesserLikes : Cond.static yX0_lesserLikes ∈ wsC := wsC_of (List.mem_append_right _ (List.mem_of_getElem? (i := 354) rfl)) rfl
theorem kX0_lesserLikes : Cond.code yX0_lesserLikes cX0_lesserLikes 4 (some .int) ∈ wsC := wsC_of (List.mem_append_right _ (List.mem_of_getElem? (i := 355) rfl)) rfl
theorem mX0_55 : Cond.methodLink RX0 55 yX1_isAlike ∈ wsC := wsC_of (List.mem_append_right _ (List.mem_of_getElem? (i := 356) rfl)) rfl
theorem iX1_isAlike : Cond.instanceMethod yX1_isAlike ∈ wsC := wsC_of (List.mem_append_right _ (List.mem_of_getElem? (i := 357) rfl)) rfl
theorem sX1_isAlike : Cond.selects yX1_isAlike.cls yX1_isAlike yX1_isAlike ∈ wsC := wsC_of (List.mem_append_right _ (List.mem_of_getElem? (i := 358) rfl)) rfl
theorem kX1_isAlike : Cond.code yX1_isAlike cX1_isAlike 4 (some .boolean) ∈ wsC := wsC_of (List.mem_append_right _ (List.mem_of_getElem? (i := 359) rfl)) rfl
theorem mX1_46 : Cond.methodLink RX1 46 yX1_pair ∈ wsC := wsC_of (List.mem_append_right _ (List.mem_of_getElem? (i := 360) rfl)) rfl
theorem mX0_51 : Cond.methodLink RX0 51 yX0_write ∈ wsC := wsC_of (List.mem_append_right _ (List.mem_of_getElem? (i := 361) rfl)) rfl
theorem iX0_write : Cond.instanceMethod yX0_write ∈ wsC := wsC_of (List.mem_append_right _ (List.mem_of_getElem? (i := 363) rfl)) rfl
theorem kX0_write : Cond.code yX0_write cX0_write 7 (none) ∈ wsC := wsC_of (List.mem_append_right _ (List.mem_of_getElem? (i := 364) rfl)) rfl
theorem mX0_59 : Cond.methodLink RX0 59 yX0_candidates ∈ wsC := wsC_of (List.mem_append_right _ (List.mem_of_getElem? (i := 365) rfl)) rfl
theorem iX0_candidates : Cond.instanceMethod yX0_candidates ∈ wsC := wsC_of (List.mem_append_right _ (List.mem_of_getElem? (i := 367) rfl)) rfl
theorem kX0_candidates : Cond.code yX0_candidates cX0_candidates 8 (some .int) ∈ wsC := wsC_of (List.mem_append_right _ (List.mem_of_getElem? (i := 368) rfl)) rfl
theorem mX0_63 : Cond.methodLink RX0 63 yX0_bound ∈ wsC := wsC_of (List.mem_append_right _ (List.mem_of_getElem? (i := 369) rfl)) rfl
theorem iX0_bound : Cond.instanceMethod yX0_bound ∈ wsC := wsC_of (List.mem_append_right _ (List.mem_of_getElem? (i := 371) rfl)) rfl
theorem kX0_bound : Cond.code yX0_bound cX0_bound 11 (none) ∈ wsC := wsC_of (List.mem_append_right _ (List.mem_of_getElem? (i := 372) rfl)) rfl
theorem mX0_78 : Cond.methodLink RX0 78 arraycopyName ∈ wsC := wsC_of (List.mem_append_right _ (List.mem_of_getElem? (i := 373) rfl)) rfl
theorem mX0_84 : Cond.methodLink RX0 84 yX0_longerRow ∈ wsC := wsC_of (List.mem_append_right _ (List.mem_of_getElem? (i := 374) rfl)) rfl
theorem iX0_longerRow : Cond.instanceMethod yX0_longerRow ∈ wsC := wsC_of (List.mem_append_right _ (List.mem_of_getElem? (i := 376) rfl)) rfl
theorem kX0_longerRow : Cond.code yX0_longerRow cX0_longerRow 5 (some .long) ∈ wsC := wsC_of (List.mem_append_right _ (List.mem_of_getElem? (i := 377) rfl)) rfl
theorem mX0_88 : Cond.methodLink RX0 88 yX1_pair ∈ wsC := wsC_of (List.mem_append_right _ (List.mem_of_getElem? (i := 378) rfl)) rfl
theorem mX0_67 : Cond.methodLink RX0 67 yX0_leastBounded ∈ wsC := wsC_of (List.mem_append_right _ (List.mem_of_getElem? (i := 379) rfl)) rfl
theorem iX0_leastBounded : Cond.instanceMethod yX0_leastBounded ∈ wsC := wsC_of (List.mem_append_right _ (List.mem_of_getElem? (i := 381) rfl)) rfl
theorem kX0_leastBounded : Cond.code yX0_leastBounded cX0_leastBounded 6 (some .int) ∈ wsC := wsC_of (List.mem_append_right _ (List.mem_of_getElem? (i := 382) rfl)) rfl
theorem mX0_92 : Cond.methodLink RX0 92 yX0_isBoundLess ∈ wsC := wsC_of (List.mem_append_right _ (List.mem_of_getElem? (i := 383) rfl)) rfl
theorem iX0_isBoundLess : Cond.instanceMethod yX0_isBoundLess ∈ wsC := wsC_of (List.mem_append_right _ (List.mem_of_getElem? (i := 385) rfl)) rfl
theorem kX0_isBoundLess : Cond.code yX0_isBoundLess cX0_isBoundLess 6 (some .boolean) ∈ wsC := wsC_of (List.mem_append_right _ (List.mem_of_getElem? (i := 386) rfl)) rfl
theorem tX5_compareRows : Cond.static yX5_compareRows ∈ wsC := wsC_of (List.mem_append_right _ (List.mem_of_getElem? (i := 388) rfl)) rfl
theorem kX5_compareRows : Cond.code yX5_compareRows cX5_compareRows 4 (some .int) ∈ wsC := wsC_of (List.mem_append_right _ (List.mem_of_getElem? (i := 389) rfl)) rfl
theorem mX0_71 : Cond.methodLink RX0 71 yX0_promisesLess ∈ wsC := wsC_of (List.mem_append_right _ (List.mem_of_getElem? (i := 390) rfl)) rfl
theorem iX0_promisesLess : Cond.instanceMethod yX0_promisesLess ∈ wsC := wsC_of (List.mem_append_right _ (List.mem_of_getElem? (i := 392) rfl)) rfl
theorem kX0_promisesLess : Cond.code yX0_promisesLess cX0_promisesLess 4 (some .boolean) ∈ wsC := wsC_of (List.mem_append_right _ (List.mem_of_getElem? (i := 393) rfl)) rfl
theorem mX0_75 : Cond.methodLink RX0 75 yX0_writeVertex ∈ wsC := wsC_of (List.mem_append_right _ (List.mem_of_getElem? (i := 394) rfl)) rfl
theorem iX0_writeVertex : Cond.instanceMethod yX0_writeVertex ∈ wsC := wsC_of (List.mem_append_right _ (List.mem_of_getElem? (i := 396) rfl)) rfl
theorem kX0_writeVertex : Cond.code yX0_writeVertex cX0_writeVertex 7 (none) ∈ wsC := wsC_of (List.mem_append_right _ (List.mem_of_getElem? (i := 397) rfl)) rfl
theorem mX5_123 : Cond.methodLink RX5 123 yX1_formNumber ∈ wsC := wsC_of (List.mem_append_right _ (List.mem_of_getElem? (i := 398) rfl)) rfl
theorem iX1_formNumber : Cond.instanceMethod yX1_formNumber ∈ wsC := wsC_of (List.mem_append_right _ (List.mem_of_getElem? (i := 399) rfl)) rfl
theorem sX1_formNumber : Cond.selects yX1_formNumber.cls yX1_formNumber yX1_formNumber ∈ wsC := wsC_of (List.mem_append_right _ (List.mem_of_getElem? (i := 400) rfl)) rfl
theorem kX1_formNumber : Cond.code yX1_formNumber cX1_formNumber 4 (some .int) ∈ wsC := wsC_of (List.mem_append_right _ (List.mem_of_getElem? (i := 401) rfl)) rfl
theorem mL_70 : Cond.methodLink RL 70 yX5_compare ∈ wsC := wsC_of (List.mem_append_right _ (List.mem_of_getElem? (i := 402) rfl)) rfl
theorem iX5_compare : Cond.instanceMethod yX5_compare ∈ wsC := wsC_of (List.mem_append_right _ (List.mem_of_getElem? (i := 403) rfl)) rfl
theorem sX5_compare : Cond.selects yX5_compare.cls yX5_compare yX5_compare ∈ wsC := wsC_of (List.mem_append_right _ (List.mem_of_getElem? (i := 404) rfl)) rfl
theorem kX5_compare : Cond.code yX5_compare cX5_compare 2 (some .int) ∈ wsC := wsC_of (List.mem_append_right _ (List.mem_of_getElem? (i := 405) rfl)) rfl
theorem mX5_134 : Cond.methodLink RX5 134 yX5_compareRows ∈ wsC := wsC_of (List.mem_append_right _ (List.mem_of_getElem? (i := 406) rfl)) rfl
theorem mL_74 : Cond.methodLink RL 74 yX5_count ∈ wsC := wsC_of (List.mem_append_right _ (List.mem_of_getElem? (i := 407) rfl)) rfl
theorem iX5_count : Cond.instanceMethod yX5_count ∈ wsC := wsC_of (List.mem_append_right _ (List.mem_of_getElem? (i := 408) rfl)) rfl
theorem sX5_count : Cond.selects yX5_count.cls yX5_count yX5_count ∈ wsC := wsC_of (List.mem_append_right _ (List.mem_of_getElem? (i := 409) rfl)) rfl
theorem kX5_count : Cond.code yX5_count cX5_count 2 (some .int) ∈ wsC := wsC_of (List.mem_append_right _ (List.mem_of_getElem? (i := 410) rfl)) rfl
theorem mX5_138 : Cond.methodLink RX5 138 yX1_edges ∈ wsC := wsC_of (List.mem_append_right _ (List.mem_of_getElem? (i := 411) rfl)) rfl
theorem iX1_edges : Cond.instanceMethod yX1_edges ∈ wsC := wsC_of (List.mem_append_right _ (List.mem_of_getElem? (i := 412) rfl)) rfl
theorem sX1_edges : Cond.selects yX1_edges.cls yX1_edges yX1_edges ∈ wsC := wsC_of (List.mem_append_right _ (List.mem_of_getElem? (i := 413) rfl)) rfl
theorem kX1_edges : Cond.code yX1_edges cX1_edges 4 (some .int) ∈ wsC := wsC_of (List.mem_append_right _ (List.mem_of_getElem? (i := 414) rfl)) rfl
theorem mL_12 : Cond.methodLink RL 12 yX6_init ∈ wsC := wsC_of (List.mem_append_right _ (List.mem_of_getElem? (i := 417) rfl)) rfl
theorem iX6_init : Cond.instanceMethod yX6_init ∈ wsC := wsC_of (List.mem_append_right _ (List.mem_of_getElem? (i := 418) rfl)) rfl
theorem kX6_init : Cond.code yX6_init cX6_init 1 (none) ∈ wsC := wsC_of (List.mem_append_right _ (List.mem_of_getElem? (i := 419) rfl)) rfl
theorem mX6_1 : Cond.methodLink RX6 1 objectInit ∈ wsC := wsC_of (List.mem_append_right _ (List.mem_of_getElem? (i := 420) rfl)) rfl
theorem fX6_7 : Cond.fieldLink RX6 7 (TX6 0).1 (TX6 0).2.1 (TX6 0).2.2.1 ∈ wsC := wsC_of (List.mem_append_right _ (List.mem_of_getElem? (i := 421) rfl)) rfl
theorem fX6_13 : Cond.fieldLink RX6 13 (TX6 1).1 (TX6 1).2.1 (TX6 1).2.2.1 ∈ wsC := wsC_of (List.mem_append_right _ (List.mem_of_getElem? (i := 422) rfl)) rfl
theorem fX6_17 : Cond.fieldLink RX6 17 (TX6 2).1 (TX6 2).2.1 (TX6 2).2.2.1 ∈ wsC := wsC_of (List.mem_append_right _ (List.mem_of_getElem? (i := 423) rfl)) rfl
theorem fX6_45 : Cond.fieldLink RX6 45 (TX6 3).1 (TX6 3).2.1 (TX6 3).2.2.1 ∈ wsC := wsC_of (List.mem_append_right _ (List.mem_of_getElem? (i := 424) rfl)) rfl
theorem fX6_20 : Cond.fieldLink RX6 20 (TX6 4).1 (TX6 4).2.1 (TX6 4).2.2.1 ∈ wsC := wsC_of (List.mem_append_right _ (List.mem_of_getElem? (i := 425) rfl)) rfl
theorem fX6_23 : Cond.fieldLink RX6 23 (TX6 5).1 (TX6 5).2.1 (TX6 5).2.2.1 ∈ wsC := wsC_of (List.mem_append_right _ (List.mem_of_getElem? (i := 426) rfl)) rfl
theorem fX6_26 : Cond.fieldLink RX6 26 (TX6 6).1 (TX6 6).2.1 (TX6 6).2.2.1 ∈ wsC := wsC_of (List.mem_append_right _ (List.mem_of_getElem? (i := 427) rfl)) rfl
theorem fX6_29 : Cond.fieldLink RX6 29 (TX6 7).1 (TX6 7).2.1 (TX6 7).2.2.1 ∈ wsC := wsC_of (List.mem_append_right _ (List.mem_of_getElem? (i := 428) rfl)) rfl
theorem fX6_33 : Cond.fieldLink RX6 33 (TX6 8).1 (TX6 8).2.1 (TX6 8).2.2.1 ∈ wsC := wsC_of (List.mem_append_right _ (List.mem_of_getElem? (i := 429) rfl)) rfl
theorem fX6_36 : Cond.fieldLink RX6 36 (TX6 9).1 (TX6 9).2.1 (TX6 9).2.2.1 ∈ wsC := wsC_of (List.mem_append_right _ (List.mem_of_getElem? (i := 430) rfl)) rfl
theorem fX6_49 : Cond.fieldLink RX6 49 (TX6 10).1 (TX6 10).2.1 (TX6 10).2.2.1 ∈ wsC := wsC_of (List.mem_append_right _ (List.mem_of_getElem? (i := 431) rfl)) rfl
theorem fX6_39 : Cond.fieldLink RX6 39 (TX6 11).1 (TX6 11).2.1 (TX6 11).2.2.1 ∈ wsC := wsC_of (List.mem_append_right _ (List.mem_of_getElem? (i := 432) rfl)) rfl
theorem fX6_42 : Cond.fieldLink RX6 42 (TX6 12).1 (TX6 12).2.1 (TX6 12).2.2.1 ∈ wsC := wsC_of (List.mem_append_right _ (List.mem_of_getElem? (i := 433) rfl)) rfl
theorem fX6_69 : Cond.fieldLink RX6 69 (TX6 13).1 (TX6 13).2.1 (TX6 13).2.2.1 ∈ wsC := wsC_of (List.mem_append_right _ (List.mem_of_getElem? (i := 434) rfl)) rfl
set_option maxRecDepth 10000 in
theorem mL_17 : Cond.methodLink RL 17 yX6_begin ∈ wsC := wsC_of (List.mem_append_right _ (List.mem_of_getElem? (i := 465) rfl)) rfl
set_option maxRecDepth 10000 in
theorem iX6_begin : Cond.instanceMethod yX6_begin ∈ wsC := wsC_of (List.mem_append_right _ (List.mem_of_getElem? (i := 466) rfl)) rfl
set_option maxRecDepth 10000 in
theorem sX6_begin : Cond.selects yX6_begin.cls yX6_begin yX6_begin ∈ wsC := wsC_of (List.mem_append_right _ (List.mem_of_getElem? (i := 467) rfl)) rfl
set_option maxRecDepth 10000 in
theorem kX6_begin : Cond.code yX6_begin cX6_begin 3 (some .int) ∈ wsC := wsC_of (List.mem_append_right _ (List.mem_of_getElem? (i := 468) rfl)) rfl
set_option maxRecDepth 10000 in
theorem mX6_52 : Cond.methodLink RX6 52 yX6_changed ∈ wsC := wsC_of (List.mem_append_right _ (List.mem_of_getElem? (i := 469) rfl)) rfl
set_option maxRecDepth 10000 in
theorem iX6_changed : Cond.instanceMethod yX6_changed ∈ wsC := wsC_of (List.mem_append_right _ (List.mem_of_getElem? (i := 471) rfl)) rfl
set_option maxRecDepth 10000 in
theorem kX6_changed : Cond.code yX6_changed cX6_changed 1 (none) ∈ wsC := wsC_of (List.mem_append_right _ (List.mem_of_getElem? (i := 472) rfl)) rfl
set_option maxRecDepth 10000 in
theorem mL_22 : Cond.methodLink RL 22 yX6_label ∈ wsC := wsC_of (List.mem_append_right _ (List.mem_of_getElem? (i := 473) rfl)) rfl
set_option maxRecDepth 10000 in
theorem iX6_label : Cond.instanceMethod yX6_label ∈ wsC := wsC_of (List.mem_append_right _ (List.mem_of_getElem? (i := 474) rfl)) rfl
set_option maxRecDepth 10000 in
theorem sX6_label : Cond.selects yX6_label.cls yX6_label yX6_label ∈ wsC := wsC_of (List.mem_append_right _ (List.mem_of_getElem? (i := 475) rfl)) rfl
set_option maxRecDepth 10000 in
theorem kX6_label : Cond.code yX6_label cX6_label 6 (some .int) ∈ wsC := wsC_of (List.mem_append_right _ (List.mem_of_getElem? (i := 476) rfl)) rfl
set_option maxRecDepth 10000 in
theorem mX6_55 : Cond.methodLink RX6 55 yX6_isGraph ∈ wsC := wsC_of (List.mem_append_right _ (List.mem_of_getElem? (i := 477) rfl)) rfl
set_option maxRecDepth 10000 in
theorem tX6_isGraph : Cond.static yX6_isGraph ∈ wsC := wsC_of (List.mem_append_right _ (List.mem_of_getElem? (i := 478) rfl)) rfl
set_option maxRecDepth 10000 in
theorem kX6_isGraph : Cond.code yX6_isGraph cX6_isGraph 1 (some .boolean) ∈ wsC := wsC_of (List.mem_append_right _ (List.mem_of_getElem? (i := 479) rfl)) rfl
set_option maxRecDepth 10000 in
theorem mX6_59 : Cond.methodLink RX6 59 yX6_isVertex ∈ wsC := wsC_of (List.mem_append_right _ (List.mem_of_getElem? (i := 480) rfl)) rfl
set_option maxRecDepth 10000 in
theorem iX6_isVertex : Cond.instanceMethod yX6_isVertex ∈ wsC := wsC_of (List.mem_append_right _ (List.mem_of_getElem? (i := 482) rfl)) rfl
set_option maxRecDepth 10000 in
theorem kX6_isVertex : Cond.code yX6_isVertex cX6_isVertex 2 (some .boolean) ∈ wsC := wsC_of (List.mem_append_right _ (List.mem_of_getElem? (i := 483) rfl)) rfl
set_option maxRecDepth 10000 in
theorem mX6_62 : Cond.methodLink RX6 62 yX6_labelOf ∈ wsC := wsC_of (List.mem_append_right _ (List.mem_of_getElem? (i := 484) rfl)) rfl
set_option maxRecDepth 10000 in
theorem iX6_labelOf : Cond.instanceMethod yX6_labelOf ∈ wsC := wsC_of (List.mem_append_right _ (List.mem_of_getElem? (i := 486) rfl)) rfl
set_option maxRecDepth 10000 in
theorem kX6_labelOf : Cond.code yX6_labelOf cX6_labelOf 4 (some .int) ∈ wsC := wsC_of (List.mem_append_right _ (List.mem_of_getElem? (i := 487) rfl)) rfl
set_option maxRecDepth 10000 in
theorem mL_27 : Cond.methodLink RL 27 yX6_tint ∈ wsC := wsC_of (List.mem_append_right _ (List.mem_of_getElem? (i := 488) rfl)) rfl
set_option maxRecDepth 10000 in
theorem iX6_tint : Cond.instanceMethod yX6_tint ∈ wsC := wsC_of (List.mem_append_right _ (List.mem_of_getElem? (i := 489) rfl)) rfl
set_option maxRecDepth 10000 in
theorem sX6_tint : Cond.selects yX6_tint.cls yX6_tint yX6_tint ∈ wsC := wsC_of (List.mem_append_right _ (List.mem_of_getElem? (i := 490) rfl)) rfl
set_option maxRecDepth 10000 in
theorem kX6_tint : Cond.code yX6_tint cX6_tint 5 (some .int) ∈ wsC := wsC_of (List.mem_append_right _ (List.mem_of_getElem? (i := 491) rfl)) rfl
set_option maxRecDepth 10000 in
theorem mL_31 : Cond.methodLink RL 31 yX6_exchange ∈ wsC := wsC_of (List.mem_append_right _ (List.mem_of_getElem? (i := 492) rfl)) rfl
set_option maxRecDepth 10000 in
theorem iX6_exchange : Cond.instanceMethod yX6_exchange ∈ wsC := wsC_of (List.mem_append_right _ (List.mem_of_getElem? (i := 493) rfl)) rfl
set_option maxRecDepth 10000 in
theorem sX6_exchange : Cond.selects yX6_exchange.cls yX6_exchange yX6_exchange ∈ wsC := wsC_of (List.mem_append_right _ (List.mem_of_getElem? (i := 494) rfl)) rfl
set_option maxRecDepth 10000 in
theorem kX6_exchange : Cond.code yX6_exchange cX6_exchange 6 (some .int) ∈ wsC := wsC_of (List.mem_append_right _ (List.mem_of_getElem? (i := 495) rfl)) rfl
set_option maxRecDepth 10000 in
theorem mX6_66 : Cond.methodLink RX6 66 yX6_other ∈ wsC := wsC_of (List.mem_append_right _ (List.mem_of_getElem? (i := 496) rfl)) rfl
set_option maxRecDepth 10000 in
theorem tX6_other : Cond.static yX6_other ∈ wsC := wsC_of (List.mem_append_right _ (List.mem_of_getElem? (i := 497) rfl)) rfl
set_option maxRecDepth 10000 in
theorem kX6_other : Cond.code yX6_other cX6_other 3 (some .int) ∈ wsC := wsC_of (List.mem_append_right _ (List.mem_of_getElem? (i := 498) rfl)) rfl
set_option maxRecDepth 10000 in
theorem mL_35 : Cond.methodLink RL 35 yX6_copy ∈ wsC := wsC_of (List.mem_append_right _ (List.mem_of_getElem? (i := 499) rfl)) rfl
set_option maxRecDepth 10000 in
theorem iX6_copy : Cond.instanceMethod yX6_copy ∈ wsC := wsC_of (List.mem_append_right _ (List.mem_of_getElem? (i := 500) rfl)) rfl
set_option maxRecDepth 10000 in
theorem sX6_copy : Cond.selects yX6_copy.cls yX6_copy yX6_copy ∈ wsC := wsC_of (List.mem_append_right _ (List.mem_of_getElem? (i := 501) rfl)) rfl
set_option maxRecDepth 10000 in
theorem kX6_copy : Cond.code yX6_copy cX6_copy 4 (some .int) ∈ wsC := wsC_of (List.mem_append_right _ (List.mem_of_getElem? (i := 502) rfl)) rfl
set_option maxRecDepth 10000 in
theorem mL_40 : Cond.methodLink RL 40 yX6_colours ∈ wsC := wsC_of (List.mem_append_right _ (List.mem_of_getElem? (i := 503) rfl)) rfl
set_option maxRecDepth 10000 in
theorem iX6_colours : Cond.instanceMethod yX6_colours ∈ wsC := wsC_of (List.mem_append_right _ (List.mem_of_getElem? (i := 504) rfl)) rfl
set_option maxRecDepth 10000 in
theorem sX6_colours : Cond.selects yX6_colours.cls yX6_colours yX6_colours ∈ wsC := wsC_of (List.mem_append_right _ (List.mem_of_getElem? (i := 505) rfl)) rfl
set_option maxRecDepth 10000 in
theorem kX6_colours : Cond.code yX6_colours cX6_colours 1 (some .int) ∈ wsC := wsC_of (List.mem_append_right _ (List.mem_of_getElem? (i := 506) rfl)) rfl
set_option maxRecDepth 10000 in
theorem mX6_83 : Cond.methodLink RX6 83 yX6_paint ∈ wsC := wsC_of (List.mem_append_right _ (List.mem_of_getElem? (i := 507) rfl)) rfl
set_option maxRecDepth 10000 in
theorem iX6_paint : Cond.instanceMethod yX6_paint ∈ wsC := wsC_of (List.mem_append_right _ (List.mem_of_getElem? (i := 509) rfl)) rfl
set_option maxRecDepth 10000 in
theorem kX6_paint : Cond.code yX6_paint cX6_paint 9 (none) ∈ wsC := wsC_of (List.mem_append_right _ (List.mem_of_getElem? (i := 510) rfl)) rfl
set_option maxRecDepth 10000 in
theorem mX6_76 : Cond.methodLink RX6 76 yX6_isThere ∈ wsC := wsC_of (List.mem_append_right _ (List.mem_of_getElem? (i := 511) rfl)) rfl
set_option maxRecDepth 10000 in
theorem iX6_isThere : Cond.instanceMethod yX6_isThere ∈ wsC := wsC_of (List.mem_append_right _ (List.mem_of_getElem? (i := 513) rfl)) rfl
set_option maxRecDepth 10000 in
theorem kX6_isThere : Cond.code yX6_isThere cX6_isThere 2 (some .boolean) ∈ wsC := wsC_of (List.mem_append_right _ (List.mem_of_getElem? (i := 514) rfl)) rfl
set_option maxRecDepth 10000 in
theorem mX6_79 : Cond.methodLink RX6 79 yX6_order ∈ wsC := wsC_of (List.mem_append_right _ (List.mem_of_getElem? (i := 515) rfl)) rfl
set_option maxRecDepth 10000 in
theorem iX6_order : Cond.instanceMethod yX6_order ∈ wsC := wsC_of (List.mem_append_right _ (List.mem_of_getElem? (i := 517) rfl)) rfl
set_option maxRecDepth 10000 in
theorem kX6_order : Cond.code yX6_order cX6_order 7 (some .int) ∈ wsC := wsC_of (List.mem_append_right _ (List.mem_of_getElem? (i := 518) rfl)) rfl
set_option maxRecDepth 10000 in
theorem mX6_72 : Cond.methodLink RX6 72 yX6_many ∈ wsC := wsC_of (List.mem_append_right _ (List.mem_of_getElem? (i := 519) rfl)) rfl
set_option maxRecDepth 10000 in
theorem iX6_many : Cond.instanceMethod yX6_many ∈ wsC := wsC_of (List.mem_append_right _ (List.mem_of_getElem? (i := 521) rfl)) rfl
set_option maxRecDepth 10000 in
theorem kX6_many : Cond.code yX6_many cX6_many 7 (some .int) ∈ wsC := wsC_of (List.mem_append_right _ (List.mem_of_getElem? (i := 522) rfl)) rfl
set_option maxRecDepth 10000 in
theorem mL_45 : Cond.methodLink RL 45 yX6_colour ∈ wsC := wsC_of (List.mem_append_right _ (List.mem_of_getElem? (i := 523) rfl)) rfl
set_option maxRecDepth 10000 in
theorem iX6_colour : Cond.instanceMethod yX6_colour ∈ wsC := wsC_of (List.mem_append_right _ (List.mem_of_getElem? (i := 524) rfl)) rfl
set_option maxRecDepth 10000 in
theorem sX6_colour : Cond.selects yX6_colour.cls yX6_colour yX6_colour ∈ wsC := wsC_of (List.mem_append_right _ (List.mem_of_getElem? (i := 525) rfl)) rfl
set_option maxRecDepth 10000 in
theorem kX6_colour : Cond.code yX6_colour cX6_colour 3 (some .int) ∈ wsC := wsC_of (List.mem_append_right _ (List.mem_of_getElem? (i := 526) rfl)) rfl
set_option maxRecDepth 10000 in
theorem mL_49 : Cond.methodLink RL 49 yX6_twins ∈ wsC := wsC_of (List.mem_append_right _ (List.mem_of_getElem? (i := 527) rfl)) rfl
set_option maxRecDepth 10000 in
theorem iX6_twins : Cond.instanceMethod yX6_twins ∈ wsC := wsC_of (List.mem_append_right _ (List.mem_of_getElem? (i := 528) rfl)) rfl
set_option maxRecDepth 10000 in
theorem sX6_twins : Cond.selects yX6_twins.cls yX6_twins yX6_twins ∈ wsC := wsC_of (List.mem_append_right _ (List.mem_of_getElem? (i := 529) rfl)) rfl
set_option maxRecDepth 10000 in
theorem kX6_twins : Cond.code yX6_twins cX6_twins 1 (some .int) ∈ wsC := wsC_of (List.mem_append_right _ (List.mem_of_getElem? (i := 530) rfl)) rfl
set_option maxRecDepth 10000 in
theorem mX6_90 : Cond.methodLink RX6 90 yX6_free ∈ wsC := wsC_of (List.mem_append_right _ (List.mem_of_getElem? (i := 531) rfl)) rfl
set_option maxRecDepth 10000 in
theorem iX6_free : Cond.instanceMethod yX6_free ∈ wsC := wsC_of (List.mem_append_right _ (List.mem_of_getElem? (i := 533) rfl)) rfl
set_option maxRecDepth 10000 in
theorem kX6_free : Cond.code yX6_free cX6_free 2 (none) ∈ wsC := wsC_of (List.mem_append_right _ (List.mem_of_getElem? (i := 534) rfl)) rfl
set_option maxRecDepth 10000 in
theorem mX6_93 : Cond.methodLink RX6 93 yX6_search ∈ wsC := wsC_of (List.mem_append_right _ (List.mem_of_getElem? (i := 535) rfl)) rfl
set_option maxRecDepth 10000 in
theorem iX6_search : Cond.instanceMethod yX6_search ∈ wsC := wsC_of (List.mem_append_right _ (List.mem_of_getElem? (i := 537) rfl)) rfl
set_option maxRecDepth 10000 in
theorem kX6_search : Cond.code yX6_search cX6_search 5 (some .boolean) ∈ wsC := wsC_of (List.mem_append_right _ (List.mem_of_getElem? (i := 538) rfl)) rfl
set_option maxRecDepth 10000 in
theorem mX6_86 : Cond.methodLink RX6 86 yX6_fits ∈ wsC := wsC_of (List.mem_append_right _ (List.mem_of_getElem? (i := 539) rfl)) rfl
set_option maxRecDepth 10000 in
theorem iX6_fits : Cond.instanceMethod yX6_fits ∈ wsC := wsC_of (List.mem_append_right _ (List.mem_of_getElem? (i := 541) rfl)) rfl
set_option maxRecDepth 10000 in
theorem kX6_fits : Cond.code yX6_fits cX6_fits 6 (some .boolean) ∈ wsC := wsC_of (List.mem_append_right _ (List.mem_of_getElem? (i := 542) rfl)) rfl
set_option maxRecDepth 10000 in
theorem mX6_97 : Cond.methodLink RX6 97 yX6_keep ∈ wsC := wsC_of (List.mem_append_right _ (List.mem_of_getElem? (i := 543) rfl)) rfl
set_option maxRecDepth 10000 in
theorem iX6_keep : Cond.instanceMethod yX6_keep ∈ wsC := wsC_of (List.mem_append_right _ (List.mem_of_getElem? (i := 545) rfl)) rfl
set_option maxRecDepth 10000 in
theorem kX6_keep : Cond.code yX6_keep cX6_keep 2 (none) ∈ wsC := wsC_of (List.mem_append_right _ (List.mem_of_getElem? (i := 546) rfl)) rfl
set_option maxRecDepth 10000 in
theorem mL_53 : Cond.methodLink RL 53 yX6_image ∈ wsC := wsC_of (List.mem_append_right _ (List.mem_of_getElem? (i := 547) rfl)) rfl
set_option maxRecDepth 10000 in
theorem iX6_image : Cond.instanceMethod yX6_image ∈ wsC := wsC_of (List.mem_append_right _ (List.mem_of_getElem? (i := 548) rfl)) rfl
set_option maxRecDepth 10000 in
theorem sX6_image : Cond.selects yX6_image.cls yX6_image yX6_image ∈ wsC := wsC_of (List.mem_append_right _ (List.mem_of_getElem? (i := 549) rfl)) rfl
set_option maxRecDepth 10000 in
theorem kX6_image : Cond.code yX6_image cX6_image 2 (some .int) ∈ wsC := wsC_of (List.mem_append_right _ (List.mem_of_getElem? (i := 550) rfl)) rfl
set_option maxRecDepth 10000 in
theorem mL_57 : Cond.methodLink RL 57 yX6_next ∈ wsC := wsC_of (List.mem_append_right _ (List.mem_of_getElem? (i := 551) rfl)) rfl
set_option maxRecDepth 10000 in
theorem iX6_next : Cond.instanceMethod yX6_next ∈ wsC := wsC_of (List.mem_append_right _ (List.mem_of_getElem? (i := 552) rfl)) rfl
set_option maxRecDepth 10000 in
theorem sX6_next : Cond.selects yX6_next.cls yX6_next yX6_next ∈ wsC := wsC_of (List.mem_append_right _ (List.mem_of_getElem? (i := 553) rfl)) rfl
set_option maxRecDepth 10000 in
theorem kX6_next : Cond.code yX6_next cX6_next 2 (some .int) ∈ wsC := wsC_of (List.mem_append_right _ (List.mem_of_getElem? (i := 554) rfl)) rfl
set_option maxRecDepth 10000 in
theorem mL_61 : Cond.methodLink RL 61 yX6_symmetries ∈ wsC := wsC_of (List.mem_append_right _ (List.mem_of_getElem? (i := 555) rfl)) rfl
set_option maxRecDepth 10000 in
theorem iX6_symmetries : Cond.instanceMethod yX6_symmetries ∈ wsC := wsC_of (List.mem_append_right _ (List.mem_of_getElem? (i := 556) rfl)) rfl
set_option maxRecDepth 10000 in
theorem sX6_symmetries : Cond.selects yX6_symmetries.cls yX6_symmetries yX6_symmetries ∈ wsC := wsC_of (List.mem_append_right _ (List.mem_of_getElem? (i := 557) rfl)) rfl
set_option maxRecDepth 10000 in
theorem kX6_symmetries : Cond.code yX6_symmetries cX6_symmetries 4 (some .int) ∈ wsC := wsC_of (List.mem_append_right _ (List.mem_of_getElem? (i := 558) rfl)) rfl
set_option maxRecDepth 10000 in
theorem mL_65 : Cond.methodLink RL 65 yX6_orbit ∈ wsC := wsC_of (List.mem_append_right _ (List.mem_of_getElem? (i := 559) rfl)) rfl
set_option maxRecDepth 10000 in
theorem iX6_orbit : Cond.instanceMethod yX6_orbit ∈ wsC := wsC_of (List.mem_append_right _ (List.mem_of_getElem? (i := 560) rfl)) rfl
set_option maxRecDepth 10000 in
theorem sX6_orbit : Cond.selects yX6_orbit.cls yX6_orbit yX6_orbit ∈ wsC := wsC_of (List.mem_append_right _ (List.mem_of_getElem? (i := 561) rfl)) rfl
set_option maxRecDepth 10000 in
theorem kX6_orbit : Cond.code yX6_orbit cX6_orbit 4 (some .int) ∈ wsC := wsC_of (List.mem_append_right _ (List.mem_of_getElem? (i := 562) rfl)) rfl
set_option maxRecDepth 10000 in
theorem mL_69 : Cond.methodLink RL 69 yX6_form ∈ wsC := wsC_of (List.mem_append_right _ (List.mem_of_getElem? (i := 563) rfl)) rfl
set_option maxRecDepth 10000 in
theorem iX6_form : Cond.instanceMethod yX6_form ∈ wsC := wsC_of (List.mem_append_right _ (List.mem_of_getElem? (i := 564) rfl)) rfl
set_option maxRecDepth 10000 in
theorem sX6_form : Cond.selects yX6_form.cls yX6_form yX6_form ∈ wsC := wsC_of (List.mem_append_right _ (List.mem_of_getElem? (i := 565) rfl)) rfl
set_option maxRecDepth 10000 in
theorem kX6_form : Cond.code yX6_form cX6_form 3 (some .int) ∈ wsC := wsC_of (List.mem_append_right _ (List.mem_of_getElem? (i := 566) rfl)) rfl
set_option maxRecDepth 10000 in
theorem mX6_114 : Cond.methodLink RX6 114 yX6_write ∈ wsC := wsC_of (List.mem_append_right _ (List.mem_of_getElem? (i := 567) rfl)) rfl
set_option maxRecDepth 10000 in
theorem iX6_write : Cond.instanceMethod yX6_write ∈ wsC := wsC_of (List.mem_append_right _ (List.mem_of_getElem? (i := 569) rfl)) rfl
set_option maxRecDepth 10000 in
theorem kX6_write : Cond.code yX6_write cX6_write 6 (none) ∈ wsC := wsC_of (List.mem_append_right _ (List.mem_of_getElem? (i := 570) rfl)) rfl
set_option maxRecDepth 10000 in
theorem mX6_100 : Cond.methodLink RX6 100 yX6_isUnused ∈ wsC := wsC_of (List.mem_append_right _ (List.mem_of_getElem? (i := 571) rfl)) rfl
set_option maxRecDepth 10000 in
theorem iX6_isUnused : Cond.instanceMethod yX6_isUnused ∈ wsC := wsC_of (List.mem_append_right _ (List.mem_of_getElem? (i := 573) rfl)) rfl
set_option maxRecDepth 10000 in
theorem kX6_isUnused : Cond.code yX6_isUnused cX6_isUnused 3 (some .boolean) ∈ wsC := wsC_of (List.mem_append_right _ (List.mem_of_getElem? (i := 574) rfl)) rfl
set_option maxRecDepth 10000 in
theorem mX6_103 : Cond.methodLink RX6 103 yX6_part ∈ wsC := wsC_of (List.mem_append_right _ (List.mem_of_getElem? (i := 575) rfl)) rfl
set_option maxRecDepth 10000 in
theorem iX6_part : Cond.instanceMethod yX6_part ∈ wsC := wsC_of (List.mem_append_right _ (List.mem_of_getElem? (i := 577) rfl)) rfl
set_option maxRecDepth 10000 in
theorem kX6_part : Cond.code yX6_part cX6_part 5 (none) ∈ wsC := wsC_of (List.mem_append_right _ (List.mem_of_getElem? (i := 578) rfl)) rfl
set_option maxRecDepth 10000 in
theorem mX6_107 : Cond.methodLink RX6 107 yX6_sizeOf ∈ wsC := wsC_of (List.mem_append_right _ (List.mem_of_getElem? (i := 579) rfl)) rfl
set_option maxRecDepth 10000 in
theorem tX6_sizeOf : Cond.static yX6_sizeOf ∈ wsC := wsC_of (List.mem_append_right _ (List.mem_of_getElem? (i := 580) rfl)) rfl
set_option maxRecDepth 10000 in
theorem kX6_sizeOf : Cond.code yX6_sizeOf cX6_sizeOf 1 (some .int) ∈ wsC := wsC_of (List.mem_append_right _ (List.mem_of_getElem? (i := 581) rfl)) rfl
set_option maxRecDepth 10000 in
theorem mX6_111 : Cond.methodLink RX6 111 yX6_compareRows ∈ wsC := wsC_of (List.mem_append_right _ (List.mem_of_getElem? (i := 582) rfl)) rfl
set_option maxRecDepth 10000 in
theorem iX6_compareRows : Cond.instanceMethod yX6_compareRows ∈ wsC := wsC_of (List.mem_append_right _ (List.mem_of_getElem? (i := 584) rfl)) rfl
set_option maxRecDepth 10000 in
theorem kX6_compareRows : Cond.code yX6_compareRows cX6_compareRows 4 (some .int) ∈ wsC := wsC_of (List.mem_append_right _ (List.mem_of_getElem? (i := 585) rfl)) rfl
set_option maxRecDepth 10000 in
theorem mL_73 : Cond.methodLink RL 73 yX6_compare ∈ wsC := wsC_of (List.mem_append_right _ (List.mem_of_getElem? (i := 586) rfl)) rfl
set_option maxRecDepth 10000 in
theorem iX6_compare : Cond.instanceMethod yX6_compare ∈ wsC := wsC_of (List.mem_append_right _ (List.mem_of_getElem? (i := 587) rfl)) rfl
set_option maxRecDepth 10000 in
theorem sX6_compare : Cond.selects yX6_compare.cls yX6_compare yX6_compare ∈ wsC := wsC_of (List.mem_append_right _ (List.mem_of_getElem? (i := 588) rfl)) rfl
set_option maxRecDepth 10000 in
theorem kX6_compare : Cond.code yX6_compare cX6_compare 5 (some .int) ∈ wsC := wsC_of (List.mem_append_right _ (List.mem_of_getElem? (i := 589) rfl)) rfl
set_option maxRecDepth 10000 in
theorem mL_77 : Cond.methodLink RL 77 yX6_count ∈ wsC := wsC_of (List.mem_append_right _ (List.mem_of_getElem? (i := 590) rfl)) rfl
set_option maxRecDepth 10000 in
theorem iX6_count : Cond.instanceMethod yX6_count ∈ wsC := wsC_of (List.mem_append_right _ (List.mem_of_getElem? (i := 591) rfl)) rfl
set_option maxRecDepth 10000 in
theorem sX6_count : Cond.selects yX6_count.cls yX6_count yX6_count ∈ wsC := wsC_of (List.mem_append_right _ (List.mem_of_getElem? (i := 592) rfl)) rfl
set_option maxRecDepth 10000 in
theorem kX6_count : Cond.code yX6_count cX6_count 2 (some .int) ∈ wsC := wsC_of (List.mem_append_right _ (List.mem_of_getElem? (i := 593) rfl)) rfl
set_option maxRecDepth 10000 in
theorem mX6_118 : Cond.methodLink RX6 118 yX6_edges ∈ wsC := wsC_of (List.mem_append_right _ (List.mem_of_getElem? (i := 594) rfl)) rfl
set_option maxRecDepth 10000 in
theorem iX6_edges : Cond.instanceMethod yX6_edges ∈ wsC := wsC_of (List.mem_append_right _ (List.mem_of_getElem? (i := 596) rfl)) rfl
set_option maxRecDepth 10000 in
theorem kX6_edges : Cond.code yX6_edges cX6_edges 5 (some .int) ∈ wsC := wsC_of (List.mem_append_right _ (List.mem_of_getElem? (i := 597) rfl)) rfl
theorem sX5_noteChange : Cond.selects yX5_noteChange.cls yX5_noteChange yX5_noteChange ∈ wsC := wsC_of (List.mem_append_left _ (List.mem_of_getElem? (i := 0) rfl)) rfl
theorem sX5_isVertex : Cond.selects yX5_isVertex.cls yX5_isVertex yX5_isVertex ∈ wsC := wsC_of (List.mem_append_left _ (List.mem_of_getElem? (i := 1) rfl)) rfl
theorem sX5_paintGraphs : Cond.selects yX5_paintGraphs.cls yX5_paintGraphs yX5_paintGraphs ∈ wsC := wsC_of (List.mem_append_left _ (List.mem_of_getElem? (i := 2) rfl)) rfl
theorem sX3_paintTints : Cond.selects yX3_paintTints.cls yX3_paintTints yX3_paintTints ∈ wsC := wsC_of (List.mem_append_left _ (List.mem_of_getElem? (i := 3) rfl)) rfl
theorem sX3_renumber : Cond.selects yX3_renumber.cls yX3_renumber yX3_renumber ∈ wsC := wsC_of (List.mem_append_left _ (List.mem_of_getElem? (i := 4) rfl)) rfl
theorem sX3_sortSpots : Cond.selects yX3_sortSpots.cls yX3_sortSpots yX3_sortSpots ∈ wsC := wsC_of (List.mem_append_left _ (List.mem_of_getElem? (i := 5) rfl)) rfl
theorem sX3_difference : Cond.selects yX3_difference.cls yX3_difference yX3_difference ∈ wsC := wsC_of (List.mem_append_left _ (List.mem_of_getElem? (i := 6) rfl)) rfl
theorem sX3_gatherKeys : Cond.selects yX3_gatherKeys.cls yX3_gatherKeys yX3_gatherKeys ∈ wsC := wsC_of (List.mem_append_left _ (List.mem_of_getElem? (i := 7) rfl)) rfl
theorem sX3_gatherKeysOf : Cond.selects yX3_gatherKeysOf.cls yX3_gatherKeysOf yX3_gatherKeysOf ∈ wsC := wsC_of (List.mem_append_left _ (List.mem_of_getElem? (i := 8) rfl)) rfl
theorem sX2_place : Cond.selects yX2_place.cls yX2_place yX2_place ∈ wsC := wsC_of (List.mem_append_left _ (List.mem_of_getElem? (i := 9) rfl)) rfl
theorem sX2_fits : Cond.selects yX2_fits.cls yX2_fits yX2_fits ∈ wsC := wsC_of (List.mem_append_left _ (List.mem_of_getElem? (i := 10) rfl)) rfl
theorem sX5_withSymmetries : Cond.selects yX5_withSymmetries.cls yX5_withSymmetries yX5_withSymmetries ∈ wsC := wsC_of (List.mem_append_left _ (List.mem_of_getElem? (i := 11) rfl)) rfl
theorem sX4_joinOrbits : Cond.selects yX4_joinOrbits.cls yX4_joinOrbits yX4_joinOrbits ∈ wsC := wsC_of (List.mem_append_left _ (List.mem_of_getElem? (i := 12) rfl)) rfl
theorem sX5_formLength : Cond.selects yX5_formLength.cls yX5_formLength yX5_formLength ∈ wsC := wsC_of (List.mem_append_left _ (List.mem_of_getElem? (i := 13) rfl)) rfl
theorem sX5_withForm : Cond.selects yX5_withForm.cls yX5_withForm yX5_withForm ∈ wsC := wsC_of (List.mem_append_left _ (List.mem_of_getElem? (i := 14) rfl)) rfl
theorem sX0_write : Cond.selects yX0_write.cls yX0_write yX0_write ∈ wsC := wsC_of (List.mem_append_left _ (List.mem_of_getElem? (i := 15) rfl)) rfl
theorem sX0_candidates : Cond.selects yX0_candidates.cls yX0_candidates yX0_candidates ∈ wsC := wsC_of (List.mem_append_left _ (List.mem_of_getElem? (i := 16) rfl)) rfl
theorem sX0_bound : Cond.selects yX0_bound.cls yX0_bound yX0_bound ∈ wsC := wsC_of (List.mem_append_left _ (List.mem_of_getElem? (i := 17) rfl)) rfl
theorem sX0_longerRow : Cond.selects yX0_longerRow.cls yX0_longerRow yX0_longerRow ∈ wsC := wsC_of (List.mem_append_left _ (List.mem_of_getElem? (i := 18) rfl)) rfl
theorem sX0_leastBounded : Cond.selects yX0_leastBounded.cls yX0_leastBounded yX0_leastBounded ∈ wsC := wsC_of (List.mem_append_left _ (List.mem_of_getElem? (i := 19) rfl)) rfl
theorem sX0_isBoundLess : Cond.selects yX0_isBoundLess.cls yX0_isBoundLess yX0_isBoundLess ∈ wsC := wsC_of (List.mem_append_left _ (List.mem_of_getElem? (i := 20) rfl)) rfl
theorem sX0_promisesLess : Cond.selects yX0_promisesLess.cls yX0_promisesLess yX0_promisesLess ∈ wsC := wsC_of (List.mem_append_left _ (List.mem_of_getElem? (i := 21) rfl)) rfl
theorem sX0_writeVertex : Cond.selects yX0_writeVertex.cls yX0_writeVertex yX0_writeVertex ∈ wsC := wsC_of (List.mem_append_left _ (List.mem_of_getElem? (i := 22) rfl)) rfl
theorem sX6_changed : Cond.selects yX6_changed.cls yX6_changed yX6_changed ∈ wsC := wsC_of (List.mem_append_left _ (List.mem_of_getElem? (i := 23) rfl)) rfl
theorem sX6_isVertex : Cond.selects yX6_isVertex.cls yX6_isVertex yX6_isVertex ∈ wsC := wsC_of (List.mem_append_left _ (List.mem_of_getElem? (i := 24) rfl)) rfl
theorem sX6_labelOf : Cond.selects yX6_labelOf.cls yX6_labelOf yX6_labelOf ∈ wsC := wsC_of (List.mem_append_left _ (List.mem_of_getElem? (i := 25) rfl)) rfl
theorem sX6_paint : Cond.selects yX6_paint.cls yX6_paint yX6_paint ∈ wsC := wsC_of (List.mem_append_left _ (List.mem_of_getElem? (i := 26) rfl)) rfl
theorem sX6_isThere : Cond.selects yX6_isThere.cls yX6_isThere yX6_isThere ∈ wsC := wsC_of (List.mem_append_left _ (List.mem_of_getElem? (i := 27) rfl)) rfl
theorem sX6_order : Cond.selects yX6_order.cls yX6_order yX6_order ∈ wsC := wsC_of (List.mem_append_left _ (List.mem_of_getElem? (i := 28) rfl)) rfl
theorem sX6_many : Cond.selects yX6_many.cls yX6_many yX6_many ∈ wsC := wsC_of (List.mem_append_left _ (List.mem_of_getElem? (i := 29) rfl)) rfl
theorem sX6_free : Cond.selects yX6_free.cls yX6_free yX6_free ∈ wsC := wsC_of (List.mem_append_left _ (List.mem_of_getElem? (i := 30) rfl)) rfl
theorem sX6_search : Cond.selects yX6_search.cls yX6_search yX6_search ∈ wsC := wsC_of (List.mem_append_left _ (List.mem_of_getElem? (i := 31) rfl)) rfl
theorem sX6_fits : Cond.selects yX6_fits.cls yX6_fits yX6_fits ∈ wsC := wsC_of (List.mem_append_left _ (List.mem_of_getElem? (i := 32) rfl)) rfl
theorem sX6_keep : Cond.selects yX6_keep.cls yX6_keep yX6_keep ∈ wsC := wsC_of (List.mem_append_left _ (List.mem_of_getElem? (i := 33) rfl)) rfl
theorem sX6_write : Cond.selects yX6_write.cls yX6_write yX6_write ∈ wsC := wsC_of (List.mem_append_left _ (List.mem_of_getElem? (i := 34) rfl)) rfl
theorem sX6_isUnused : Cond.selects yX6_isUnused.cls yX6_isUnused yX6_isUnused ∈ wsC := wsC_of (List.mem_append_left _ (List.mem_of_getElem? (i := 35) rfl)) rfl
theorem sX6_part : Cond.selects yX6_part.cls yX6_part yX6_part ∈ wsC := wsC_of (List.mem_append_left _ (List.mem_of_getElem? (i := 36) rfl)) rfl
theorem sX6_compareRows : Cond.selects yX6_compareRows.cls yX6_compareRows yX6_compareRows ∈ wsC := wsC_of (List.mem_append_left _ (List.mem_of_getElem? (i := 37) rfl)) rfl
theorem sX6_edges : Cond.selects yX6_edges.cls yX6_edges yX6_edges ∈ wsC := wsC_of (List.mem_append_left _ (List.mem_of_getElem? (i := 38) rfl)) rfl
theorem wX0_init : cW yX0_init cX0_init 1 (none) 0 := ⟨nRX0, kX0_init, by decide +kernel, by decide +kernel, by decide +kernel⟩
theorem wX0_find : cW yX0_find cX0_find 3 (none) 1 := ⟨nRX0, kX0_find, by decide +kernel, by decide +kernel, by decide +kernel⟩
theorem wX0_lesserLikes : cW yX0_lesserLikes cX0_lesserLikes 4 (some .int) 2 := ⟨nRX0, kX0_lesserLikes, by decide +kernel, by decide +kernel, by decide +kernel⟩
theorem wX0_write : cW yX0_write cX0_write 7 (none) 3 := ⟨nRX0, kX0_write, by decide +kernel, by decide +kernel, by decide +kernel⟩
theorem wX0_candidates : cW yX0_candidates cX0_candidates 8 (some .int) 3 := ⟨nRX0, kX0_candidates, by decide +kernel, by decide +kernel, by decide +kernel⟩
theorem wX0_bound : cW yX0_bound cX0_bound 11 (none) 4 := ⟨nRX0, kX0_bound, by decide +kernel, by decide +kernel, by decide +kernel⟩
theorem wX0_longerRow : cW yX0_longerRow cX0_longerRow 5 (some .long) 4 := ⟨nRX0, kX0_longerRow, by decide +kernel, by decide +kernel, by decide +kernel⟩
theorem wX0_leastBounded : cW yX0_leastBounded cX0_leastBounded 6 (some .int) 3 := ⟨nRX0, kX0_leastBounded, by decide +kernel, by decide +kernel, by decide +kernel⟩
theorem wX0_promisesLess : cW yX0_promisesLess cX0_promisesLess 4 (some .boolean) 3 := ⟨nRX0, kX0_promisesLess, by decide +kernel, by decide +kernel, by decide +kernel⟩
theorem wX0_isBoundLess : cW yX0_isBoundLess cX0_isBoundLess 6 (some .boolean) 4 := ⟨nRX0, kX0_isBoundLess, by decide +kernel, by decide +kernel, by decide +kernel⟩
theorem wX0_writeVertex : cW yX0_writeVertex cX0_writeVertex 7 (none) 4 := ⟨nRX0, kX0_writeVertex, by decide +kernel, by decide +kernel, by decide +kernel⟩
theorem wX1_init : cW yX1_init cX1_init 1 (none) 0 := ⟨nRX1, kX1_init, by decide +kernel, by decide +kernel, by decide +kernel⟩
theorem wX1_empty : cW yX1_empty cX1_empty 3 (none) 1 := ⟨nRX1, kX1_empty, by decide +kernel, by decide +kernel, by decide +kernel⟩
theorem wX1_become : cW yX1_become cX1_become 3 (none) 1 := ⟨nRX1, kX1_become, by decide +kernel, by decide +kernel, by decide +kernel⟩
theorem wX1_swap : cW yX1_swap cX1_swap 6 (none) 2 := ⟨nRX1, kX1_swap, by decide +kernel, by decide +kernel, by decide +kernel⟩
theorem wX1_edges : cW yX1_edges cX1_edges 4 (some .int) 0 := ⟨nRX1, kX1_edges, by decide +kernel, by decide +kernel, by decide +kernel⟩
theorem wX1_pair : cW yX1_pair cX1_pair 3 (some .int) 2 := ⟨nRX1, kX1_pair, by decide +kernel, by decide +kernel, by decide +kernel⟩
theorem wX1_isAlike : cW yX1_isAlike cX1_isAlike 4 (some .boolean) 2 := ⟨nRX1, kX1_isAlike, by decide +kernel, by decide +kernel, by decide +kernel⟩
theorem wX1_formNumber : cW yX1_formNumber cX1_formNumber 4 (some .int) 1 := ⟨nRX1, kX1_formNumber, by decide +kernel, by decide +kernel, by decide +kernel⟩
theorem wX2_init : cW yX2_init cX2_init 1 (none) 0 := ⟨nRX2, kX2_init, by decide +kernel, by decide +kernel, by decide +kernel⟩
theorem wX2_findFirst : cW yX2_findFirst cX2_findFirst 3 (some .boolean) 2 := ⟨nRX2, kX2_findFirst, by decide +kernel, by decide +kernel, by decide +kernel⟩
theorem wX2_findNext : cW yX2_findNext cX2_findNext 3 (some .boolean) 2 := ⟨nRX2, kX2_findNext, by decide +kernel, by decide +kernel, by decide +kernel⟩
theorem wX2_findSymmetry : cW yX2_findSymmetry cX2_findSymmetry 5 (some .boolean) 3 := ⟨nRX2, kX2_findSymmetry, by decide +kernel, by decide +kernel, by decide +kernel⟩
theorem wX2_place : cW yX2_place cX2_place 8 (some .boolean) 5 := ⟨nRX2, kX2_place, by decide +kernel, by decide +kernel, by decide +kernel⟩
theorem wX2_fits : cW yX2_fits cX2_fits 7 (some .boolean) 4 := ⟨nRX2, kX2_fits, by decide +kernel, by decide +kernel, by decide +kernel⟩
theorem wX3_init : cW yX3_init cX3_init 1 (none) 0 := ⟨nRX3, kX3_init, by decide +kernel, by decide +kernel, by decide +kernel⟩
theorem wX3_paint : cW yX3_paint cX3_paint 5 (none) 1 := ⟨nRX3, kX3_paint, by decide +kernel, by decide +kernel, by decide +kernel⟩
theorem wX3_paintsAlike : cW yX3_paintsAlike cX3_paintsAlike 3 (some .boolean) 1 := ⟨nRX3, kX3_paintsAlike, by decide +kernel, by decide +kernel, by decide +kernel⟩
theorem wX3_paintTints : cW yX3_paintTints cX3_paintTints 4 (none) 2 := ⟨nRX3, kX3_paintTints, by decide +kernel, by decide +kernel, by decide +kernel⟩
theorem wX3_gatherKeys : cW yX3_gatherKeys cX3_gatherKeys 4 (none) 2 := ⟨nRX3, kX3_gatherKeys, by decide +kernel, by decide +kernel, by decide +kernel⟩
theorem wX3_gatherKeysOf : cW yX3_gatherKeysOf cX3_gatherKeysOf 9 (none) 3 := ⟨nRX3, kX3_gatherKeysOf, by decide +kernel, by decide +kernel, by decide +kernel⟩
theorem wX3_renumber : cW yX3_renumber cX3_renumber 5 (none) 2 := ⟨nRX3, kX3_renumber, by decide +kernel, by decide +kernel, by decide +kernel⟩
theorem wX3_sortSpots : cW yX3_sortSpots cX3_sortSpots 6 (none) 2 := ⟨nRX3, kX3_sortSpots, by decide +kernel, by decide +kernel, by decide +kernel⟩
theorem wX3_difference : cW yX3_difference cX3_difference 5 (some .int) 3 := ⟨nRX3, kX3_difference, by decide +kernel, by decide +kernel, by decide +kernel⟩
theorem wX4_init : cW yX4_init cX4_init 1 (none) 0 := ⟨nRX4, kX4_init, by decide +kernel, by decide +kernel, by decide +kernel⟩
theorem wX4_find : cW yX4_find cX4_find 5 (none) 1 := ⟨nRX4, kX4_find, by decide +kernel, by decide +kernel, by decide +kernel⟩
theorem wX4_joinOrbits : cW yX4_joinOrbits cX4_joinOrbits 6 (none) 1 := ⟨nRX4, kX4_joinOrbits, by decide +kernel, by decide +kernel, by decide +kernel⟩
theorem wX4_replace : cW yX4_replace cX4_replace 5 (none) 4 := ⟨nRX4, kX4_replace, by decide +kernel, by decide +kernel, by decide +kernel⟩
theorem wX5_init : cW yX5_init cX5_init 1 (none) 0 := ⟨nRX5, kX5_init, by decide +kernel, by decide +kernel, by decide +kernel⟩
theorem wX5_begin : cW yX5_begin cX5_begin 2 (some .int) 1 := ⟨nRX5, kX5_begin, by decide +kernel, by decide +kernel, by decide +kernel⟩
theorem wX5_label : cW yX5_label cX5_label 7 (some .int) 4 := ⟨nRX5, kX5_label, by decide +kernel, by decide +kernel, by decide +kernel⟩
theorem wX5_tint : cW yX5_tint cX5_tint 6 (some .int) 3 := ⟨nRX5, kX5_tint, by decide +kernel, by decide +kernel, by decide +kernel⟩
theorem wX5_exchange : cW yX5_exchange cX5_exchange 4 (some .int) 3 := ⟨nRX5, kX5_exchange, by decide +kernel, by decide +kernel, by decide +kernel⟩
theorem wX5_copy : cW yX5_copy cX5_copy 2 (some .int) 1 := ⟨nRX5, kX5_copy, by decide +kernel, by decide +kernel, by decide +kernel⟩
theorem wX5_colours : cW yX5_colours cX5_colours 1 (some .int) 0 := ⟨nRX5, kX5_colours, by decide +kernel, by decide +kernel, by decide +kernel⟩
theorem wX5_colour : cW yX5_colour cX5_colour 3 (some .int) 2 := ⟨nRX5, kX5_colour, by decide +kernel, by decide +kernel, by decide +kernel⟩
theorem wX5_twins : cW yX5_twins cX5_twins 1 (some .int) 0 := ⟨nRX5, kX5_twins, by decide +kernel, by decide +kernel, by decide +kernel⟩
theorem wX5_image : cW yX5_image cX5_image 2 (some .int) 1 := ⟨nRX5, kX5_image, by decide +kernel, by decide +kernel, by decide +kernel⟩
theorem wX5_next : cW yX5_next cX5_next 1 (some .int) 0 := ⟨nRX5, kX5_next, by decide +kernel, by decide +kernel, by decide +kernel⟩
theorem wX5_symmetries : cW yX5_symmetries cX5_symmetries 2 (some .int) 1 := ⟨nRX5, kX5_symmetries, by decide +kernel, by decide +kernel, by decide +kernel⟩
theorem wX5_orbit : cW yX5_orbit cX5_orbit 3 (some .int) 2 := ⟨nRX5, kX5_orbit, by decide +kernel, by decide +kernel, by decide +kernel⟩
theorem wX5_form : cW yX5_form cX5_form 3 (some .int) 2 := ⟨nRX5, kX5_form, by decide +kernel, by decide +kernel, by decide +kernel⟩
theorem wX5_compare : cW yX5_compare cX5_compare 2 (some .int) 1 := ⟨nRX5, kX5_compare, by decide +kernel, by decide +kernel, by decide +kernel⟩
theorem wX5_count : cW yX5_count cX5_count 2 (some .int) 1 := ⟨nRX5, kX5_count, by decide +kernel, by decide +kernel, by decide +kernel⟩
theorem wX5_isGraph : cW yX5_isGraph cX5_isGraph 1 (some .boolean) 1 := ⟨nRX5, kX5_isGraph, by decide +kernel, by decide +kernel, by decide +kernel⟩
theorem wX5_isVertex : cW yX5_isVertex cX5_isVertex 3 (some .boolean) 2 := ⟨nRX5, kX5_isVertex, by decide +kernel, by decide +kernel, by decide +kernel⟩
theorem wX5_isMark : cW yX5_isMark cX5_isMark 1 (some .boolean) 1 := ⟨nRX5, kX5_isMark, by decide +kernel, by decide +kernel, by decide +kernel⟩
theorem wX5_formLength : cW yX5_formLength cX5_formLength 1 (some .int) 0 := ⟨nRX5, kX5_formLength, by decide +kernel, by decide +kernel, by decide +kernel⟩
theorem wX5_noteChange : cW yX5_noteChange cX5_noteChange 2 (none) 1 := ⟨nRX5, kX5_noteChange, by decide +kernel, by decide +kernel, by decide +kernel⟩
theorem wX5_paintGraphs : cW yX5_paintGraphs cX5_paintGraphs 1 (none) 0 := ⟨nRX5, kX5_paintGraphs, by decide +kernel, by decide +kernel, by decide +kernel⟩
theorem wX5_withSymmetries : cW yX5_withSymmetries cX5_withSymmetries 3 (some (.object "GraphTwins$Graph")) 1 := ⟨nRX5, kX5_withSymmetries, by decide +kernel, by decide +kernel, by decide +kernel⟩
theorem wX5_withForm : cW yX5_withForm cX5_withForm 3 (some (.object "GraphTwins$Graph")) 1 := ⟨nRX5, kX5_withForm, by decide +kernel, by decide +kernel, by decide +kernel⟩
theorem wX5_compareRows : cW yX5_compareRows cX5_compareRows 4 (some .int) 3 := ⟨nRX5, kX5_compareRows, by decide +kernel, by decide +kernel, by decide +kernel⟩
theorem wX6_init : cW yX6_init cX6_init 1 (none) 0 := ⟨nRX6, kX6_init, by decide +kernel, by decide +kernel, by decide +kernel⟩
theorem wX6_isGraph : cW yX6_isGraph cX6_isGraph 1 (some .boolean) 1 := ⟨nRX6, kX6_isGraph, by decide +kernel, by decide +kernel, by decide +kernel⟩
theorem wX6_isVertex : cW yX6_isVertex cX6_isVertex 2 (some .boolean) 1 := ⟨nRX6, kX6_isVertex, by decide +kernel, by decide +kernel, by decide +kernel⟩
theorem wX6_labelOf : cW yX6_labelOf cX6_labelOf 4 (some .int) 3 := ⟨nRX6, kX6_labelOf, by decide +kernel, by decide +kernel, by decide +kernel⟩
theorem wX6_changed : cW yX6_changed cX6_changed 1 (none) 0 := ⟨nRX6, kX6_changed, by decide +kernel, by decide +kernel, by decide +kernel⟩
theorem wX6_begin : cW yX6_begin cX6_begin 3 (some .int) 1 := ⟨nRX6, kX6_begin, by decide +kernel, by decide +kernel, by decide +kernel⟩
theorem wX6_label : cW yX6_label cX6_label 6 (some .int) 4 := ⟨nRX6, kX6_label, by decide +kernel, by decide +kernel, by decide +kernel⟩
theorem wX6_tint : cW yX6_tint cX6_tint 5 (some .int) 3 := ⟨nRX6, kX6_tint, by decide +kernel, by decide +kernel, by decide +kernel⟩
theorem wX6_other : cW yX6_other cX6_other 3 (some .int) 3 := ⟨nRX6, kX6_other, by decide +kernel, by decide +kernel, by decide +kernel⟩
theorem wX6_exchange : cW yX6_exchange cX6_exchange 6 (some .int) 3 := ⟨nRX6, kX6_exchange, by decide +kernel, by decide +kernel, by decide +kernel⟩
theorem wX6_copy : cW yX6_copy cX6_copy 4 (some .int) 1 := ⟨nRX6, kX6_copy, by decide +kernel, by decide +kernel, by decide +kernel⟩
theorem wX6_many : cW yX6_many cX6_many 7 (some .int) 4 := ⟨nRX6, kX6_many, by decide +kernel, by decide +kernel, by decide +kernel⟩
theorem wX6_order : cW yX6_order cX6_order 7 (some .int) 2 := ⟨nRX6, kX6_order, by decide +kernel, by decide +kernel, by decide +kernel⟩
theorem wX6_isThere : cW yX6_isThere cX6_isThere 2 (some .boolean) 1 := ⟨nRX6, kX6_isThere, by decide +kernel, by decide +kernel, by decide +kernel⟩
theorem wX6_paint : cW yX6_paint cX6_paint 9 (none) 0 := ⟨nRX6, kX6_paint, by decide +kernel, by decide +kernel, by decide +kernel⟩
theorem wX6_colours : cW yX6_colours cX6_colours 1 (some .int) 0 := ⟨nRX6, kX6_colours, by decide +kernel, by decide +kernel, by decide +kernel⟩
theorem wX6_colour : cW yX6_colour cX6_colour 3 (some .int) 2 := ⟨nRX6, kX6_colour, by decide +kernel, by decide +kernel, by decide +kernel⟩
theorem wX6_fits : cW yX6_fits cX6_fits 6 (some .boolean) 4 := ⟨nRX6, kX6_fits, by decide +kernel, by decide +kernel, by decide +kernel⟩
theorem wX6_search : cW yX6_search cX6_search 5 (some .boolean) 3 := ⟨nRX6, kX6_search, by decide +kernel, by decide +kernel, by decide +kernel⟩
theorem wX6_free : cW yX6_free cX6_free 2 (none) 0 := ⟨nRX6, kX6_free, by decide +kernel, by decide +kernel, by decide +kernel⟩
theorem wX6_twins : cW yX6_twins cX6_twins 1 (some .int) 0 := ⟨nRX6, kX6_twins, by decide +kernel, by decide +kernel, by decide +kernel⟩
theorem wX6_keep : cW yX6_keep cX6_keep 2 (none) 0 := ⟨nRX6, kX6_keep, by decide +kernel, by decide +kernel, by decide +kernel⟩
theorem wX6_image : cW yX6_image cX6_image 2 (some .int) 1 := ⟨nRX6, kX6_image, by decide +kernel, by decide +kernel, by decide +kernel⟩
theorem wX6_next : cW yX6_next cX6_next 2 (some .int) 0 := ⟨nRX6, kX6_next, by decide +kernel, by decide +kernel, by decide +kernel⟩
theorem wX6_symmetries : cW yX6_symmetries cX6_symmetries 4 (some .int) 1 := ⟨nRX6, kX6_symmetries, by decide +kernel, by decide +kernel, by decide +kernel⟩
theorem wX6_orbit : cW yX6_orbit cX6_orbit 4 (some .int) 2 := ⟨nRX6, kX6_orbit, by decide +kernel, by decide +kernel, by decide +kernel⟩
theorem wX6_sizeOf : cW yX6_sizeOf cX6_sizeOf 1 (some .int) 1 := ⟨nRX6, kX6_sizeOf, by decide +kernel, by decide +kernel, by decide +kernel⟩
theorem wX6_write : cW yX6_write cX6_write 6 (none) 1 := ⟨nRX6, kX6_write, by decide +kernel, by decide +kernel, by decide +kernel⟩
theorem wX6_isUnused : cW yX6_isUnused cX6_isUnused 3 (some .boolean) 1 := ⟨nRX6, kX6_isUnused, by decide +kernel, by decide +kernel, by decide +kernel⟩
theorem wX6_part : cW yX6_part cX6_part 5 (none) 2 := ⟨nRX6, kX6_part, by decide +kernel, by decide +kernel, by decide +kernel⟩
theorem wX6_compareRows : cW yX6_compareRows cX6_compareRows 4 (some .int) 2 := ⟨nRX6, kX6_compareRows, by decide +kernel, by decide +kernel, by decide +kernel⟩
theorem wX6_form : cW yX6_form cX6_form 3 (some .int) 2 := ⟨nRX6, kX6_form, by decide +kernel, by decide +kernel, by decide +kernel⟩
theorem wX6_compare : cW yX6_compare cX6_compare 5 (some .int) 1 := ⟨nRX6, kX6_compare, by decide +kernel, by decide +kernel, by decide +kernel⟩
theorem wX6_edges : cW yX6_edges cX6_edges 5 (some .int) 1 := ⟨nRX6, kX6_edges, by decide +kernel, by decide +kernel, by decide +kernel⟩
theorem wX6_count : cW yX6_count cX6_count 2 (some .int) 1 := ⟨nRX6, kX6_count, by decide +kernel, by decide +kernel, by decide +kernel⟩
theorem wJ9_max_7cf53 : cW yJ9_max_7cf53 cJ9_max_7cf53 2 (some .int) 2 := ⟨nRJ9, kJ9_max_7cf53, by decide +kernel, by decide +kernel, by decide +kernel⟩
theorem wJ9_min_7cf53 : cW yJ9_min_7cf53 cJ9_min_7cf53 2 (some .int) 2 := ⟨nRJ9, kJ9_min_7cf53, by decide +kernel, by decide +kernel, by decide +kernel⟩
theorem wJ7_fill_d0a16 : cW yJ7_fill_d0a16 cJ7_fill_d0a16 5 (none) 2 := ⟨nRJ7, kJ7_fill_d0a16, by decide +kernel, by decide +kernel, by decide +kernel⟩
theorem wJ7_fill_53178 : cW yJ7_fill_53178 cJ7_fill_53178 4 (none) 2 := ⟨nRJ7, kJ7_fill_53178, by decide +kernel, by decide +kernel, by decide +kernel⟩
theorem u0 : ∀ w ∈ u_ws RX0 TX0 4, w ∈ wsC := by decide +kernel
theorem u1 : ∀ w ∈ u_ws RX1 TX1 9, w ∈ wsC := by decide +kernel
theorem u2 : ∀ w ∈ u_ws RX2 TX2 1, w ∈ wsC := by decide +kernel
theorem u3 : ∀ w ∈ u_ws RX3 TX3 6, w ∈ wsC := by decide +kernel
theorem u4 : ∀ w ∈ u_ws RX4 TX4 1, w ∈ wsC := by decide +kernel
theorem u5 : ∀ w ∈ u_ws RX5 TX5 7, w ∈ wsC := by decide +kernel
theorem u6 : ∀ w ∈ u_ws RX6 TX6 14, w ∈ wsC := by decide +kernel
