/-! ===== words of the tables, each at its place ===== -/
theorem w0 : Cond.selects RX1 yX1_clear yX1_clear ∈ xBW := xBW_of ⟨List.mem_of_getElem? (i := 0) (by decide +kernel), rfl⟩
theorem w1 : Cond.selects RX1 yX1_takes yX1_takes ∈ xBW := xBW_of ⟨List.mem_of_getElem? (i := 1) (by decide +kernel), rfl⟩
theorem w2 : Cond.selects RX1 yX1_goesOn yX1_goesOn ∈ xBW := xBW_of ⟨List.mem_of_getElem? (i := 2) (by decide +kernel), rfl⟩
theorem w3 : Cond.selects RX1 yX1_addsDoor yX1_addsDoor ∈ xBW := xBW_of ⟨List.mem_of_getElem? (i := 3) (by decide +kernel), rfl⟩
theorem w4 : Cond.selects RX1 yX1_addsSight yX1_addsSight ∈ xBW := xBW_of ⟨List.mem_of_getElem? (i := 4) (by decide +kernel), rfl⟩
theorem w5 : Cond.selects RX9 yX9_hasHouse yX9_hasHouse ∈ xBW := xBW_of ⟨List.mem_of_getElem? (i := 5) (by decide +kernel), rfl⟩
theorem w6 : Cond.selects RX9 yX9_personAt yX9_personAt ∈ xBW := xBW_of ⟨List.mem_of_getElem? (i := 6) (by decide +kernel), rfl⟩
theorem w7 : Cond.selects RX3 yX3_add yX3_add ∈ xBW := xBW_of ⟨List.mem_of_getElem? (i := 7) (by decide +kernel), rfl⟩
theorem w8 : Cond.selects RX3 yX3_takes yX3_takes ∈ xBW := xBW_of ⟨List.mem_of_getElem? (i := 8) (by decide +kernel), rfl⟩
theorem w9 : Cond.selects RX5 yX5_isMetBySelf yX5_isMetBySelf ∈ xBW := xBW_of ⟨List.mem_of_getElem? (i := 9) (by decide +kernel), rfl⟩
theorem w10 : Cond.selects RX9 yX9_usersOf yX9_usersOf ∈ xBW := xBW_of ⟨List.mem_of_getElem? (i := 10) (by decide +kernel), rfl⟩
theorem w11 : Cond.selects RX6 yX6_covers yX6_covers ∈ xBW := xBW_of ⟨List.mem_of_getElem? (i := 11) (by decide +kernel), rfl⟩
theorem w12 : Cond.selects RX6 yX6_isMetAt yX6_isMetAt ∈ xBW := xBW_of ⟨List.mem_of_getElem? (i := 12) (by decide +kernel), rfl⟩
theorem w13 : Cond.selects RX6 yX6_enter yX6_enter ∈ xBW := xBW_of ⟨List.mem_of_getElem? (i := 13) (by decide +kernel), rfl⟩
theorem w14 : Cond.selects RX6 yX6_leave yX6_leave ∈ xBW := xBW_of ⟨List.mem_of_getElem? (i := 14) (by decide +kernel), rfl⟩
theorem w15 : Cond.selects RX8 yX8_waysOn yX8_waysOn ∈ xBW := xBW_of ⟨List.mem_of_getElem? (i := 15) (by decide +kernel), rfl⟩
theorem w16 : Cond.selects RX8 yX8_draw yX8_draw ∈ xBW := xBW_of ⟨List.mem_of_getElem? (i := 16) (by decide +kernel), rfl⟩
theorem w17 : Cond.selects RX8 yX8_take yX8_take ∈ xBW := xBW_of ⟨List.mem_of_getElem? (i := 17) (by decide +kernel), rfl⟩
theorem w18 : Cond.selects RX9 yX9_digestOfHouse yX9_digestOfHouse ∈ xBW := xBW_of ⟨List.mem_of_getElem? (i := 18) (by decide +kernel), rfl⟩
theorem w19 : Cond.selects RX9 yX9_digestOfPerson yX9_digestOfPerson ∈ xBW := xBW_of ⟨List.mem_of_getElem? (i := 19) (by decide +kernel), rfl⟩
theorem w20 : Cond.selects RX9 yX9_digestOfPairs yX9_digestOfPairs ∈ xBW := xBW_of ⟨List.mem_of_getElem? (i := 20) (by decide +kernel), rfl⟩
theorem w21 : Cond.selects RX10 yX10_houseFault yX10_houseFault ∈ xBW := xBW_of ⟨List.mem_of_getElem? (i := 21) (by decide +kernel), rfl⟩
theorem w22 : Cond.selects RX10 yX10_goHouse yX10_goHouse ∈ xBW := xBW_of ⟨List.mem_of_getElem? (i := 22) (by decide +kernel), rfl⟩
theorem w23 : Cond.selects RX10 yX10_goDoor yX10_goDoor ∈ xBW := xBW_of ⟨List.mem_of_getElem? (i := 23) (by decide +kernel), rfl⟩
theorem w24 : Cond.selects RX10 yX10_goSight yX10_goSight ∈ xBW := xBW_of ⟨List.mem_of_getElem? (i := 24) (by decide +kernel), rfl⟩
theorem w25 : Cond.selects RX10 yX10_lifeFault yX10_lifeFault ∈ xBW := xBW_of ⟨List.mem_of_getElem? (i := 25) (by decide +kernel), rfl⟩
theorem w26 : Cond.selects RX10 yX10_lacks yX10_lacks ∈ xBW := xBW_of ⟨List.mem_of_getElem? (i := 26) (by decide +kernel), rfl⟩
theorem w27 : Cond.selects RX10 yX10_betweenOf yX10_betweenOf ∈ xBW := xBW_of ⟨List.mem_of_getElem? (i := 27) (by decide +kernel), rfl⟩
theorem w28 : Cond.selects RX10 yX10_isPerson yX10_isPerson ∈ xBW := xBW_of ⟨List.mem_of_getElem? (i := 28) (by decide +kernel), rfl⟩
theorem w29 : Cond.selects RX10 yX10_beginLife yX10_beginLife ∈ xBW := xBW_of ⟨List.mem_of_getElem? (i := 29) (by decide +kernel), rfl⟩
theorem w30 : Cond.selects RX10 yX10_step yX10_step ∈ xBW := xBW_of ⟨List.mem_of_getElem? (i := 30) (by decide +kernel), rfl⟩
theorem w31 : Cond.selects RX10 yX10_backOf yX10_backOf ∈ xBW := xBW_of ⟨List.mem_of_getElem? (i := 31) (by decide +kernel), rfl⟩
theorem w32 : Cond.selects RX10 yX10_tell yX10_tell ∈ xBW := xBW_of ⟨List.mem_of_getElem? (i := 32) (by decide +kernel), rfl⟩
theorem w33 : Cond.selects RX10 yX10_thereOf yX10_thereOf ∈ xBW := xBW_of ⟨List.mem_of_getElem? (i := 33) (by decide +kernel), rfl⟩
theorem w34 : Cond.selects RX10 yX10_metNow yX10_metNow ∈ xBW := xBW_of ⟨List.mem_of_getElem? (i := 34) (by decide +kernel), rfl⟩
theorem w35 : Cond.selects RX10 yX10_metOf yX10_metOf ∈ xBW := xBW_of ⟨List.mem_of_getElem? (i := 35) (by decide +kernel), rfl⟩
theorem w36 : Cond.selects RX10 yX10_mostOf yX10_mostOf ∈ xBW := xBW_of ⟨List.mem_of_getElem? (i := 36) (by decide +kernel), rfl⟩
theorem w37 : Cond.selects RX10 yX10_arePair yX10_arePair ∈ xBW := xBW_of ⟨List.mem_of_getElem? (i := 37) (by decide +kernel), rfl⟩
theorem w38 : Cond.selects RX10 yX10_meetOf yX10_meetOf ∈ xBW := xBW_of ⟨List.mem_of_getElem? (i := 38) (by decide +kernel), rfl⟩
theorem w39 : Cond.selects RX10 yX10_lockedOf yX10_lockedOf ∈ xBW := xBW_of ⟨List.mem_of_getElem? (i := 39) (by decide +kernel), rfl⟩
theorem w40 : Cond.selects RX10 yX10_goesThrough yX10_goesThrough ∈ xBW := xBW_of ⟨List.mem_of_getElem? (i := 40) (by decide +kernel), rfl⟩
theorem w41 : Cond.selects RX10 yX10_doneNow yX10_doneNow ∈ xBW := xBW_of ⟨List.mem_of_getElem? (i := 41) (by decide +kernel), rfl⟩
theorem w42 : Cond.selects RX10 yX10_doneBy yX10_doneBy ∈ xBW := xBW_of ⟨List.mem_of_getElem? (i := 42) (by decide +kernel), rfl⟩
theorem w43 : Cond.selects RX10 yX10_does yX10_does ∈ xBW := xBW_of ⟨List.mem_of_getElem? (i := 43) (by decide +kernel), rfl⟩
theorem w44 : Cond.selects RX10 yX10_whoseOf yX10_whoseOf ∈ xBW := xBW_of ⟨List.mem_of_getElem? (i := 44) (by decide +kernel), rfl⟩
theorem w45 : Cond.selects RX10 yX10_isThere yX10_isThere ∈ xBW := xBW_of ⟨List.mem_of_getElem? (i := 45) (by decide +kernel), rfl⟩
theorem w46 : Cond.selects RX10 yX10_pairOf yX10_pairOf ∈ xBW := xBW_of ⟨List.mem_of_getElem? (i := 46) (by decide +kernel), rfl⟩
theorem w47 : Cond.selects RX10 yX10_mayStep yX10_mayStep ∈ xBW := xBW_of ⟨List.mem_of_getElem? (i := 47) (by decide +kernel), rfl⟩
theorem w48 : Cond.selects RX10 yX10_draw yX10_draw ∈ xBW := xBW_of ⟨List.mem_of_getElem? (i := 48) (by decide +kernel), rfl⟩
theorem w49 : Cond.selects RX10 yX10_countOf yX10_countOf ∈ xBW := xBW_of ⟨List.mem_of_getElem? (i := 49) (by decide +kernel), rfl⟩
theorem w50 : Cond.selects RX10 yX10_say yX10_say ∈ xBW := xBW_of ⟨List.mem_of_getElem? (i := 50) (by decide +kernel), rfl⟩
theorem w51 : Cond.selects RX10 yX10_sayPerson yX10_sayPerson ∈ xBW := xBW_of ⟨List.mem_of_getElem? (i := 51) (by decide +kernel), rfl⟩
theorem w52 : Cond.initialized RL ∈ xBW := xBW_of ⟨List.mem_of_getElem? (i := 52) (by decide +kernel), rfl⟩
theorem w53 : Cond.initialized RX9 ∈ xBW := xBW_of ⟨List.mem_of_getElem? (i := 53) (by decide +kernel), rfl⟩
theorem w54 : Cond.initialized RX4 ∈ xBW := xBW_of ⟨List.mem_of_getElem? (i := 54) (by decide +kernel), rfl⟩
theorem w55 : Cond.initialized RX1 ∈ xBW := xBW_of ⟨List.mem_of_getElem? (i := 55) (by decide +kernel), rfl⟩
theorem w56 : Cond.initialized RX3 ∈ xBW := xBW_of ⟨List.mem_of_getElem? (i := 56) (by decide +kernel), rfl⟩
theorem w57 : Cond.initialized RX7 ∈ xBW := xBW_of ⟨List.mem_of_getElem? (i := 57) (by decide +kernel), rfl⟩
theorem w58 : Cond.initialized RX0 ∈ xBW := xBW_of ⟨List.mem_of_getElem? (i := 58) (by decide +kernel), rfl⟩
theorem w59 : Cond.initialized RX2 ∈ xBW := xBW_of ⟨List.mem_of_getElem? (i := 59) (by decide +kernel), rfl⟩
theorem w60 : Cond.initialized RX5 ∈ xBW := xBW_of ⟨List.mem_of_getElem? (i := 60) (by decide +kernel), rfl⟩
theorem w61 : Cond.initialized RX6 ∈ xBW := xBW_of ⟨List.mem_of_getElem? (i := 61) (by decide +kernel), rfl⟩
theorem w62 : Cond.initialized RX8 ∈ xBW := xBW_of ⟨List.mem_of_getElem? (i := 62) (by decide +kernel), rfl⟩
theorem w63 : Cond.initialized RX10 ∈ xBW := xBW_of ⟨List.mem_of_getElem? (i := 63) (by decide +kernel), rfl⟩
theorem w64 : Cond.classLink RL 7 RX9 ∈ xBW := xBW_of ⟨List.mem_of_getElem? (i := 64) (by decide +kernel), rfl⟩
theorem w65 : Cond.instantiable RX9 13 ∈ xBW := xBW_of ⟨List.mem_of_getElem? (i := 65) (by decide +kernel), rfl⟩
theorem w66 : Cond.methodLink RL 9 yX9_init ∈ xBW := xBW_of ⟨List.mem_of_getElem? (i := 66) (by decide +kernel), rfl⟩
theorem w67 : Cond.instanceMethod yX9_init ∈ xBW := xBW_of ⟨List.mem_of_getElem? (i := 67) (by decide +kernel), rfl⟩
set_option maxRecDepth 100000 in
theorem w68 : Cond.code yX9_init cX9_init 2 none ∈ xBW := xBW_of ⟨List.mem_of_getElem? (i := 68) rfl, rfl⟩
theorem w69 : Cond.methodLink RX9 3 objectInit ∈ xBW := xBW_of ⟨List.mem_of_getElem? (i := 69) (by decide +kernel), rfl⟩
theorem w70 : Cond.instanceMethod objectInit ∈ xBW := xBW_of ⟨List.mem_of_getElem? (i := 70) (by decide +kernel), rfl⟩
set_option maxRecDepth 100000 in
theorem w71 : Cond.code objectInit ⟨#[0xb1]⟩ 1 none ∈ xBW := xBW_of ⟨List.mem_of_getElem? (i := 71) rfl, rfl⟩
theorem w72 : Cond.classLink RX9 9 RX4 ∈ xBW := xBW_of ⟨List.mem_of_getElem? (i := 72) (by decide +kernel), rfl⟩
theorem w73 : Cond.instantiable RX4 2 ∈ xBW := xBW_of ⟨List.mem_of_getElem? (i := 73) (by decide +kernel), rfl⟩
theorem w74 : Cond.methodLinkNest RX9 11 yX4_init "HourAgo" ∈ lw_tbl := List.mem_of_getElem? (i := 74) (by decide +kernel)
theorem w75 : Cond.instanceMethod yX4_init ∈ xBW := xBW_of ⟨List.mem_of_getElem? (i := 75) (by decide +kernel), rfl⟩
set_option maxRecDepth 100000 in
theorem w76 : Cond.code yX4_init cX4_init 1 none ∈ xBW := xBW_of ⟨List.mem_of_getElem? (i := 76) rfl, rfl⟩
theorem w77 : Cond.methodLink RX4 3 objectInit ∈ xBW := xBW_of ⟨List.mem_of_getElem? (i := 77) (by decide +kernel), rfl⟩
theorem w78 : Cond.fieldLink RX4 9 "HourAgo$Page" "codes" "[I" ∈ xBW := xBW_of ⟨List.mem_of_getElem? (i := 78) (by decide +kernel), rfl⟩
theorem w79 : Cond.fieldLink RX4 21 "HourAgo$Page" "length" "I" ∈ xBW := xBW_of ⟨List.mem_of_getElem? (i := 79) (by decide +kernel), rfl⟩
theorem w85 : Cond.arrayClass .int ∈ xBW := xBW_of ⟨List.mem_of_getElem? (i := 85) (by decide +kernel), rfl⟩
theorem w86 : Cond.classLink RX9 16 RX1 ∈ xBW := xBW_of ⟨List.mem_of_getElem? (i := 86) (by decide +kernel), rfl⟩
theorem w87 : Cond.instantiable RX1 8 ∈ xBW := xBW_of ⟨List.mem_of_getElem? (i := 87) (by decide +kernel), rfl⟩
theorem w88 : Cond.methodLinkNest RX9 18 yX1_init "HourAgo" ∈ lw_tbl := List.mem_of_getElem? (i := 88) (by decide +kernel)
theorem w89 : Cond.instanceMethod yX1_init ∈ xBW := xBW_of ⟨List.mem_of_getElem? (i := 89) (by decide +kernel), rfl⟩
set_option maxRecDepth 100000 in
theorem w90 : Cond.code yX1_init cX1_init 1 none ∈ xBW := xBW_of ⟨List.mem_of_getElem? (i := 90) rfl, rfl⟩
theorem w91 : Cond.methodLink RX1 3 objectInit ∈ xBW := xBW_of ⟨List.mem_of_getElem? (i := 91) (by decide +kernel), rfl⟩
theorem w92 : Cond.fieldLink RX1 9 "HourAgo$House" "doorNumbers" "[I" ∈ xBW := xBW_of ⟨List.mem_of_getElem? (i := 92) (by decide +kernel), rfl⟩
theorem w93 : Cond.fieldLink RX1 15 "HourAgo$House" "seenRooms" "[I" ∈ xBW := xBW_of ⟨List.mem_of_getElem? (i := 93) (by decide +kernel), rfl⟩
theorem w94 : Cond.fieldLink RX1 42 "HourAgo$House" "doors" "I" ∈ xBW := xBW_of ⟨List.mem_of_getElem? (i := 94) (by decide +kernel), rfl⟩
theorem w95 : Cond.fieldLink RX1 45 "HourAgo$House" "sights" "I" ∈ xBW := xBW_of ⟨List.mem_of_getElem? (i := 95) (by decide +kernel), rfl⟩
theorem w96 : Cond.fieldLink RX1 18 "HourAgo$House" "lowRoom" "I" ∈ xBW := xBW_of ⟨List.mem_of_getElem? (i := 96) (by decide +kernel), rfl⟩
theorem w97 : Cond.fieldLink RX1 48 "HourAgo$House" "back" "I" ∈ xBW := xBW_of ⟨List.mem_of_getElem? (i := 97) (by decide +kernel), rfl⟩
theorem w98 : Cond.fieldLink RX1 39 "HourAgo$House" "stage" "I" ∈ xBW := xBW_of ⟨List.mem_of_getElem? (i := 98) (by decide +kernel), rfl⟩
theorem w99 : Cond.fieldLink RX1 54 "HourAgo$House" "firstRoom" "I" ∈ xBW := xBW_of ⟨List.mem_of_getElem? (i := 99) (by decide +kernel), rfl⟩
theorem w117 : Cond.classLink RX9 26 RX3 ∈ xBW := xBW_of ⟨List.mem_of_getElem? (i := 117) (by decide +kernel), rfl⟩
theorem w118 : Cond.instantiable RX3 4 ∈ xBW := xBW_of ⟨List.mem_of_getElem? (i := 118) (by decide +kernel), rfl⟩
theorem w119 : Cond.methodLinkNest RX9 28 yX3_init "HourAgo" ∈ lw_tbl := List.mem_of_getElem? (i := 119) (by decide +kernel)
theorem w120 : Cond.instanceMethod yX3_init ∈ xBW := xBW_of ⟨List.mem_of_getElem? (i := 120) (by decide +kernel), rfl⟩
set_option maxRecDepth 100000 in
theorem w121 : Cond.code yX3_init cX3_init 1 none ∈ xBW := xBW_of ⟨List.mem_of_getElem? (i := 121) rfl, rfl⟩
theorem w122 : Cond.methodLink RX3 3 objectInit ∈ xBW := xBW_of ⟨List.mem_of_getElem? (i := 122) (by decide +kernel), rfl⟩
theorem w123 : Cond.fieldLink RX3 11 "HourAgo$Life" "spots" "[I" ∈ xBW := xBW_of ⟨List.mem_of_getElem? (i := 123) (by decide +kernel), rfl⟩
theorem w124 : Cond.fieldLink RX3 79 "HourAgo$Life" "selves" "I" ∈ xBW := xBW_of ⟨List.mem_of_getElem? (i := 124) (by decide +kernel), rfl⟩
theorem w125 : Cond.fieldLink RX3 66 "HourAgo$Life" "throughs" "I" ∈ xBW := xBW_of ⟨List.mem_of_getElem? (i := 125) (by decide +kernel), rfl⟩
theorem w126 : Cond.fieldLink RX3 70 "HourAgo$Life" "doorBits" "I" ∈ xBW := xBW_of ⟨List.mem_of_getElem? (i := 126) (by decide +kernel), rfl⟩
theorem w136 : Cond.classLink RX9 33 RX5 ∈ xBW := xBW_of ⟨List.mem_of_getElem? (i := 136) (by decide +kernel), rfl⟩
theorem w138 : Cond.classLink RX9 39 RX7 ∈ xBW := xBW_of ⟨List.mem_of_getElem? (i := 138) (by decide +kernel), rfl⟩
theorem w139 : Cond.instantiable RX7 4 ∈ xBW := xBW_of ⟨List.mem_of_getElem? (i := 139) (by decide +kernel), rfl⟩
theorem w140 : Cond.methodLinkNest RX9 41 yX7_init "HourAgo" ∈ lw_tbl := List.mem_of_getElem? (i := 140) (by decide +kernel)
theorem w141 : Cond.instanceMethod yX7_init ∈ xBW := xBW_of ⟨List.mem_of_getElem? (i := 141) (by decide +kernel), rfl⟩
set_option maxRecDepth 100000 in
theorem w142 : Cond.code yX7_init cX7_init 1 none ∈ xBW := xBW_of ⟨List.mem_of_getElem? (i := 142) rfl, rfl⟩
theorem w143 : Cond.methodLink RX7 3 objectInit ∈ xBW := xBW_of ⟨List.mem_of_getElem? (i := 143) (by decide +kernel), rfl⟩
theorem w144 : Cond.fieldLink RX7 9 "HourAgo$Tasks" "rooms" "[I" ∈ xBW := xBW_of ⟨List.mem_of_getElem? (i := 144) (by decide +kernel), rfl⟩
theorem w145 : Cond.fieldLink RX7 15 "HourAgo$Tasks" "froms" "[I" ∈ xBW := xBW_of ⟨List.mem_of_getElem? (i := 145) (by decide +kernel), rfl⟩
theorem w146 : Cond.fieldLink RX7 18 "HourAgo$Tasks" "tos" "[I" ∈ xBW := xBW_of ⟨List.mem_of_getElem? (i := 146) (by decide +kernel), rfl⟩
theorem w147 : Cond.fieldLink RX7 21 "HourAgo$Tasks" "size" "I" ∈ xBW := xBW_of ⟨List.mem_of_getElem? (i := 147) (by decide +kernel), rfl⟩
theorem w157 : Cond.classLink RX9 46 RX0 ∈ xBW := xBW_of ⟨List.mem_of_getElem? (i := 157) (by decide +kernel), rfl⟩
theorem w158 : Cond.instantiable RX0 2 ∈ xBW := xBW_of ⟨List.mem_of_getElem? (i := 158) (by decide +kernel), rfl⟩
theorem w159 : Cond.methodLinkNest RX9 48 yX0_init "HourAgo" ∈ lw_tbl := List.mem_of_getElem? (i := 159) (by decide +kernel)
theorem w160 : Cond.instanceMethod yX0_init ∈ xBW := xBW_of ⟨List.mem_of_getElem? (i := 160) (by decide +kernel), rfl⟩
set_option maxRecDepth 100000 in
theorem w161 : Cond.code yX0_init cX0_init 1 none ∈ xBW := xBW_of ⟨List.mem_of_getElem? (i := 161) rfl, rfl⟩
theorem w162 : Cond.methodLink RX0 3 objectInit ∈ xBW := xBW_of ⟨List.mem_of_getElem? (i := 162) (by decide +kernel), rfl⟩
theorem w163 : Cond.fieldLink RX0 9 "HourAgo$Glimpses" "spots" "[I" ∈ xBW := xBW_of ⟨List.mem_of_getElem? (i := 163) (by decide +kernel), rfl⟩
theorem w164 : Cond.fieldLink RX0 15 "HourAgo$Glimpses" "size" "I" ∈ xBW := xBW_of ⟨List.mem_of_getElem? (i := 164) (by decide +kernel), rfl⟩
theorem w170 : Cond.classLink RX9 53 RX2 ∈ xBW := xBW_of ⟨List.mem_of_getElem? (i := 170) (by decide +kernel), rfl⟩
theorem w171 : Cond.instantiable RX2 5 ∈ xBW := xBW_of ⟨List.mem_of_getElem? (i := 171) (by decide +kernel), rfl⟩
theorem w172 : Cond.methodLink RX9 55 yX2_init ∈ xBW := xBW_of ⟨List.mem_of_getElem? (i := 172) (by decide +kernel), rfl⟩
theorem w173 : Cond.instanceMethod yX2_init ∈ xBW := xBW_of ⟨List.mem_of_getElem? (i := 173) (by decide +kernel), rfl⟩
set_option maxRecDepth 100000 in
theorem w174 : Cond.code yX2_init cX2_init 2 none ∈ xBW := xBW_of ⟨List.mem_of_getElem? (i := 174) rfl, rfl⟩
theorem w175 : Cond.methodLink RX2 3 objectInit ∈ xBW := xBW_of ⟨List.mem_of_getElem? (i := 175) (by decide +kernel), rfl⟩
theorem w176 : Cond.classLink RX2 9 RX5 ∈ xBW := xBW_of ⟨List.mem_of_getElem? (i := 176) (by decide +kernel), rfl⟩
theorem w177 : Cond.classLink RX2 17 RX7 ∈ xBW := xBW_of ⟨List.mem_of_getElem? (i := 177) (by decide +kernel), rfl⟩
theorem w178 : Cond.methodLinkNest RX2 19 yX7_init "HourAgo" ∈ lw_tbl := List.mem_of_getElem? (i := 178) (by decide +kernel)
theorem w179 : Cond.classLink RX2 24 RX0 ∈ xBW := xBW_of ⟨List.mem_of_getElem? (i := 179) (by decide +kernel), rfl⟩
theorem w180 : Cond.methodLinkNest RX2 26 yX0_init "HourAgo" ∈ lw_tbl := List.mem_of_getElem? (i := 180) (by decide +kernel)
theorem w181 : Cond.instantiable RX5 2 ∈ xBW := xBW_of ⟨List.mem_of_getElem? (i := 181) (by decide +kernel), rfl⟩
theorem w182 : Cond.methodLinkNest RX2 31 yX5_init "HourAgo" ∈ lw_tbl := List.mem_of_getElem? (i := 182) (by decide +kernel)
theorem w183 : Cond.instanceMethod yX5_init ∈ xBW := xBW_of ⟨List.mem_of_getElem? (i := 183) (by decide +kernel), rfl⟩
set_option maxRecDepth 100000 in
theorem w184 : Cond.code yX5_init cX5_init 1 none ∈ xBW := xBW_of ⟨List.mem_of_getElem? (i := 184) rfl, rfl⟩
theorem w185 : Cond.methodLink RX5 3 objectInit ∈ xBW := xBW_of ⟨List.mem_of_getElem? (i := 185) (by decide +kernel), rfl⟩
theorem w186 : Cond.classLink RX5 9 RX3 ∈ xBW := xBW_of ⟨List.mem_of_getElem? (i := 186) (by decide +kernel), rfl⟩
theorem w187 : Cond.methodLinkNest RX5 11 yX3_init "HourAgo" ∈ lw_tbl := List.mem_of_getElem? (i := 187) (by decide +kernel)
theorem w188 : Cond.fieldLink RX5 12 "HourAgo$Person" "life" "LHourAgo$Life;" ∈ xBW := xBW_of ⟨List.mem_of_getElem? (i := 188) (by decide +kernel), rfl⟩
theorem w189 : Cond.fieldLink RX5 18 "HourAgo$Person" "kind" "I" ∈ xBW := xBW_of ⟨List.mem_of_getElem? (i := 189) (by decide +kernel), rfl⟩
theorem w195 : Cond.fieldLink RX2 11 "HourAgo$Image" "people" "[LHourAgo$Person;" ∈ xBW := xBW_of ⟨List.mem_of_getElem? (i := 195) (by decide +kernel), rfl⟩
theorem w196 : Cond.fieldLink RX2 20 "HourAgo$Image" "tasks" "LHourAgo$Tasks;" ∈ xBW := xBW_of ⟨List.mem_of_getElem? (i := 196) (by decide +kernel), rfl⟩
theorem w197 : Cond.fieldLink RX2 27 "HourAgo$Image" "glimpses" "LHourAgo$Glimpses;" ∈ xBW := xBW_of ⟨List.mem_of_getElem? (i := 197) (by decide +kernel), rfl⟩
theorem w198 : Cond.fieldLink RX2 32 "HourAgo$Image" "kept" "Z" ∈ xBW := xBW_of ⟨List.mem_of_getElem? (i := 198) (by decide +kernel), rfl⟩
theorem w199 : Cond.fieldLink RX2 36 "HourAgo$Image" "peopleCount" "I" ∈ xBW := xBW_of ⟨List.mem_of_getElem? (i := 199) (by decide +kernel), rfl⟩
theorem w211 : Cond.classLink RX9 60 RX6 ∈ xBW := xBW_of ⟨List.mem_of_getElem? (i := 211) (by decide +kernel), rfl⟩
theorem w212 : Cond.instantiable RX6 7 ∈ xBW := xBW_of ⟨List.mem_of_getElem? (i := 212) (by decide +kernel), rfl⟩
theorem w213 : Cond.methodLinkNest RX9 62 yX6_init "HourAgo" ∈ lw_tbl := List.mem_of_getElem? (i := 213) (by decide +kernel)
theorem w214 : Cond.instanceMethod yX6_init ∈ xBW := xBW_of ⟨List.mem_of_getElem? (i := 214) (by decide +kernel), rfl⟩
set_option maxRecDepth 100000 in
theorem w215 : Cond.code yX6_init cX6_init 1 none ∈ xBW := xBW_of ⟨List.mem_of_getElem? (i := 215) rfl, rfl⟩
theorem w216 : Cond.methodLink RX6 3 objectInit ∈ xBW := xBW_of ⟨List.mem_of_getElem? (i := 216) (by decide +kernel), rfl⟩
theorem w217 : Cond.fieldLink RX6 11 "HourAgo$Search" "reach" "[I" ∈ xBW := xBW_of ⟨List.mem_of_getElem? (i := 217) (by decide +kernel), rfl⟩
theorem w218 : Cond.fieldLink RX6 15 "HourAgo$Search" "roomsTaken" "[I" ∈ xBW := xBW_of ⟨List.mem_of_getElem? (i := 218) (by decide +kernel), rfl⟩
theorem w219 : Cond.fieldLink RX6 18 "HourAgo$Search" "kind" "I" ∈ xBW := xBW_of ⟨List.mem_of_getElem? (i := 219) (by decide +kernel), rfl⟩
theorem w220 : Cond.fieldLink RX6 22 "HourAgo$Search" "leap" "I" ∈ xBW := xBW_of ⟨List.mem_of_getElem? (i := 220) (by decide +kernel), rfl⟩
theorem w221 : Cond.fieldLink RX6 25 "HourAgo$Search" "set" "I" ∈ xBW := xBW_of ⟨List.mem_of_getElem? (i := 221) (by decide +kernel), rfl⟩
theorem w222 : Cond.fieldLink RX6 28 "HourAgo$Search" "steps" "I" ∈ xBW := xBW_of ⟨List.mem_of_getElem? (i := 222) (by decide +kernel), rfl⟩
theorem w223 : Cond.fieldLink RX6 31 "HourAgo$Search" "firstStep" "I" ∈ xBW := xBW_of ⟨List.mem_of_getElem? (i := 223) (by decide +kernel), rfl⟩
theorem w239 : Cond.classLink RX9 67 RX8 ∈ xBW := xBW_of ⟨List.mem_of_getElem? (i := 239) (by decide +kernel), rfl⟩
theorem w240 : Cond.instantiable RX8 3 ∈ xBW := xBW_of ⟨List.mem_of_getElem? (i := 240) (by decide +kernel), rfl⟩
theorem w241 : Cond.methodLinkNest RX9 69 yX8_init "HourAgo" ∈ lw_tbl := List.mem_of_getElem? (i := 241) (by decide +kernel)
theorem w242 : Cond.instanceMethod yX8_init ∈ xBW := xBW_of ⟨List.mem_of_getElem? (i := 242) (by decide +kernel), rfl⟩
set_option maxRecDepth 100000 in
theorem w243 : Cond.code yX8_init cX8_init 1 none ∈ xBW := xBW_of ⟨List.mem_of_getElem? (i := 243) rfl, rfl⟩
theorem w244 : Cond.methodLink RX8 3 objectInit ∈ xBW := xBW_of ⟨List.mem_of_getElem? (i := 244) (by decide +kernel), rfl⟩
theorem w245 : Cond.fieldLink RX8 9 "HourAgo$Walk" "spot" "I" ∈ xBW := xBW_of ⟨List.mem_of_getElem? (i := 245) (by decide +kernel), rfl⟩
theorem w246 : Cond.fieldLink RX8 15 "HourAgo$Walk" "throughs" "I" ∈ xBW := xBW_of ⟨List.mem_of_getElem? (i := 246) (by decide +kernel), rfl⟩
theorem w247 : Cond.fieldLink RX8 18 "HourAgo$Walk" "seed" "I" ∈ xBW := xBW_of ⟨List.mem_of_getElem? (i := 247) (by decide +kernel), rfl⟩
theorem w255 : Cond.methodLinkNest RX9 74 yX5_init "HourAgo" ∈ lw_tbl := List.mem_of_getElem? (i := 255) (by decide +kernel)
theorem w256 : Cond.fieldLink RX9 12 "HourAgo" "page" "LHourAgo$Page;" ∈ xBW := xBW_of ⟨List.mem_of_getElem? (i := 256) (by decide +kernel), rfl⟩
theorem w257 : Cond.fieldLink RX9 19 "HourAgo" "house" "LHourAgo$House;" ∈ xBW := xBW_of ⟨List.mem_of_getElem? (i := 257) (by decide +kernel), rfl⟩
theorem w258 : Cond.fieldLink RX9 23 "HourAgo" "draftHouse" "LHourAgo$House;" ∈ xBW := xBW_of ⟨List.mem_of_getElem? (i := 258) (by decide +kernel), rfl⟩
theorem w259 : Cond.fieldLink RX9 29 "HourAgo" "draftLife" "LHourAgo$Life;" ∈ xBW := xBW_of ⟨List.mem_of_getElem? (i := 259) (by decide +kernel), rfl⟩
theorem w260 : Cond.fieldLink RX9 35 "HourAgo" "people" "[LHourAgo$Person;" ∈ xBW := xBW_of ⟨List.mem_of_getElem? (i := 260) (by decide +kernel), rfl⟩
theorem w261 : Cond.fieldLink RX9 42 "HourAgo" "tasks" "LHourAgo$Tasks;" ∈ xBW := xBW_of ⟨List.mem_of_getElem? (i := 261) (by decide +kernel), rfl⟩
theorem w262 : Cond.fieldLink RX9 49 "HourAgo" "glimpses" "LHourAgo$Glimpses;" ∈ xBW := xBW_of ⟨List.mem_of_getElem? (i := 262) (by decide +kernel), rfl⟩
theorem w263 : Cond.fieldLink RX9 56 "HourAgo" "image" "LHourAgo$Image;" ∈ xBW := xBW_of ⟨List.mem_of_getElem? (i := 263) (by decide +kernel), rfl⟩
theorem w264 : Cond.fieldLink RX9 63 "HourAgo" "search" "LHourAgo$Search;" ∈ xBW := xBW_of ⟨List.mem_of_getElem? (i := 264) (by decide +kernel), rfl⟩
theorem w265 : Cond.fieldLink RX9 70 "HourAgo" "walk" "LHourAgo$Walk;" ∈ xBW := xBW_of ⟨List.mem_of_getElem? (i := 265) (by decide +kernel), rfl⟩
theorem w266 : Cond.fieldLink RX9 105 "HourAgo" "peopleCount" "I" ∈ xBW := xBW_of ⟨List.mem_of_getElem? (i := 266) (by decide +kernel), rfl⟩
theorem w267 : Cond.fieldLink RX9 101 "HourAgo" "housesRead" "I" ∈ xBW := xBW_of ⟨List.mem_of_getElem? (i := 267) (by decide +kernel), rfl⟩
theorem w268 : Cond.fieldLink RX9 217 "HourAgo" "searchesDone" "I" ∈ xBW := xBW_of ⟨List.mem_of_getElem? (i := 268) (by decide +kernel), rfl⟩
theorem w296 : Cond.methodLink RL 15 yX9_letters ∈ xBW := xBW_of ⟨List.mem_of_getElem? (i := 296) (by decide +kernel), rfl⟩
theorem w297 : Cond.instanceMethod yX9_letters ∈ xBW := xBW_of ⟨List.mem_of_getElem? (i := 297) (by decide +kernel), rfl⟩
theorem w298 : Cond.selects RX9 yX9_letters yX9_letters ∈ xBW := xBW_of ⟨List.mem_of_getElem? (i := 298) (by decide +kernel), rfl⟩
set_option maxRecDepth 100000 in
theorem w299 : Cond.code yX9_letters cX9_letters 4 (some .int) ∈ xBW := xBW_of ⟨List.mem_of_getElem? (i := 299) rfl, rfl⟩
theorem w300 : Cond.methodLink RX9 75 yX4_lettersIn ∈ xBW := xBW_of ⟨List.mem_of_getElem? (i := 300) (by decide +kernel), rfl⟩
theorem w301 : Cond.static yX4_lettersIn ∈ xBW := xBW_of ⟨List.mem_of_getElem? (i := 301) (by decide +kernel), rfl⟩
set_option maxRecDepth 100000 in
theorem w302 : Cond.code yX4_lettersIn cX4_lettersIn 6 (some .int) ∈ xBW := xBW_of ⟨List.mem_of_getElem? (i := 302) rfl, rfl⟩
theorem w303 : Cond.methodLink RX4 15 yX4_byteOf ∈ xBW := xBW_of ⟨List.mem_of_getElem? (i := 303) (by decide +kernel), rfl⟩
theorem w304 : Cond.static yX4_byteOf ∈ xBW := xBW_of ⟨List.mem_of_getElem? (i := 304) (by decide +kernel), rfl⟩
set_option maxRecDepth 100000 in
theorem w305 : Cond.code yX4_byteOf cX4_byteOf 3 (some .int) ∈ xBW := xBW_of ⟨List.mem_of_getElem? (i := 305) rfl, rfl⟩
theorem w306 : Cond.constantLong RX4 19 (255) ∈ xBW := xBW_of ⟨List.mem_of_getElem? (i := 306) (by decide +kernel), rfl⟩
theorem w307 : Cond.methodLink RX9 79 yX4_length ∈ xBW := xBW_of ⟨List.mem_of_getElem? (i := 307) (by decide +kernel), rfl⟩
theorem w308 : Cond.instanceMethod yX4_length ∈ xBW := xBW_of ⟨List.mem_of_getElem? (i := 308) (by decide +kernel), rfl⟩
theorem w309 : Cond.selects RX4 yX4_length yX4_length ∈ xBW := xBW_of ⟨List.mem_of_getElem? (i := 309) (by decide +kernel), rfl⟩
set_option maxRecDepth 100000 in
theorem w310 : Cond.code yX4_length cX4_length 1 (some .int) ∈ xBW := xBW_of ⟨List.mem_of_getElem? (i := 310) rfl, rfl⟩
theorem w311 : Cond.methodLink RX9 83 yX4_addAll ∈ xBW := xBW_of ⟨List.mem_of_getElem? (i := 311) (by decide +kernel), rfl⟩
theorem w312 : Cond.instanceMethod yX4_addAll ∈ xBW := xBW_of ⟨List.mem_of_getElem? (i := 312) (by decide +kernel), rfl⟩
theorem w313 : Cond.selects RX4 yX4_addAll yX4_addAll ∈ xBW := xBW_of ⟨List.mem_of_getElem? (i := 313) (by decide +kernel), rfl⟩
set_option maxRecDepth 100000 in
theorem w314 : Cond.code yX4_addAll cX4_addAll 5 none ∈ xBW := xBW_of ⟨List.mem_of_getElem? (i := 314) rfl, rfl⟩
theorem w315 : Cond.methodLink RL 20 yX9_blank ∈ xBW := xBW_of ⟨List.mem_of_getElem? (i := 315) (by decide +kernel), rfl⟩
theorem w316 : Cond.instanceMethod yX9_blank ∈ xBW := xBW_of ⟨List.mem_of_getElem? (i := 316) (by decide +kernel), rfl⟩
theorem w317 : Cond.selects RX9 yX9_blank yX9_blank ∈ xBW := xBW_of ⟨List.mem_of_getElem? (i := 317) (by decide +kernel), rfl⟩
set_option maxRecDepth 100000 in
theorem w318 : Cond.code yX9_blank cX9_blank 2 (some .int) ∈ xBW := xBW_of ⟨List.mem_of_getElem? (i := 318) rfl, rfl⟩
theorem w319 : Cond.methodLink RX9 87 yX4_clear ∈ xBW := xBW_of ⟨List.mem_of_getElem? (i := 319) (by decide +kernel), rfl⟩
theorem w320 : Cond.instanceMethod yX4_clear ∈ xBW := xBW_of ⟨List.mem_of_getElem? (i := 320) (by decide +kernel), rfl⟩
theorem w321 : Cond.selects RX4 yX4_clear yX4_clear ∈ xBW := xBW_of ⟨List.mem_of_getElem? (i := 321) (by decide +kernel), rfl⟩
set_option maxRecDepth 100000 in
theorem w322 : Cond.code yX4_clear cX4_clear 1 none ∈ xBW := xBW_of ⟨List.mem_of_getElem? (i := 322) rfl, rfl⟩
theorem w323 : Cond.methodLink RL 25 yX9_fault ∈ xBW := xBW_of ⟨List.mem_of_getElem? (i := 323) (by decide +kernel), rfl⟩
theorem w324 : Cond.instanceMethod yX9_fault ∈ xBW := xBW_of ⟨List.mem_of_getElem? (i := 324) (by decide +kernel), rfl⟩
theorem w325 : Cond.selects RX9 yX9_fault yX9_fault ∈ xBW := xBW_of ⟨List.mem_of_getElem? (i := 325) (by decide +kernel), rfl⟩
set_option maxRecDepth 100000 in
theorem w326 : Cond.code yX9_fault cX9_fault 2 (some .int) ∈ xBW := xBW_of ⟨List.mem_of_getElem? (i := 326) rfl, rfl⟩
theorem w327 : Cond.methodLink RX9 90 yX1_read ∈ xBW := xBW_of ⟨List.mem_of_getElem? (i := 327) (by decide +kernel), rfl⟩
theorem w328 : Cond.instanceMethod yX1_read ∈ xBW := xBW_of ⟨List.mem_of_getElem? (i := 328) (by decide +kernel), rfl⟩
theorem w329 : Cond.selects RX1 yX1_read yX1_read ∈ xBW := xBW_of ⟨List.mem_of_getElem? (i := 329) (by decide +kernel), rfl⟩
set_option maxRecDepth 100000 in
theorem w330 : Cond.code yX1_read cX1_read 3 (some .int) ∈ xBW := xBW_of ⟨List.mem_of_getElem? (i := 330) rfl, rfl⟩
theorem w331 : Cond.methodLink RX1 22 yX1_clear ∈ xBW := xBW_of ⟨List.mem_of_getElem? (i := 331) (by decide +kernel), rfl⟩
theorem w333 : Cond.instanceMethod yX1_clear ∈ xBW := xBW_of ⟨List.mem_of_getElem? (i := 333) (by decide +kernel), rfl⟩
set_option maxRecDepth 100000 in
theorem w334 : Cond.code yX1_clear cX1_clear 2 none ∈ xBW := xBW_of ⟨List.mem_of_getElem? (i := 334) rfl, rfl⟩
theorem w335 : Cond.methodLink RX1 25 yX4_length ∈ xBW := xBW_of ⟨List.mem_of_getElem? (i := 335) (by decide +kernel), rfl⟩
theorem w336 : Cond.methodLink RX1 31 yX4_at ∈ xBW := xBW_of ⟨List.mem_of_getElem? (i := 336) (by decide +kernel), rfl⟩
theorem w337 : Cond.instanceMethod yX4_at ∈ xBW := xBW_of ⟨List.mem_of_getElem? (i := 337) (by decide +kernel), rfl⟩
theorem w338 : Cond.selects RX4 yX4_at yX4_at ∈ xBW := xBW_of ⟨List.mem_of_getElem? (i := 338) (by decide +kernel), rfl⟩
set_option maxRecDepth 100000 in
theorem w339 : Cond.code yX4_at cX4_at 2 (some .int) ∈ xBW := xBW_of ⟨List.mem_of_getElem? (i := 339) rfl, rfl⟩
theorem w340 : Cond.methodLink RX1 35 yX1_takes ∈ xBW := xBW_of ⟨List.mem_of_getElem? (i := 340) (by decide +kernel), rfl⟩
theorem w342 : Cond.instanceMethod yX1_takes ∈ xBW := xBW_of ⟨List.mem_of_getElem? (i := 342) (by decide +kernel), rfl⟩
set_option maxRecDepth 100000 in
theorem w343 : Cond.code yX1_takes cX1_takes 2 (some .boolean) ∈ xBW := xBW_of ⟨List.mem_of_getElem? (i := 343) rfl, rfl⟩
theorem w344 : Cond.methodLinkNest RX1 51 yX9_roomDigitOf "HourAgo" ∈ lw_tbl := List.mem_of_getElem? (i := 344) (by decide +kernel)
theorem w345 : Cond.static yX9_roomDigitOf ∈ xBW := xBW_of ⟨List.mem_of_getElem? (i := 345) (by decide +kernel), rfl⟩
set_option maxRecDepth 100000 in
theorem w346 : Cond.code yX9_roomDigitOf cX9_roomDigitOf 1 (some .int) ∈ xBW := xBW_of ⟨List.mem_of_getElem? (i := 346) rfl, rfl⟩
theorem w347 : Cond.methodLink RX9 334 yX9_digitOf ∈ xBW := xBW_of ⟨List.mem_of_getElem? (i := 347) (by decide +kernel), rfl⟩
theorem w348 : Cond.static yX9_digitOf ∈ xBW := xBW_of ⟨List.mem_of_getElem? (i := 348) (by decide +kernel), rfl⟩
set_option maxRecDepth 100000 in
theorem w349 : Cond.code yX9_digitOf cX9_digitOf 4 (some .int) ∈ xBW := xBW_of ⟨List.mem_of_getElem? (i := 349) rfl, rfl⟩
theorem w350 : Cond.methodLink RX1 57 yX1_goesOn ∈ xBW := xBW_of ⟨List.mem_of_getElem? (i := 350) (by decide +kernel), rfl⟩
theorem w352 : Cond.instanceMethod yX1_goesOn ∈ xBW := xBW_of ⟨List.mem_of_getElem? (i := 352) (by decide +kernel), rfl⟩
set_option maxRecDepth 100000 in
theorem w353 : Cond.code yX1_goesOn cX1_goesOn 3 (some .boolean) ∈ xBW := xBW_of ⟨List.mem_of_getElem? (i := 353) rfl, rfl⟩
theorem w354 : Cond.methodLink RX1 61 yX1_addsDoor ∈ xBW := xBW_of ⟨List.mem_of_getElem? (i := 354) (by decide +kernel), rfl⟩
theorem w356 : Cond.instanceMethod yX1_addsDoor ∈ xBW := xBW_of ⟨List.mem_of_getElem? (i := 356) (by decide +kernel), rfl⟩
set_option maxRecDepth 100000 in
theorem w357 : Cond.code yX1_addsDoor cX1_addsDoor 3 (some .boolean) ∈ xBW := xBW_of ⟨List.mem_of_getElem? (i := 357) rfl, rfl⟩
theorem w358 : Cond.methodLinkNest RX1 72 yX9_isRoom "HourAgo" ∈ lw_tbl := List.mem_of_getElem? (i := 358) (by decide +kernel)
theorem w359 : Cond.static yX9_isRoom ∈ xBW := xBW_of ⟨List.mem_of_getElem? (i := 359) (by decide +kernel), rfl⟩
set_option maxRecDepth 100000 in
theorem w360 : Cond.code yX9_isRoom cX9_isRoom 1 (some .boolean) ∈ xBW := xBW_of ⟨List.mem_of_getElem? (i := 360) rfl, rfl⟩
theorem w361 : Cond.methodLink RX1 75 yX1_doorBetween ∈ xBW := xBW_of ⟨List.mem_of_getElem? (i := 361) (by decide +kernel), rfl⟩
theorem w362 : Cond.instanceMethod yX1_doorBetween ∈ xBW := xBW_of ⟨List.mem_of_getElem? (i := 362) (by decide +kernel), rfl⟩
theorem w363 : Cond.selects RX1 yX1_doorBetween yX1_doorBetween ∈ xBW := xBW_of ⟨List.mem_of_getElem? (i := 363) (by decide +kernel), rfl⟩
set_option maxRecDepth 100000 in
theorem w364 : Cond.code yX1_doorBetween cX1_doorBetween 3 (some .int) ∈ xBW := xBW_of ⟨List.mem_of_getElem? (i := 364) rfl, rfl⟩
theorem w365 : Cond.methodLinkNest RX1 65 yX9_digitOf "HourAgo" ∈ lw_tbl := List.mem_of_getElem? (i := 365) (by decide +kernel)
theorem w366 : Cond.methodLink RX1 69 yX1_addsSight ∈ xBW := xBW_of ⟨List.mem_of_getElem? (i := 366) (by decide +kernel), rfl⟩
theorem w368 : Cond.instanceMethod yX1_addsSight ∈ xBW := xBW_of ⟨List.mem_of_getElem? (i := 368) (by decide +kernel), rfl⟩
set_option maxRecDepth 100000 in
theorem w369 : Cond.code yX1_addsSight cX1_addsSight 3 (some .boolean) ∈ xBW := xBW_of ⟨List.mem_of_getElem? (i := 369) rfl, rfl⟩
theorem w370 : Cond.methodLink RX1 79 yX1_isSeenFrom ∈ xBW := xBW_of ⟨List.mem_of_getElem? (i := 370) (by decide +kernel), rfl⟩
theorem w371 : Cond.instanceMethod yX1_isSeenFrom ∈ xBW := xBW_of ⟨List.mem_of_getElem? (i := 371) (by decide +kernel), rfl⟩
theorem w372 : Cond.selects RX1 yX1_isSeenFrom yX1_isSeenFrom ∈ xBW := xBW_of ⟨List.mem_of_getElem? (i := 372) (by decide +kernel), rfl⟩
set_option maxRecDepth 100000 in
theorem w373 : Cond.code yX1_isSeenFrom cX1_isSeenFrom 3 (some .boolean) ∈ xBW := xBW_of ⟨List.mem_of_getElem? (i := 373) rfl, rfl⟩
theorem w374 : Cond.methodLink RX9 94 yX3_faultIn ∈ xBW := xBW_of ⟨List.mem_of_getElem? (i := 374) (by decide +kernel), rfl⟩
theorem w375 : Cond.static yX3_faultIn ∈ xBW := xBW_of ⟨List.mem_of_getElem? (i := 375) (by decide +kernel), rfl⟩
set_option maxRecDepth 100000 in
theorem w376 : Cond.code yX3_faultIn cX3_faultIn 2 (some .int) ∈ xBW := xBW_of ⟨List.mem_of_getElem? (i := 376) rfl, rfl⟩
theorem w377 : Cond.methodLink RX3 15 yX4_length ∈ xBW := xBW_of ⟨List.mem_of_getElem? (i := 377) (by decide +kernel), rfl⟩
theorem w378 : Cond.methodLink RX3 21 yX4_at ∈ xBW := xBW_of ⟨List.mem_of_getElem? (i := 378) (by decide +kernel), rfl⟩
theorem w379 : Cond.methodLink RX3 25 yX3_mayStand ∈ xBW := xBW_of ⟨List.mem_of_getElem? (i := 379) (by decide +kernel), rfl⟩
theorem w380 : Cond.static yX3_mayStand ∈ xBW := xBW_of ⟨List.mem_of_getElem? (i := 380) (by decide +kernel), rfl⟩
set_option maxRecDepth 100000 in
theorem w381 : Cond.code yX3_mayStand cX3_mayStand 2 (some .boolean) ∈ xBW := xBW_of ⟨List.mem_of_getElem? (i := 381) rfl, rfl⟩
theorem w382 : Cond.methodLinkNest RX3 29 yX9_digitOf "HourAgo" ∈ lw_tbl := List.mem_of_getElem? (i := 382) (by decide +kernel)
theorem w383 : Cond.methodLinkNest RX3 33 yX9_roomDigitOf "HourAgo" ∈ lw_tbl := List.mem_of_getElem? (i := 383) (by decide +kernel)
theorem w384 : Cond.methodLink RX3 36 yX3_stepOf ∈ xBW := xBW_of ⟨List.mem_of_getElem? (i := 384) (by decide +kernel), rfl⟩
theorem w385 : Cond.static yX3_stepOf ∈ xBW := xBW_of ⟨List.mem_of_getElem? (i := 385) (by decide +kernel), rfl⟩
set_option maxRecDepth 100000 in
theorem w386 : Cond.code yX3_stepOf cX3_stepOf 1 (some .int) ∈ xBW := xBW_of ⟨List.mem_of_getElem? (i := 386) rfl, rfl⟩
theorem w387 : Cond.methodLink RL 30 yX9_house ∈ xBW := xBW_of ⟨List.mem_of_getElem? (i := 387) (by decide +kernel), rfl⟩
theorem w388 : Cond.instanceMethod yX9_house ∈ xBW := xBW_of ⟨List.mem_of_getElem? (i := 388) (by decide +kernel), rfl⟩
theorem w389 : Cond.selects RX9 yX9_house yX9_house ∈ xBW := xBW_of ⟨List.mem_of_getElem? (i := 389) (by decide +kernel), rfl⟩
set_option maxRecDepth 100000 in
theorem w390 : Cond.code yX9_house cX9_house 1 (some .int) ∈ xBW := xBW_of ⟨List.mem_of_getElem? (i := 390) rfl, rfl⟩
theorem w391 : Cond.methodLink RX9 97 yX1_isWhole ∈ xBW := xBW_of ⟨List.mem_of_getElem? (i := 391) (by decide +kernel), rfl⟩
theorem w392 : Cond.instanceMethod yX1_isWhole ∈ xBW := xBW_of ⟨List.mem_of_getElem? (i := 392) (by decide +kernel), rfl⟩
theorem w393 : Cond.selects RX1 yX1_isWhole yX1_isWhole ∈ xBW := xBW_of ⟨List.mem_of_getElem? (i := 393) (by decide +kernel), rfl⟩
set_option maxRecDepth 100000 in
theorem w394 : Cond.code yX1_isWhole cX1_isWhole 1 (some .boolean) ∈ xBW := xBW_of ⟨List.mem_of_getElem? (i := 394) rfl, rfl⟩
theorem w395 : Cond.methodLink RX9 108 yX7_clear ∈ xBW := xBW_of ⟨List.mem_of_getElem? (i := 395) (by decide +kernel), rfl⟩
theorem w396 : Cond.instanceMethod yX7_clear ∈ xBW := xBW_of ⟨List.mem_of_getElem? (i := 396) (by decide +kernel), rfl⟩
theorem w397 : Cond.selects RX7 yX7_clear yX7_clear ∈ xBW := xBW_of ⟨List.mem_of_getElem? (i := 397) (by decide +kernel), rfl⟩
set_option maxRecDepth 100000 in
theorem w398 : Cond.code yX7_clear cX7_clear 1 none ∈ xBW := xBW_of ⟨List.mem_of_getElem? (i := 398) rfl, rfl⟩
theorem w399 : Cond.methodLink RX9 109 yX0_clear ∈ xBW := xBW_of ⟨List.mem_of_getElem? (i := 399) (by decide +kernel), rfl⟩
theorem w400 : Cond.instanceMethod yX0_clear ∈ xBW := xBW_of ⟨List.mem_of_getElem? (i := 400) (by decide +kernel), rfl⟩
theorem w401 : Cond.selects RX0 yX0_clear yX0_clear ∈ xBW := xBW_of ⟨List.mem_of_getElem? (i := 401) (by decide +kernel), rfl⟩
set_option maxRecDepth 100000 in
theorem w402 : Cond.code yX0_clear cX0_clear 1 none ∈ xBW := xBW_of ⟨List.mem_of_getElem? (i := 402) rfl, rfl⟩
theorem w403 : Cond.methodLink RX9 110 yX2_drop ∈ xBW := xBW_of ⟨List.mem_of_getElem? (i := 403) (by decide +kernel), rfl⟩
theorem w404 : Cond.instanceMethod yX2_drop ∈ xBW := xBW_of ⟨List.mem_of_getElem? (i := 404) (by decide +kernel), rfl⟩
theorem w405 : Cond.selects RX2 yX2_drop yX2_drop ∈ xBW := xBW_of ⟨List.mem_of_getElem? (i := 405) (by decide +kernel), rfl⟩
set_option maxRecDepth 100000 in
theorem w406 : Cond.code yX2_drop cX2_drop 1 none ∈ xBW := xBW_of ⟨List.mem_of_getElem? (i := 406) rfl, rfl⟩
theorem w407 : Cond.methodLink RX9 113 yX1_doors ∈ xBW := xBW_of ⟨List.mem_of_getElem? (i := 407) (by decide +kernel), rfl⟩
theorem w408 : Cond.instanceMethod yX1_doors ∈ xBW := xBW_of ⟨List.mem_of_getElem? (i := 408) (by decide +kernel), rfl⟩
theorem w409 : Cond.selects RX1 yX1_doors yX1_doors ∈ xBW := xBW_of ⟨List.mem_of_getElem? (i := 409) (by decide +kernel), rfl⟩
set_option maxRecDepth 100000 in
theorem w410 : Cond.code yX1_doors cX1_doors 1 (some .int) ∈ xBW := xBW_of ⟨List.mem_of_getElem? (i := 410) rfl, rfl⟩
theorem w411 : Cond.methodLink RL 34 yX9_between ∈ xBW := xBW_of ⟨List.mem_of_getElem? (i := 411) (by decide +kernel), rfl⟩
theorem w412 : Cond.instanceMethod yX9_between ∈ xBW := xBW_of ⟨List.mem_of_getElem? (i := 412) (by decide +kernel), rfl⟩
theorem w413 : Cond.selects RX9 yX9_between yX9_between ∈ xBW := xBW_of ⟨List.mem_of_getElem? (i := 413) (by decide +kernel), rfl⟩
set_option maxRecDepth 100000 in
theorem w414 : Cond.code yX9_between cX9_between 4 (some .int) ∈ xBW := xBW_of ⟨List.mem_of_getElem? (i := 414) rfl, rfl⟩
theorem w415 : Cond.methodLink RX9 116 yX9_isRoom ∈ xBW := xBW_of ⟨List.mem_of_getElem? (i := 415) (by decide +kernel), rfl⟩
theorem w416 : Cond.methodLink RX9 120 yX9_hasHouse ∈ xBW := xBW_of ⟨List.mem_of_getElem? (i := 416) (by decide +kernel), rfl⟩
theorem w418 : Cond.instanceMethod yX9_hasHouse ∈ xBW := xBW_of ⟨List.mem_of_getElem? (i := 418) (by decide +kernel), rfl⟩
set_option maxRecDepth 100000 in
theorem w419 : Cond.code yX9_hasHouse cX9_hasHouse 1 (some .boolean) ∈ xBW := xBW_of ⟨List.mem_of_getElem? (i := 419) rfl, rfl⟩
theorem w420 : Cond.methodLink RX9 123 yX1_doorBetween ∈ xBW := xBW_of ⟨List.mem_of_getElem? (i := 420) (by decide +kernel), rfl⟩
theorem w421 : Cond.methodLink RX9 127 yX1_isSeenFrom ∈ xBW := xBW_of ⟨List.mem_of_getElem? (i := 421) (by decide +kernel), rfl⟩
theorem w422 : Cond.methodLink RL 39 yX9_person ∈ xBW := xBW_of ⟨List.mem_of_getElem? (i := 422) (by decide +kernel), rfl⟩
theorem w423 : Cond.instanceMethod yX9_person ∈ xBW := xBW_of ⟨List.mem_of_getElem? (i := 423) (by decide +kernel), rfl⟩
theorem w424 : Cond.selects RX9 yX9_person yX9_person ∈ xBW := xBW_of ⟨List.mem_of_getElem? (i := 424) (by decide +kernel), rfl⟩
set_option maxRecDepth 100000 in
theorem w425 : Cond.code yX9_person cX9_person 4 (some .int) ∈ xBW := xBW_of ⟨List.mem_of_getElem? (i := 425) rfl, rfl⟩
theorem w426 : Cond.methodLink RX9 131 yX9_isKind ∈ xBW := xBW_of ⟨List.mem_of_getElem? (i := 426) (by decide +kernel), rfl⟩
theorem w427 : Cond.static yX9_isKind ∈ xBW := xBW_of ⟨List.mem_of_getElem? (i := 427) (by decide +kernel), rfl⟩
set_option maxRecDepth 100000 in
theorem w428 : Cond.code yX9_isKind cX9_isKind 1 (some .boolean) ∈ xBW := xBW_of ⟨List.mem_of_getElem? (i := 428) rfl, rfl⟩
theorem w429 : Cond.methodLink RX9 134 yX9_personAt ∈ xBW := xBW_of ⟨List.mem_of_getElem? (i := 429) (by decide +kernel), rfl⟩
theorem w431 : Cond.instanceMethod yX9_personAt ∈ xBW := xBW_of ⟨List.mem_of_getElem? (i := 431) (by decide +kernel), rfl⟩
set_option maxRecDepth 100000 in
theorem w432 : Cond.code yX9_personAt cX9_personAt 2 (some (.object "HourAgo$Person")) ∈ xBW := xBW_of ⟨List.mem_of_getElem? (i := 432) rfl, rfl⟩
theorem w433 : Cond.methodLink RX9 138 yX5_begin ∈ xBW := xBW_of ⟨List.mem_of_getElem? (i := 433) (by decide +kernel), rfl⟩
theorem w434 : Cond.instanceMethod yX5_begin ∈ xBW := xBW_of ⟨List.mem_of_getElem? (i := 434) (by decide +kernel), rfl⟩
theorem w435 : Cond.selects RX5 yX5_begin yX5_begin ∈ xBW := xBW_of ⟨List.mem_of_getElem? (i := 435) (by decide +kernel), rfl⟩
set_option maxRecDepth 100000 in
theorem w436 : Cond.code yX5_begin cX5_begin 2 none ∈ xBW := xBW_of ⟨List.mem_of_getElem? (i := 436) rfl, rfl⟩
theorem w437 : Cond.methodLink RX5 22 yX3_clear ∈ xBW := xBW_of ⟨List.mem_of_getElem? (i := 437) (by decide +kernel), rfl⟩
theorem w438 : Cond.instanceMethod yX3_clear ∈ xBW := xBW_of ⟨List.mem_of_getElem? (i := 438) (by decide +kernel), rfl⟩
theorem w439 : Cond.selects RX3 yX3_clear yX3_clear ∈ xBW := xBW_of ⟨List.mem_of_getElem? (i := 439) (by decide +kernel), rfl⟩
set_option maxRecDepth 100000 in
theorem w440 : Cond.code yX3_clear cX3_clear 1 none ∈ xBW := xBW_of ⟨List.mem_of_getElem? (i := 440) rfl, rfl⟩
theorem w441 : Cond.methodLink RL 43 yX9_life ∈ xBW := xBW_of ⟨List.mem_of_getElem? (i := 441) (by decide +kernel), rfl⟩
theorem w442 : Cond.instanceMethod yX9_life ∈ xBW := xBW_of ⟨List.mem_of_getElem? (i := 442) (by decide +kernel), rfl⟩
theorem w443 : Cond.selects RX9 yX9_life yX9_life ∈ xBW := xBW_of ⟨List.mem_of_getElem? (i := 443) (by decide +kernel), rfl⟩
set_option maxRecDepth 100000 in
theorem w444 : Cond.code yX9_life cX9_life 4 (some .int) ∈ xBW := xBW_of ⟨List.mem_of_getElem? (i := 444) rfl, rfl⟩
theorem w445 : Cond.methodLink RX9 142 yX5_kind ∈ xBW := xBW_of ⟨List.mem_of_getElem? (i := 445) (by decide +kernel), rfl⟩
theorem w446 : Cond.instanceMethod yX5_kind ∈ xBW := xBW_of ⟨List.mem_of_getElem? (i := 446) (by decide +kernel), rfl⟩
theorem w447 : Cond.selects RX5 yX5_kind yX5_kind ∈ xBW := xBW_of ⟨List.mem_of_getElem? (i := 447) (by decide +kernel), rfl⟩
set_option maxRecDepth 100000 in
theorem w448 : Cond.code yX5_kind cX5_kind 1 (some .int) ∈ xBW := xBW_of ⟨List.mem_of_getElem? (i := 448) rfl, rfl⟩
theorem w449 : Cond.methodLink RX9 145 yX1_leapOf ∈ xBW := xBW_of ⟨List.mem_of_getElem? (i := 449) (by decide +kernel), rfl⟩
theorem w450 : Cond.instanceMethod yX1_leapOf ∈ xBW := xBW_of ⟨List.mem_of_getElem? (i := 450) (by decide +kernel), rfl⟩
theorem w451 : Cond.selects RX1 yX1_leapOf yX1_leapOf ∈ xBW := xBW_of ⟨List.mem_of_getElem? (i := 451) (by decide +kernel), rfl⟩
set_option maxRecDepth 100000 in
theorem w452 : Cond.code yX1_leapOf cX1_leapOf 2 (some .int) ∈ xBW := xBW_of ⟨List.mem_of_getElem? (i := 452) rfl, rfl⟩
theorem w453 : Cond.methodLinkNest RX1 82 yX9_isOfKind "HourAgo" ∈ lw_tbl := List.mem_of_getElem? (i := 453) (by decide +kernel)
theorem w454 : Cond.static yX9_isOfKind ∈ xBW := xBW_of ⟨List.mem_of_getElem? (i := 454) (by decide +kernel), rfl⟩
set_option maxRecDepth 100000 in
theorem w455 : Cond.code yX9_isOfKind cX9_isOfKind 2 (some .boolean) ∈ xBW := xBW_of ⟨List.mem_of_getElem? (i := 455) rfl, rfl⟩
theorem w456 : Cond.methodLink RX9 149 yX3_read ∈ xBW := xBW_of ⟨List.mem_of_getElem? (i := 456) (by decide +kernel), rfl⟩
theorem w457 : Cond.instanceMethod yX3_read ∈ xBW := xBW_of ⟨List.mem_of_getElem? (i := 457) (by decide +kernel), rfl⟩
theorem w458 : Cond.selects RX3 yX3_read yX3_read ∈ xBW := xBW_of ⟨List.mem_of_getElem? (i := 458) (by decide +kernel), rfl⟩
set_option maxRecDepth 100000 in
theorem w459 : Cond.code yX3_read cX3_read 6 (some .boolean) ∈ xBW := xBW_of ⟨List.mem_of_getElem? (i := 459) rfl, rfl⟩
theorem w460 : Cond.methodLink RX3 39 yX3_clear ∈ xBW := xBW_of ⟨List.mem_of_getElem? (i := 460) (by decide +kernel), rfl⟩
theorem w461 : Cond.methodLink RX3 42 yX3_faultIn ∈ xBW := xBW_of ⟨List.mem_of_getElem? (i := 461) (by decide +kernel), rfl⟩
theorem w462 : Cond.methodLinkNest RX3 46 yX9_spotOf "HourAgo" ∈ lw_tbl := List.mem_of_getElem? (i := 462) (by decide +kernel)
theorem w463 : Cond.static yX9_spotOf ∈ xBW := xBW_of ⟨List.mem_of_getElem? (i := 463) (by decide +kernel), rfl⟩
set_option maxRecDepth 100000 in
theorem w464 : Cond.code yX9_spotOf cX9_spotOf 2 (some .int) ∈ xBW := xBW_of ⟨List.mem_of_getElem? (i := 464) rfl, rfl⟩
theorem w465 : Cond.methodLink RX3 50 yX3_add ∈ xBW := xBW_of ⟨List.mem_of_getElem? (i := 465) (by decide +kernel), rfl⟩
theorem w467 : Cond.instanceMethod yX3_add ∈ xBW := xBW_of ⟨List.mem_of_getElem? (i := 467) (by decide +kernel), rfl⟩
set_option maxRecDepth 100000 in
theorem w468 : Cond.code yX3_add cX3_add 2 none ∈ xBW := xBW_of ⟨List.mem_of_getElem? (i := 468) rfl, rfl⟩
theorem w469 : Cond.methodLink RX3 54 yX3_takes ∈ xBW := xBW_of ⟨List.mem_of_getElem? (i := 469) (by decide +kernel), rfl⟩
theorem w471 : Cond.instanceMethod yX3_takes ∈ xBW := xBW_of ⟨List.mem_of_getElem? (i := 471) (by decide +kernel), rfl⟩
set_option maxRecDepth 100000 in
theorem w472 : Cond.code yX3_takes cX3_takes 6 (some .boolean) ∈ xBW := xBW_of ⟨List.mem_of_getElem? (i := 472) rfl, rfl⟩
theorem w473 : Cond.methodLink RX3 58 yX3_lastSpot ∈ xBW := xBW_of ⟨List.mem_of_getElem? (i := 473) (by decide +kernel), rfl⟩
theorem w474 : Cond.instanceMethod yX3_lastSpot ∈ xBW := xBW_of ⟨List.mem_of_getElem? (i := 474) (by decide +kernel), rfl⟩
theorem w475 : Cond.selects RX3 yX3_lastSpot yX3_lastSpot ∈ xBW := xBW_of ⟨List.mem_of_getElem? (i := 475) (by decide +kernel), rfl⟩
set_option maxRecDepth 100000 in
theorem w476 : Cond.code yX3_lastSpot cX3_lastSpot 1 (some .int) ∈ xBW := xBW_of ⟨List.mem_of_getElem? (i := 476) rfl, rfl⟩
theorem w477 : Cond.methodLink RX3 82 yX3_spotAt ∈ xBW := xBW_of ⟨List.mem_of_getElem? (i := 477) (by decide +kernel), rfl⟩
theorem w478 : Cond.instanceMethod yX3_spotAt ∈ xBW := xBW_of ⟨List.mem_of_getElem? (i := 478) (by decide +kernel), rfl⟩
theorem w479 : Cond.selects RX3 yX3_spotAt yX3_spotAt ∈ xBW := xBW_of ⟨List.mem_of_getElem? (i := 479) (by decide +kernel), rfl⟩
set_option maxRecDepth 100000 in
theorem w480 : Cond.code yX3_spotAt cX3_spotAt 2 (some .int) ∈ xBW := xBW_of ⟨List.mem_of_getElem? (i := 480) rfl, rfl⟩
theorem w481 : Cond.methodLink RX3 61 yX1_spotAfter ∈ xBW := xBW_of ⟨List.mem_of_getElem? (i := 481) (by decide +kernel), rfl⟩
theorem w482 : Cond.instanceMethod yX1_spotAfter ∈ xBW := xBW_of ⟨List.mem_of_getElem? (i := 482) (by decide +kernel), rfl⟩
theorem w483 : Cond.selects RX1 yX1_spotAfter yX1_spotAfter ∈ xBW := xBW_of ⟨List.mem_of_getElem? (i := 483) (by decide +kernel), rfl⟩
set_option maxRecDepth 100000 in
theorem w484 : Cond.code yX1_spotAfter cX1_spotAfter 6 (some .int) ∈ xBW := xBW_of ⟨List.mem_of_getElem? (i := 484) rfl, rfl⟩
theorem w485 : Cond.methodLinkNest RX1 85 yX9_minuteOf "HourAgo" ∈ lw_tbl := List.mem_of_getElem? (i := 485) (by decide +kernel)
theorem w486 : Cond.static yX9_minuteOf ∈ xBW := xBW_of ⟨List.mem_of_getElem? (i := 486) (by decide +kernel), rfl⟩
set_option maxRecDepth 100000 in
theorem w487 : Cond.code yX9_minuteOf cX9_minuteOf 1 (some .int) ∈ xBW := xBW_of ⟨List.mem_of_getElem? (i := 487) rfl, rfl⟩
theorem w488 : Cond.methodLinkNest RX1 88 yX9_roomOf "HourAgo" ∈ lw_tbl := List.mem_of_getElem? (i := 488) (by decide +kernel)
theorem w489 : Cond.static yX9_roomOf ∈ xBW := xBW_of ⟨List.mem_of_getElem? (i := 489) (by decide +kernel), rfl⟩
set_option maxRecDepth 100000 in
theorem w490 : Cond.code yX9_roomOf cX9_roomOf 1 (some .int) ∈ xBW := xBW_of ⟨List.mem_of_getElem? (i := 490) rfl, rfl⟩
theorem w491 : Cond.methodLinkNest RX1 91 yX9_spotOf "HourAgo" ∈ lw_tbl := List.mem_of_getElem? (i := 491) (by decide +kernel)
theorem w492 : Cond.methodLinkNest RX1 94 yX9_isMinute "HourAgo" ∈ lw_tbl := List.mem_of_getElem? (i := 492) (by decide +kernel)
theorem w493 : Cond.static yX9_isMinute ∈ xBW := xBW_of ⟨List.mem_of_getElem? (i := 493) (by decide +kernel), rfl⟩
set_option maxRecDepth 100000 in
theorem w494 : Cond.code yX9_isMinute cX9_isMinute 1 (some .boolean) ∈ xBW := xBW_of ⟨List.mem_of_getElem? (i := 494) rfl, rfl⟩
theorem w495 : Cond.methodLinkNest RX3 73 yX9_roomOf "HourAgo" ∈ lw_tbl := List.mem_of_getElem? (i := 495) (by decide +kernel)
theorem w496 : Cond.methodLink RX3 76 yX1_doorBetween ∈ xBW := xBW_of ⟨List.mem_of_getElem? (i := 496) (by decide +kernel), rfl⟩
theorem w497 : Cond.methodLink RX9 152 yX5_lived ∈ xBW := xBW_of ⟨List.mem_of_getElem? (i := 497) (by decide +kernel), rfl⟩
theorem w498 : Cond.instanceMethod yX5_lived ∈ xBW := xBW_of ⟨List.mem_of_getElem? (i := 498) (by decide +kernel), rfl⟩
theorem w499 : Cond.selects RX5 yX5_lived yX5_lived ∈ xBW := xBW_of ⟨List.mem_of_getElem? (i := 499) (by decide +kernel), rfl⟩
set_option maxRecDepth 100000 in
theorem w500 : Cond.code yX5_lived cX5_lived 1 (some (.object "HourAgo$Life")) ∈ xBW := xBW_of ⟨List.mem_of_getElem? (i := 500) rfl, rfl⟩
theorem w501 : Cond.methodLink RX9 156 yX3_copyFrom ∈ xBW := xBW_of ⟨List.mem_of_getElem? (i := 501) (by decide +kernel), rfl⟩
theorem w502 : Cond.instanceMethod yX3_copyFrom ∈ xBW := xBW_of ⟨List.mem_of_getElem? (i := 502) (by decide +kernel), rfl⟩
theorem w503 : Cond.selects RX3 yX3_copyFrom yX3_copyFrom ∈ xBW := xBW_of ⟨List.mem_of_getElem? (i := 503) (by decide +kernel), rfl⟩
set_option maxRecDepth 100000 in
theorem w504 : Cond.code yX3_copyFrom cX3_copyFrom 3 none ∈ xBW := xBW_of ⟨List.mem_of_getElem? (i := 504) rfl, rfl⟩
theorem w505 : Cond.methodLink RX9 160 yX3_selves ∈ xBW := xBW_of ⟨List.mem_of_getElem? (i := 505) (by decide +kernel), rfl⟩
theorem w506 : Cond.instanceMethod yX3_selves ∈ xBW := xBW_of ⟨List.mem_of_getElem? (i := 506) (by decide +kernel), rfl⟩
theorem w507 : Cond.selects RX3 yX3_selves yX3_selves ∈ xBW := xBW_of ⟨List.mem_of_getElem? (i := 507) (by decide +kernel), rfl⟩
set_option maxRecDepth 100000 in
theorem w508 : Cond.code yX3_selves cX3_selves 1 (some .int) ∈ xBW := xBW_of ⟨List.mem_of_getElem? (i := 508) rfl, rfl⟩
theorem w509 : Cond.methodLink RL 47 yX9_about ∈ xBW := xBW_of ⟨List.mem_of_getElem? (i := 509) (by decide +kernel), rfl⟩
theorem w510 : Cond.instanceMethod yX9_about ∈ xBW := xBW_of ⟨List.mem_of_getElem? (i := 510) (by decide +kernel), rfl⟩
theorem w511 : Cond.selects RX9 yX9_about yX9_about ∈ xBW := xBW_of ⟨List.mem_of_getElem? (i := 511) (by decide +kernel), rfl⟩
set_option maxRecDepth 100000 in
theorem w512 : Cond.code yX9_about cX9_about 5 (some .int) ∈ xBW := xBW_of ⟨List.mem_of_getElem? (i := 512) rfl, rfl⟩
theorem w513 : Cond.methodLink RX9 163 yX3_lastSpot ∈ xBW := xBW_of ⟨List.mem_of_getElem? (i := 513) (by decide +kernel), rfl⟩
theorem w514 : Cond.methodLink RX9 166 yX3_throughs ∈ xBW := xBW_of ⟨List.mem_of_getElem? (i := 514) (by decide +kernel), rfl⟩
theorem w515 : Cond.instanceMethod yX3_throughs ∈ xBW := xBW_of ⟨List.mem_of_getElem? (i := 515) (by decide +kernel), rfl⟩
theorem w516 : Cond.selects RX3 yX3_throughs yX3_throughs ∈ xBW := xBW_of ⟨List.mem_of_getElem? (i := 516) (by decide +kernel), rfl⟩
set_option maxRecDepth 100000 in
theorem w517 : Cond.code yX3_throughs cX3_throughs 1 (some .int) ∈ xBW := xBW_of ⟨List.mem_of_getElem? (i := 517) rfl, rfl⟩
theorem w518 : Cond.methodLink RX9 169 yX9_minuteOf ∈ xBW := xBW_of ⟨List.mem_of_getElem? (i := 518) (by decide +kernel), rfl⟩
theorem w519 : Cond.methodLink RX9 172 yX9_roomOf ∈ xBW := xBW_of ⟨List.mem_of_getElem? (i := 519) (by decide +kernel), rfl⟩
theorem w520 : Cond.methodLink RL 51 yX9_as ∈ xBW := xBW_of ⟨List.mem_of_getElem? (i := 520) (by decide +kernel), rfl⟩
theorem w521 : Cond.instanceMethod yX9_as ∈ xBW := xBW_of ⟨List.mem_of_getElem? (i := 521) (by decide +kernel), rfl⟩
theorem w522 : Cond.selects RX9 yX9_as yX9_as ∈ xBW := xBW_of ⟨List.mem_of_getElem? (i := 522) (by decide +kernel), rfl⟩
set_option maxRecDepth 100000 in
theorem w523 : Cond.code yX9_as cX9_as 4 (some .int) ∈ xBW := xBW_of ⟨List.mem_of_getElem? (i := 523) rfl, rfl⟩
theorem w524 : Cond.methodLink RX9 175 yX9_isOfKind ∈ xBW := xBW_of ⟨List.mem_of_getElem? (i := 524) (by decide +kernel), rfl⟩
theorem w525 : Cond.methodLink RL 55 yX9_self ∈ xBW := xBW_of ⟨List.mem_of_getElem? (i := 525) (by decide +kernel), rfl⟩
theorem w526 : Cond.instanceMethod yX9_self ∈ xBW := xBW_of ⟨List.mem_of_getElem? (i := 526) (by decide +kernel), rfl⟩
theorem w527 : Cond.selects RX9 yX9_self yX9_self ∈ xBW := xBW_of ⟨List.mem_of_getElem? (i := 527) (by decide +kernel), rfl⟩
set_option maxRecDepth 100000 in
theorem w528 : Cond.code yX9_self cX9_self 6 (some .int) ∈ xBW := xBW_of ⟨List.mem_of_getElem? (i := 528) rfl, rfl⟩
theorem w529 : Cond.methodLink RX9 178 yX3_spotAt ∈ xBW := xBW_of ⟨List.mem_of_getElem? (i := 529) (by decide +kernel), rfl⟩
theorem w530 : Cond.methodLink RL 60 yX9_there ∈ xBW := xBW_of ⟨List.mem_of_getElem? (i := 530) (by decide +kernel), rfl⟩
theorem w531 : Cond.instanceMethod yX9_there ∈ xBW := xBW_of ⟨List.mem_of_getElem? (i := 531) (by decide +kernel), rfl⟩
theorem w532 : Cond.selects RX9 yX9_there yX9_there ∈ xBW := xBW_of ⟨List.mem_of_getElem? (i := 532) (by decide +kernel), rfl⟩
set_option maxRecDepth 100000 in
theorem w533 : Cond.code yX9_there cX9_there 5 (some .int) ∈ xBW := xBW_of ⟨List.mem_of_getElem? (i := 533) rfl, rfl⟩
theorem w534 : Cond.methodLink RX9 181 yX9_isMinute ∈ xBW := xBW_of ⟨List.mem_of_getElem? (i := 534) (by decide +kernel), rfl⟩
theorem w535 : Cond.methodLink RX9 184 yX9_spotOf ∈ xBW := xBW_of ⟨List.mem_of_getElem? (i := 535) (by decide +kernel), rfl⟩
theorem w536 : Cond.methodLink RX9 187 yX3_selvesAt ∈ xBW := xBW_of ⟨List.mem_of_getElem? (i := 536) (by decide +kernel), rfl⟩
theorem w537 : Cond.instanceMethod yX3_selvesAt ∈ xBW := xBW_of ⟨List.mem_of_getElem? (i := 537) (by decide +kernel), rfl⟩
theorem w538 : Cond.selects RX3 yX3_selvesAt yX3_selvesAt ∈ xBW := xBW_of ⟨List.mem_of_getElem? (i := 538) (by decide +kernel), rfl⟩
set_option maxRecDepth 100000 in
theorem w539 : Cond.code yX3_selvesAt cX3_selvesAt 4 (some .int) ∈ xBW := xBW_of ⟨List.mem_of_getElem? (i := 539) rfl, rfl⟩
theorem w540 : Cond.methodLink RL 64 yX9_met ∈ xBW := xBW_of ⟨List.mem_of_getElem? (i := 540) (by decide +kernel), rfl⟩
theorem w541 : Cond.instanceMethod yX9_met ∈ xBW := xBW_of ⟨List.mem_of_getElem? (i := 541) (by decide +kernel), rfl⟩
theorem w542 : Cond.selects RX9 yX9_met yX9_met ∈ xBW := xBW_of ⟨List.mem_of_getElem? (i := 542) (by decide +kernel), rfl⟩
set_option maxRecDepth 100000 in
theorem w543 : Cond.code yX9_met cX9_met 3 (some .int) ∈ xBW := xBW_of ⟨List.mem_of_getElem? (i := 543) rfl, rfl⟩
theorem w544 : Cond.methodLink RX9 190 yX5_firstMeeting ∈ xBW := xBW_of ⟨List.mem_of_getElem? (i := 544) (by decide +kernel), rfl⟩
theorem w545 : Cond.instanceMethod yX5_firstMeeting ∈ xBW := xBW_of ⟨List.mem_of_getElem? (i := 545) (by decide +kernel), rfl⟩
theorem w546 : Cond.selects RX5 yX5_firstMeeting yX5_firstMeeting ∈ xBW := xBW_of ⟨List.mem_of_getElem? (i := 546) (by decide +kernel), rfl⟩
set_option maxRecDepth 100000 in
theorem w547 : Cond.code yX5_firstMeeting cX5_firstMeeting 5 (some .int) ∈ xBW := xBW_of ⟨List.mem_of_getElem? (i := 547) rfl, rfl⟩
theorem w548 : Cond.methodLink RX5 25 yX3_selves ∈ xBW := xBW_of ⟨List.mem_of_getElem? (i := 548) (by decide +kernel), rfl⟩
theorem w549 : Cond.methodLink RX5 29 yX3_spotAt ∈ xBW := xBW_of ⟨List.mem_of_getElem? (i := 549) (by decide +kernel), rfl⟩
theorem w550 : Cond.methodLinkNest RX5 33 yX9_minuteOf "HourAgo" ∈ lw_tbl := List.mem_of_getElem? (i := 550) (by decide +kernel)
theorem w551 : Cond.methodLink RX5 36 yX5_isMetBySelf ∈ xBW := xBW_of ⟨List.mem_of_getElem? (i := 551) (by decide +kernel), rfl⟩
theorem w553 : Cond.instanceMethod yX5_isMetBySelf ∈ xBW := xBW_of ⟨List.mem_of_getElem? (i := 553) (by decide +kernel), rfl⟩
set_option maxRecDepth 100000 in
theorem w554 : Cond.code yX5_isMetBySelf cX5_isMetBySelf 7 (some .boolean) ∈ xBW := xBW_of ⟨List.mem_of_getElem? (i := 554) rfl, rfl⟩
theorem w555 : Cond.methodLinkNest RX5 40 yX9_roomOf "HourAgo" ∈ lw_tbl := List.mem_of_getElem? (i := 555) (by decide +kernel)
theorem w556 : Cond.methodLink RX5 43 yX1_meetingRooms ∈ xBW := xBW_of ⟨List.mem_of_getElem? (i := 556) (by decide +kernel), rfl⟩
theorem w557 : Cond.instanceMethod yX1_meetingRooms ∈ xBW := xBW_of ⟨List.mem_of_getElem? (i := 557) (by decide +kernel), rfl⟩
theorem w558 : Cond.selects RX1 yX1_meetingRooms yX1_meetingRooms ∈ xBW := xBW_of ⟨List.mem_of_getElem? (i := 558) (by decide +kernel), rfl⟩
set_option maxRecDepth 100000 in
theorem w559 : Cond.code yX1_meetingRooms cX1_meetingRooms 4 (some .int) ∈ xBW := xBW_of ⟨List.mem_of_getElem? (i := 559) rfl, rfl⟩
theorem w560 : Cond.methodLink RL 68 yX9_most ∈ xBW := xBW_of ⟨List.mem_of_getElem? (i := 560) (by decide +kernel), rfl⟩
theorem w561 : Cond.instanceMethod yX9_most ∈ xBW := xBW_of ⟨List.mem_of_getElem? (i := 561) (by decide +kernel), rfl⟩
theorem w562 : Cond.selects RX9 yX9_most yX9_most ∈ xBW := xBW_of ⟨List.mem_of_getElem? (i := 562) (by decide +kernel), rfl⟩
set_option maxRecDepth 100000 in
theorem w563 : Cond.code yX9_most cX9_most 5 (some .int) ∈ xBW := xBW_of ⟨List.mem_of_getElem? (i := 563) rfl, rfl⟩
theorem w564 : Cond.methodLink RX9 194 yX3_fullestMinute ∈ xBW := xBW_of ⟨List.mem_of_getElem? (i := 564) (by decide +kernel), rfl⟩
theorem w565 : Cond.instanceMethod yX3_fullestMinute ∈ xBW := xBW_of ⟨List.mem_of_getElem? (i := 565) (by decide +kernel), rfl⟩
theorem w566 : Cond.selects RX3 yX3_fullestMinute yX3_fullestMinute ∈ xBW := xBW_of ⟨List.mem_of_getElem? (i := 566) (by decide +kernel), rfl⟩
set_option maxRecDepth 100000 in
theorem w567 : Cond.code yX3_fullestMinute cX3_fullestMinute 6 (some .int) ∈ xBW := xBW_of ⟨List.mem_of_getElem? (i := 567) rfl, rfl⟩
theorem w568 : Cond.methodLinkNest RX3 85 yX9_minuteOf "HourAgo" ∈ lw_tbl := List.mem_of_getElem? (i := 568) (by decide +kernel)
theorem w569 : Cond.methodLink RX3 88 yX3_selvesIn ∈ xBW := xBW_of ⟨List.mem_of_getElem? (i := 569) (by decide +kernel), rfl⟩
theorem w570 : Cond.instanceMethod yX3_selvesIn ∈ xBW := xBW_of ⟨List.mem_of_getElem? (i := 570) (by decide +kernel), rfl⟩
theorem w571 : Cond.selects RX3 yX3_selvesIn yX3_selvesIn ∈ xBW := xBW_of ⟨List.mem_of_getElem? (i := 571) (by decide +kernel), rfl⟩
set_option maxRecDepth 100000 in
theorem w572 : Cond.code yX3_selvesIn cX3_selvesIn 4 (some .int) ∈ xBW := xBW_of ⟨List.mem_of_getElem? (i := 572) rfl, rfl⟩
theorem w573 : Cond.methodLink RX9 197 yX3_selvesIn ∈ xBW := xBW_of ⟨List.mem_of_getElem? (i := 573) (by decide +kernel), rfl⟩
theorem w574 : Cond.methodLink RL 72 yX9_meet ∈ xBW := xBW_of ⟨List.mem_of_getElem? (i := 574) (by decide +kernel), rfl⟩
theorem w575 : Cond.instanceMethod yX9_meet ∈ xBW := xBW_of ⟨List.mem_of_getElem? (i := 575) (by decide +kernel), rfl⟩
theorem w576 : Cond.selects RX9 yX9_meet yX9_meet ∈ xBW := xBW_of ⟨List.mem_of_getElem? (i := 576) (by decide +kernel), rfl⟩
set_option maxRecDepth 100000 in
theorem w577 : Cond.code yX9_meet cX9_meet 5 (some .int) ∈ xBW := xBW_of ⟨List.mem_of_getElem? (i := 577) rfl, rfl⟩
theorem w578 : Cond.methodLink RX9 200 yX3_firstMinuteWith ∈ xBW := xBW_of ⟨List.mem_of_getElem? (i := 578) (by decide +kernel), rfl⟩
theorem w579 : Cond.instanceMethod yX3_firstMinuteWith ∈ xBW := xBW_of ⟨List.mem_of_getElem? (i := 579) (by decide +kernel), rfl⟩
theorem w580 : Cond.selects RX3 yX3_firstMinuteWith yX3_firstMinuteWith ∈ xBW := xBW_of ⟨List.mem_of_getElem? (i := 580) (by decide +kernel), rfl⟩
set_option maxRecDepth 100000 in
theorem w581 : Cond.code yX3_firstMinuteWith cX3_firstMinuteWith 5 (some .int) ∈ xBW := xBW_of ⟨List.mem_of_getElem? (i := 581) rfl, rfl⟩
theorem w582 : Cond.methodLink RX3 91 yX3_selvesAt ∈ xBW := xBW_of ⟨List.mem_of_getElem? (i := 582) (by decide +kernel), rfl⟩
theorem w583 : Cond.methodLink RL 76 yX9_locked ∈ xBW := xBW_of ⟨List.mem_of_getElem? (i := 583) (by decide +kernel), rfl⟩
theorem w584 : Cond.instanceMethod yX9_locked ∈ xBW := xBW_of ⟨List.mem_of_getElem? (i := 584) (by decide +kernel), rfl⟩
theorem w585 : Cond.selects RX9 yX9_locked yX9_locked ∈ xBW := xBW_of ⟨List.mem_of_getElem? (i := 585) (by decide +kernel), rfl⟩
set_option maxRecDepth 100000 in
theorem w586 : Cond.code yX9_locked cX9_locked 5 (some .int) ∈ xBW := xBW_of ⟨List.mem_of_getElem? (i := 586) rfl, rfl⟩
theorem w587 : Cond.methodLink RX9 204 yX9_usersOf ∈ xBW := xBW_of ⟨List.mem_of_getElem? (i := 587) (by decide +kernel), rfl⟩
theorem w589 : Cond.instanceMethod yX9_usersOf ∈ xBW := xBW_of ⟨List.mem_of_getElem? (i := 589) (by decide +kernel), rfl⟩
set_option maxRecDepth 100000 in
theorem w590 : Cond.code yX9_usersOf cX9_usersOf 5 (some .int) ∈ xBW := xBW_of ⟨List.mem_of_getElem? (i := 590) rfl, rfl⟩
theorem w591 : Cond.methodLink RX9 331 yX3_usesDoor ∈ xBW := xBW_of ⟨List.mem_of_getElem? (i := 591) (by decide +kernel), rfl⟩
theorem w592 : Cond.instanceMethod yX3_usesDoor ∈ xBW := xBW_of ⟨List.mem_of_getElem? (i := 592) (by decide +kernel), rfl⟩
theorem w593 : Cond.selects RX3 yX3_usesDoor yX3_usesDoor ∈ xBW := xBW_of ⟨List.mem_of_getElem? (i := 593) (by decide +kernel), rfl⟩
set_option maxRecDepth 100000 in
theorem w594 : Cond.code yX3_usesDoor cX3_usesDoor 2 (some .boolean) ∈ xBW := xBW_of ⟨List.mem_of_getElem? (i := 594) rfl, rfl⟩
theorem w595 : Cond.methodLink RL 80 yX9_task ∈ xBW := xBW_of ⟨List.mem_of_getElem? (i := 595) (by decide +kernel), rfl⟩
theorem w596 : Cond.instanceMethod yX9_task ∈ xBW := xBW_of ⟨List.mem_of_getElem? (i := 596) (by decide +kernel), rfl⟩
theorem w597 : Cond.selects RX9 yX9_task yX9_task ∈ xBW := xBW_of ⟨List.mem_of_getElem? (i := 597) (by decide +kernel), rfl⟩
set_option maxRecDepth 100000 in
theorem w598 : Cond.code yX9_task cX9_task 4 (some .int) ∈ xBW := xBW_of ⟨List.mem_of_getElem? (i := 598) rfl, rfl⟩
theorem w599 : Cond.methodLink RX9 207 yX7_add ∈ xBW := xBW_of ⟨List.mem_of_getElem? (i := 599) (by decide +kernel), rfl⟩
theorem w600 : Cond.instanceMethod yX7_add ∈ xBW := xBW_of ⟨List.mem_of_getElem? (i := 600) (by decide +kernel), rfl⟩
theorem w601 : Cond.selects RX7 yX7_add yX7_add ∈ xBW := xBW_of ⟨List.mem_of_getElem? (i := 601) (by decide +kernel), rfl⟩
set_option maxRecDepth 100000 in
theorem w602 : Cond.code yX7_add cX7_add 5 (some .int) ∈ xBW := xBW_of ⟨List.mem_of_getElem? (i := 602) rfl, rfl⟩
theorem w603 : Cond.methodLink RL 84 yX9_done ∈ xBW := xBW_of ⟨List.mem_of_getElem? (i := 603) (by decide +kernel), rfl⟩
theorem w604 : Cond.instanceMethod yX9_done ∈ xBW := xBW_of ⟨List.mem_of_getElem? (i := 604) (by decide +kernel), rfl⟩
theorem w605 : Cond.selects RX9 yX9_done yX9_done ∈ xBW := xBW_of ⟨List.mem_of_getElem? (i := 605) (by decide +kernel), rfl⟩
set_option maxRecDepth 100000 in
theorem w606 : Cond.code yX9_done cX9_done 3 (some .int) ∈ xBW := xBW_of ⟨List.mem_of_getElem? (i := 606) rfl, rfl⟩
theorem w607 : Cond.methodLink RX9 211 yX7_doneBy ∈ xBW := xBW_of ⟨List.mem_of_getElem? (i := 607) (by decide +kernel), rfl⟩
theorem w608 : Cond.instanceMethod yX7_doneBy ∈ xBW := xBW_of ⟨List.mem_of_getElem? (i := 608) (by decide +kernel), rfl⟩
theorem w609 : Cond.selects RX7 yX7_doneBy yX7_doneBy ∈ xBW := xBW_of ⟨List.mem_of_getElem? (i := 609) (by decide +kernel), rfl⟩
set_option maxRecDepth 100000 in
theorem w610 : Cond.code yX7_doneBy cX7_doneBy 4 (some .int) ∈ xBW := xBW_of ⟨List.mem_of_getElem? (i := 610) rfl, rfl⟩
theorem w611 : Cond.methodLink RX7 39 yX3_selves ∈ xBW := xBW_of ⟨List.mem_of_getElem? (i := 611) (by decide +kernel), rfl⟩
theorem w612 : Cond.methodLink RX7 45 yX3_spotAt ∈ xBW := xBW_of ⟨List.mem_of_getElem? (i := 612) (by decide +kernel), rfl⟩
theorem w613 : Cond.methodLink RX7 48 yX7_doneAt ∈ xBW := xBW_of ⟨List.mem_of_getElem? (i := 613) (by decide +kernel), rfl⟩
theorem w614 : Cond.instanceMethod yX7_doneAt ∈ xBW := xBW_of ⟨List.mem_of_getElem? (i := 614) (by decide +kernel), rfl⟩
theorem w615 : Cond.selects RX7 yX7_doneAt yX7_doneAt ∈ xBW := xBW_of ⟨List.mem_of_getElem? (i := 615) (by decide +kernel), rfl⟩
set_option maxRecDepth 100000 in
theorem w616 : Cond.code yX7_doneAt cX7_doneAt 6 (some .int) ∈ xBW := xBW_of ⟨List.mem_of_getElem? (i := 616) rfl, rfl⟩
theorem w617 : Cond.methodLinkNest RX7 32 yX9_minuteOf "HourAgo" ∈ lw_tbl := List.mem_of_getElem? (i := 617) (by decide +kernel)
theorem w618 : Cond.methodLinkNest RX7 36 yX9_roomOf "HourAgo" ∈ lw_tbl := List.mem_of_getElem? (i := 618) (by decide +kernel)
theorem w619 : Cond.methodLink RL 88 yX9_shortest ∈ xBW := xBW_of ⟨List.mem_of_getElem? (i := 619) (by decide +kernel), rfl⟩
theorem w620 : Cond.instanceMethod yX9_shortest ∈ xBW := xBW_of ⟨List.mem_of_getElem? (i := 620) (by decide +kernel), rfl⟩
theorem w621 : Cond.selects RX9 yX9_shortest yX9_shortest ∈ xBW := xBW_of ⟨List.mem_of_getElem? (i := 621) (by decide +kernel), rfl⟩
set_option maxRecDepth 100000 in
theorem w622 : Cond.code yX9_shortest cX9_shortest 6 (some .int) ∈ xBW := xBW_of ⟨List.mem_of_getElem? (i := 622) rfl, rfl⟩
theorem w623 : Cond.methodLink RX9 214 yX7_size ∈ xBW := xBW_of ⟨List.mem_of_getElem? (i := 623) (by decide +kernel), rfl⟩
theorem w624 : Cond.instanceMethod yX7_size ∈ xBW := xBW_of ⟨List.mem_of_getElem? (i := 624) (by decide +kernel), rfl⟩
theorem w625 : Cond.selects RX7 yX7_size yX7_size ∈ xBW := xBW_of ⟨List.mem_of_getElem? (i := 625) (by decide +kernel), rfl⟩
set_option maxRecDepth 100000 in
theorem w626 : Cond.code yX7_size cX7_size 1 (some .int) ∈ xBW := xBW_of ⟨List.mem_of_getElem? (i := 626) rfl, rfl⟩
theorem w627 : Cond.methodLink RX9 220 yX6_begin ∈ xBW := xBW_of ⟨List.mem_of_getElem? (i := 627) (by decide +kernel), rfl⟩
theorem w628 : Cond.instanceMethod yX6_begin ∈ xBW := xBW_of ⟨List.mem_of_getElem? (i := 628) (by decide +kernel), rfl⟩
theorem w629 : Cond.selects RX6 yX6_begin yX6_begin ∈ xBW := xBW_of ⟨List.mem_of_getElem? (i := 629) (by decide +kernel), rfl⟩
set_option maxRecDepth 100000 in
theorem w630 : Cond.code yX6_begin cX6_begin 6 none ∈ xBW := xBW_of ⟨List.mem_of_getElem? (i := 630) rfl, rfl⟩
theorem w631 : Cond.methodLink RX6 34 yX7_doneAt ∈ xBW := xBW_of ⟨List.mem_of_getElem? (i := 631) (by decide +kernel), rfl⟩
theorem w632 : Cond.methodLink RX9 223 yX6_look ∈ xBW := xBW_of ⟨List.mem_of_getElem? (i := 632) (by decide +kernel), rfl⟩
theorem w633 : Cond.instanceMethod yX6_look ∈ xBW := xBW_of ⟨List.mem_of_getElem? (i := 633) (by decide +kernel), rfl⟩
theorem w634 : Cond.selects RX6 yX6_look yX6_look ∈ xBW := xBW_of ⟨List.mem_of_getElem? (i := 634) (by decide +kernel), rfl⟩
set_option maxRecDepth 100000 in
theorem w635 : Cond.code yX6_look cX6_look 4 none ∈ xBW := xBW_of ⟨List.mem_of_getElem? (i := 635) rfl, rfl⟩
theorem w636 : Cond.methodLink RX6 40 yX6_reachFrom ∈ xBW := xBW_of ⟨List.mem_of_getElem? (i := 636) (by decide +kernel), rfl⟩
theorem w637 : Cond.static yX6_reachFrom ∈ xBW := xBW_of ⟨List.mem_of_getElem? (i := 637) (by decide +kernel), rfl⟩
set_option maxRecDepth 100000 in
theorem w638 : Cond.code yX6_reachFrom cX6_reachFrom 7 (some .int) ∈ xBW := xBW_of ⟨List.mem_of_getElem? (i := 638) rfl, rfl⟩
theorem w639 : Cond.methodLink RX6 52 yX1_spotAfter ∈ xBW := xBW_of ⟨List.mem_of_getElem? (i := 639) (by decide +kernel), rfl⟩
theorem w640 : Cond.methodLink RX6 44 yX6_covers ∈ xBW := xBW_of ⟨List.mem_of_getElem? (i := 640) (by decide +kernel), rfl⟩
theorem w642 : Cond.instanceMethod yX6_covers ∈ xBW := xBW_of ⟨List.mem_of_getElem? (i := 642) (by decide +kernel), rfl⟩
set_option maxRecDepth 100000 in
theorem w643 : Cond.code yX6_covers cX6_covers 2 (some .boolean) ∈ xBW := xBW_of ⟨List.mem_of_getElem? (i := 643) rfl, rfl⟩
theorem w644 : Cond.methodLink RX6 48 yX6_finishes ∈ xBW := xBW_of ⟨List.mem_of_getElem? (i := 644) (by decide +kernel), rfl⟩
theorem w645 : Cond.static yX6_finishes ∈ xBW := xBW_of ⟨List.mem_of_getElem? (i := 645) (by decide +kernel), rfl⟩
set_option maxRecDepth 100000 in
theorem w646 : Cond.code yX6_finishes cX6_finishes 9 (some .boolean) ∈ xBW := xBW_of ⟨List.mem_of_getElem? (i := 646) rfl, rfl⟩
theorem w647 : Cond.methodLink RX6 58 yX6_isMetAt ∈ xBW := xBW_of ⟨List.mem_of_getElem? (i := 647) (by decide +kernel), rfl⟩
theorem w649 : Cond.instanceMethod yX6_isMetAt ∈ xBW := xBW_of ⟨List.mem_of_getElem? (i := 649) (by decide +kernel), rfl⟩
set_option maxRecDepth 100000 in
theorem w650 : Cond.code yX6_isMetAt cX6_isMetAt 5 (some .boolean) ∈ xBW := xBW_of ⟨List.mem_of_getElem? (i := 650) rfl, rfl⟩
theorem w651 : Cond.methodLinkNest RX6 69 yX9_minuteOf "HourAgo" ∈ lw_tbl := List.mem_of_getElem? (i := 651) (by decide +kernel)
theorem w652 : Cond.methodLinkNest RX6 72 yX9_roomOf "HourAgo" ∈ lw_tbl := List.mem_of_getElem? (i := 652) (by decide +kernel)
theorem w653 : Cond.methodLink RX6 75 yX1_meetingRooms ∈ xBW := xBW_of ⟨List.mem_of_getElem? (i := 653) (by decide +kernel), rfl⟩
theorem w654 : Cond.methodLink RX6 62 yX6_enter ∈ xBW := xBW_of ⟨List.mem_of_getElem? (i := 654) (by decide +kernel), rfl⟩
theorem w656 : Cond.instanceMethod yX6_enter ∈ xBW := xBW_of ⟨List.mem_of_getElem? (i := 656) (by decide +kernel), rfl⟩
set_option maxRecDepth 100000 in
theorem w657 : Cond.code yX6_enter cX6_enter 3 none ∈ xBW := xBW_of ⟨List.mem_of_getElem? (i := 657) rfl, rfl⟩
theorem w658 : Cond.methodLink RX6 66 yX6_leave ∈ xBW := xBW_of ⟨List.mem_of_getElem? (i := 658) (by decide +kernel), rfl⟩
theorem w660 : Cond.instanceMethod yX6_leave ∈ xBW := xBW_of ⟨List.mem_of_getElem? (i := 660) (by decide +kernel), rfl⟩
set_option maxRecDepth 100000 in
theorem w661 : Cond.code yX6_leave cX6_leave 3 none ∈ xBW := xBW_of ⟨List.mem_of_getElem? (i := 661) rfl, rfl⟩
theorem w662 : Cond.methodLink RX9 227 yX6_steps ∈ xBW := xBW_of ⟨List.mem_of_getElem? (i := 662) (by decide +kernel), rfl⟩
theorem w663 : Cond.instanceMethod yX6_steps ∈ xBW := xBW_of ⟨List.mem_of_getElem? (i := 663) (by decide +kernel), rfl⟩
theorem w664 : Cond.selects RX6 yX6_steps yX6_steps ∈ xBW := xBW_of ⟨List.mem_of_getElem? (i := 664) (by decide +kernel), rfl⟩
set_option maxRecDepth 100000 in
theorem w665 : Cond.code yX6_steps cX6_steps 1 (some .int) ∈ xBW := xBW_of ⟨List.mem_of_getElem? (i := 665) rfl, rfl⟩
theorem w666 : Cond.methodLink RX9 230 yX6_firstStep ∈ xBW := xBW_of ⟨List.mem_of_getElem? (i := 666) (by decide +kernel), rfl⟩
theorem w667 : Cond.instanceMethod yX6_firstStep ∈ xBW := xBW_of ⟨List.mem_of_getElem? (i := 667) (by decide +kernel), rfl⟩
theorem w668 : Cond.selects RX6 yX6_firstStep yX6_firstStep ∈ xBW := xBW_of ⟨List.mem_of_getElem? (i := 668) (by decide +kernel), rfl⟩
set_option maxRecDepth 100000 in
theorem w669 : Cond.code yX6_firstStep cX6_firstStep 1 (some .int) ∈ xBW := xBW_of ⟨List.mem_of_getElem? (i := 669) rfl, rfl⟩
theorem w670 : Cond.methodLink RL 93 yX9_glimpse ∈ xBW := xBW_of ⟨List.mem_of_getElem? (i := 670) (by decide +kernel), rfl⟩
theorem w671 : Cond.instanceMethod yX9_glimpse ∈ xBW := xBW_of ⟨List.mem_of_getElem? (i := 671) (by decide +kernel), rfl⟩
theorem w672 : Cond.selects RX9 yX9_glimpse yX9_glimpse ∈ xBW := xBW_of ⟨List.mem_of_getElem? (i := 672) (by decide +kernel), rfl⟩
set_option maxRecDepth 100000 in
theorem w673 : Cond.code yX9_glimpse cX9_glimpse 3 (some .int) ∈ xBW := xBW_of ⟨List.mem_of_getElem? (i := 673) rfl, rfl⟩
theorem w674 : Cond.methodLink RX9 233 yX0_add ∈ xBW := xBW_of ⟨List.mem_of_getElem? (i := 674) (by decide +kernel), rfl⟩
theorem w675 : Cond.instanceMethod yX0_add ∈ xBW := xBW_of ⟨List.mem_of_getElem? (i := 675) (by decide +kernel), rfl⟩
theorem w676 : Cond.selects RX0 yX0_add yX0_add ∈ xBW := xBW_of ⟨List.mem_of_getElem? (i := 676) (by decide +kernel), rfl⟩
set_option maxRecDepth 100000 in
theorem w677 : Cond.code yX0_add cX0_add 2 (some .int) ∈ xBW := xBW_of ⟨List.mem_of_getElem? (i := 677) rfl, rfl⟩
theorem w678 : Cond.methodLink RL 97 yX9_forget ∈ xBW := xBW_of ⟨List.mem_of_getElem? (i := 678) (by decide +kernel), rfl⟩
theorem w679 : Cond.instanceMethod yX9_forget ∈ xBW := xBW_of ⟨List.mem_of_getElem? (i := 679) (by decide +kernel), rfl⟩
theorem w680 : Cond.selects RX9 yX9_forget yX9_forget ∈ xBW := xBW_of ⟨List.mem_of_getElem? (i := 680) (by decide +kernel), rfl⟩
set_option maxRecDepth 100000 in
theorem w681 : Cond.code yX9_forget cX9_forget 2 (some .int) ∈ xBW := xBW_of ⟨List.mem_of_getElem? (i := 681) rfl, rfl⟩
theorem w682 : Cond.methodLink RX9 235 yX0_size ∈ xBW := xBW_of ⟨List.mem_of_getElem? (i := 682) (by decide +kernel), rfl⟩
theorem w683 : Cond.instanceMethod yX0_size ∈ xBW := xBW_of ⟨List.mem_of_getElem? (i := 683) (by decide +kernel), rfl⟩
theorem w684 : Cond.selects RX0 yX0_size yX0_size ∈ xBW := xBW_of ⟨List.mem_of_getElem? (i := 684) (by decide +kernel), rfl⟩
set_option maxRecDepth 100000 in
theorem w685 : Cond.code yX0_size cX0_size 1 (some .int) ∈ xBW := xBW_of ⟨List.mem_of_getElem? (i := 685) rfl, rfl⟩
theorem w686 : Cond.methodLink RL 101 yX9_whose ∈ xBW := xBW_of ⟨List.mem_of_getElem? (i := 686) (by decide +kernel), rfl⟩
theorem w687 : Cond.instanceMethod yX9_whose ∈ xBW := xBW_of ⟨List.mem_of_getElem? (i := 687) (by decide +kernel), rfl⟩
theorem w688 : Cond.selects RX9 yX9_whose yX9_whose ∈ xBW := xBW_of ⟨List.mem_of_getElem? (i := 688) (by decide +kernel), rfl⟩
set_option maxRecDepth 100000 in
theorem w689 : Cond.code yX9_whose cX9_whose 4 (some .int) ∈ xBW := xBW_of ⟨List.mem_of_getElem? (i := 689) rfl, rfl⟩
theorem w690 : Cond.methodLink RX9 236 yX0_areAllOf ∈ xBW := xBW_of ⟨List.mem_of_getElem? (i := 690) (by decide +kernel), rfl⟩
theorem w691 : Cond.instanceMethod yX0_areAllOf ∈ xBW := xBW_of ⟨List.mem_of_getElem? (i := 691) (by decide +kernel), rfl⟩
theorem w692 : Cond.selects RX0 yX0_areAllOf yX0_areAllOf ∈ xBW := xBW_of ⟨List.mem_of_getElem? (i := 692) (by decide +kernel), rfl⟩
set_option maxRecDepth 100000 in
theorem w693 : Cond.code yX0_areAllOf cX0_areAllOf 3 (some .boolean) ∈ xBW := xBW_of ⟨List.mem_of_getElem? (i := 693) rfl, rfl⟩
theorem w694 : Cond.methodLink RX0 26 yX3_selvesAt ∈ xBW := xBW_of ⟨List.mem_of_getElem? (i := 694) (by decide +kernel), rfl⟩
theorem w695 : Cond.methodLink RL 105 yX9_pair ∈ xBW := xBW_of ⟨List.mem_of_getElem? (i := 695) (by decide +kernel), rfl⟩
theorem w696 : Cond.instanceMethod yX9_pair ∈ xBW := xBW_of ⟨List.mem_of_getElem? (i := 696) (by decide +kernel), rfl⟩
theorem w697 : Cond.selects RX9 yX9_pair yX9_pair ∈ xBW := xBW_of ⟨List.mem_of_getElem? (i := 697) (by decide +kernel), rfl⟩
set_option maxRecDepth 100000 in
theorem w698 : Cond.code yX9_pair cX9_pair 5 (some .int) ∈ xBW := xBW_of ⟨List.mem_of_getElem? (i := 698) rfl, rfl⟩
theorem w699 : Cond.methodLink RX9 240 yX0_waysBetween ∈ xBW := xBW_of ⟨List.mem_of_getElem? (i := 699) (by decide +kernel), rfl⟩
theorem w700 : Cond.instanceMethod yX0_waysBetween ∈ xBW := xBW_of ⟨List.mem_of_getElem? (i := 700) (by decide +kernel), rfl⟩
theorem w701 : Cond.selects RX0 yX0_waysBetween yX0_waysBetween ∈ xBW := xBW_of ⟨List.mem_of_getElem? (i := 701) (by decide +kernel), rfl⟩
set_option maxRecDepth 100000 in
theorem w702 : Cond.code yX0_waysBetween cX0_waysBetween 6 (some .int) ∈ xBW := xBW_of ⟨List.mem_of_getElem? (i := 702) rfl, rfl⟩
theorem w703 : Cond.methodLink RL 109 yX9_lives ∈ xBW := xBW_of ⟨List.mem_of_getElem? (i := 703) (by decide +kernel), rfl⟩
theorem w704 : Cond.instanceMethod yX9_lives ∈ xBW := xBW_of ⟨List.mem_of_getElem? (i := 704) (by decide +kernel), rfl⟩
theorem w705 : Cond.selects RX9 yX9_lives yX9_lives ∈ xBW := xBW_of ⟨List.mem_of_getElem? (i := 705) (by decide +kernel), rfl⟩
set_option maxRecDepth 100000 in
theorem w706 : Cond.code yX9_lives cX9_lives 6 (some .int) ∈ xBW := xBW_of ⟨List.mem_of_getElem? (i := 706) rfl, rfl⟩
theorem w707 : Cond.methodLink RX9 244 yX8_begin ∈ xBW := xBW_of ⟨List.mem_of_getElem? (i := 707) (by decide +kernel), rfl⟩
theorem w708 : Cond.instanceMethod yX8_begin ∈ xBW := xBW_of ⟨List.mem_of_getElem? (i := 708) (by decide +kernel), rfl⟩
theorem w709 : Cond.selects RX8 yX8_begin yX8_begin ∈ xBW := xBW_of ⟨List.mem_of_getElem? (i := 709) (by decide +kernel), rfl⟩
set_option maxRecDepth 100000 in
theorem w710 : Cond.code yX8_begin cX8_begin 3 none ∈ xBW := xBW_of ⟨List.mem_of_getElem? (i := 710) rfl, rfl⟩
theorem w711 : Cond.methodLink RX9 247 yX8_go ∈ xBW := xBW_of ⟨List.mem_of_getElem? (i := 711) (by decide +kernel), rfl⟩
theorem w712 : Cond.instanceMethod yX8_go ∈ xBW := xBW_of ⟨List.mem_of_getElem? (i := 712) (by decide +kernel), rfl⟩
theorem w713 : Cond.selects RX8 yX8_go yX8_go ∈ xBW := xBW_of ⟨List.mem_of_getElem? (i := 713) (by decide +kernel), rfl⟩
set_option maxRecDepth 100000 in
theorem w714 : Cond.code yX8_go cX8_go 6 none ∈ xBW := xBW_of ⟨List.mem_of_getElem? (i := 714) rfl, rfl⟩
theorem w715 : Cond.methodLink RX8 21 yX8_waysOn ∈ xBW := xBW_of ⟨List.mem_of_getElem? (i := 715) (by decide +kernel), rfl⟩
theorem w717 : Cond.instanceMethod yX8_waysOn ∈ xBW := xBW_of ⟨List.mem_of_getElem? (i := 717) (by decide +kernel), rfl⟩
set_option maxRecDepth 100000 in
theorem w718 : Cond.code yX8_waysOn cX8_waysOn 5 (some .int) ∈ xBW := xBW_of ⟨List.mem_of_getElem? (i := 718) rfl, rfl⟩
theorem w719 : Cond.methodLink RX8 39 yX1_spotAfter ∈ xBW := xBW_of ⟨List.mem_of_getElem? (i := 719) (by decide +kernel), rfl⟩
theorem w720 : Cond.methodLink RX8 25 yX8_draw ∈ xBW := xBW_of ⟨List.mem_of_getElem? (i := 720) (by decide +kernel), rfl⟩
theorem w722 : Cond.instanceMethod yX8_draw ∈ xBW := xBW_of ⟨List.mem_of_getElem? (i := 722) (by decide +kernel), rfl⟩
set_option maxRecDepth 100000 in
theorem w723 : Cond.code yX8_draw cX8_draw 2 (some .int) ∈ xBW := xBW_of ⟨List.mem_of_getElem? (i := 723) rfl, rfl⟩
theorem w724 : Cond.constantLong RX8 45 (1103515245) ∈ xBW := xBW_of ⟨List.mem_of_getElem? (i := 724) (by decide +kernel), rfl⟩
theorem w725 : Cond.constantLong RX8 47 (12345) ∈ xBW := xBW_of ⟨List.mem_of_getElem? (i := 725) (by decide +kernel), rfl⟩
theorem w726 : Cond.constantLong RX8 49 (2147483647) ∈ xBW := xBW_of ⟨List.mem_of_getElem? (i := 726) (by decide +kernel), rfl⟩
theorem w727 : Cond.constant RX8 51 (65536) ∈ xBW := xBW_of ⟨List.mem_of_getElem? (i := 727) (by decide +kernel), rfl⟩
theorem w728 : Cond.methodLink RX8 29 yX8_take ∈ xBW := xBW_of ⟨List.mem_of_getElem? (i := 728) (by decide +kernel), rfl⟩
theorem w730 : Cond.instanceMethod yX8_take ∈ xBW := xBW_of ⟨List.mem_of_getElem? (i := 730) (by decide +kernel), rfl⟩
set_option maxRecDepth 100000 in
theorem w731 : Cond.code yX8_take cX8_take 7 none ∈ xBW := xBW_of ⟨List.mem_of_getElem? (i := 731) rfl, rfl⟩
theorem w732 : Cond.methodLink RX9 251 yX8_tell ∈ xBW := xBW_of ⟨List.mem_of_getElem? (i := 732) (by decide +kernel), rfl⟩
theorem w733 : Cond.instanceMethod yX8_tell ∈ xBW := xBW_of ⟨List.mem_of_getElem? (i := 733) (by decide +kernel), rfl⟩
theorem w734 : Cond.selects RX8 yX8_tell yX8_tell ∈ xBW := xBW_of ⟨List.mem_of_getElem? (i := 734) (by decide +kernel), rfl⟩
set_option maxRecDepth 100000 in
theorem w735 : Cond.code yX8_tell cX8_tell 2 (some .int) ∈ xBW := xBW_of ⟨List.mem_of_getElem? (i := 735) rfl, rfl⟩
theorem w736 : Cond.methodLinkNest RX8 33 yX9_minuteOf "HourAgo" ∈ lw_tbl := List.mem_of_getElem? (i := 736) (by decide +kernel)
theorem w737 : Cond.methodLinkNest RX8 36 yX9_roomOf "HourAgo" ∈ lw_tbl := List.mem_of_getElem? (i := 737) (by decide +kernel)
theorem w738 : Cond.methodLink RL 113 yX9_image ∈ xBW := xBW_of ⟨List.mem_of_getElem? (i := 738) (by decide +kernel), rfl⟩
theorem w739 : Cond.instanceMethod yX9_image ∈ xBW := xBW_of ⟨List.mem_of_getElem? (i := 739) (by decide +kernel), rfl⟩
theorem w740 : Cond.selects RX9 yX9_image yX9_image ∈ xBW := xBW_of ⟨List.mem_of_getElem? (i := 740) (by decide +kernel), rfl⟩
set_option maxRecDepth 100000 in
theorem w741 : Cond.code yX9_image cX9_image 2 (some .int) ∈ xBW := xBW_of ⟨List.mem_of_getElem? (i := 741) rfl, rfl⟩
theorem w742 : Cond.methodLink RX9 254 yX2_keep ∈ xBW := xBW_of ⟨List.mem_of_getElem? (i := 742) (by decide +kernel), rfl⟩
theorem w743 : Cond.instanceMethod yX2_keep ∈ xBW := xBW_of ⟨List.mem_of_getElem? (i := 743) (by decide +kernel), rfl⟩
theorem w744 : Cond.selects RX2 yX2_keep yX2_keep ∈ xBW := xBW_of ⟨List.mem_of_getElem? (i := 744) (by decide +kernel), rfl⟩
set_option maxRecDepth 100000 in
theorem w745 : Cond.code yX2_keep cX2_keep 4 none ∈ xBW := xBW_of ⟨List.mem_of_getElem? (i := 745) rfl, rfl⟩
theorem w746 : Cond.methodLink RX2 40 yX7_copyFrom ∈ xBW := xBW_of ⟨List.mem_of_getElem? (i := 746) (by decide +kernel), rfl⟩
theorem w747 : Cond.instanceMethod yX7_copyFrom ∈ xBW := xBW_of ⟨List.mem_of_getElem? (i := 747) (by decide +kernel), rfl⟩
theorem w748 : Cond.selects RX7 yX7_copyFrom yX7_copyFrom ∈ xBW := xBW_of ⟨List.mem_of_getElem? (i := 748) (by decide +kernel), rfl⟩
set_option maxRecDepth 100000 in
theorem w749 : Cond.code yX7_copyFrom cX7_copyFrom 3 none ∈ xBW := xBW_of ⟨List.mem_of_getElem? (i := 749) rfl, rfl⟩
theorem w750 : Cond.methodLink RX7 25 yX7_clear ∈ xBW := xBW_of ⟨List.mem_of_getElem? (i := 750) (by decide +kernel), rfl⟩
theorem w751 : Cond.methodLink RX7 28 yX7_add ∈ xBW := xBW_of ⟨List.mem_of_getElem? (i := 751) (by decide +kernel), rfl⟩
theorem w752 : Cond.methodLink RX2 44 yX0_copyFrom ∈ xBW := xBW_of ⟨List.mem_of_getElem? (i := 752) (by decide +kernel), rfl⟩
theorem w753 : Cond.instanceMethod yX0_copyFrom ∈ xBW := xBW_of ⟨List.mem_of_getElem? (i := 753) (by decide +kernel), rfl⟩
theorem w754 : Cond.selects RX0 yX0_copyFrom yX0_copyFrom ∈ xBW := xBW_of ⟨List.mem_of_getElem? (i := 754) (by decide +kernel), rfl⟩
set_option maxRecDepth 100000 in
theorem w755 : Cond.code yX0_copyFrom cX0_copyFrom 3 none ∈ xBW := xBW_of ⟨List.mem_of_getElem? (i := 755) rfl, rfl⟩
theorem w756 : Cond.methodLink RX0 19 yX0_clear ∈ xBW := xBW_of ⟨List.mem_of_getElem? (i := 756) (by decide +kernel), rfl⟩
theorem w757 : Cond.methodLink RX0 22 yX0_add ∈ xBW := xBW_of ⟨List.mem_of_getElem? (i := 757) (by decide +kernel), rfl⟩
theorem w758 : Cond.methodLink RX9 258 yX2_personAt ∈ xBW := xBW_of ⟨List.mem_of_getElem? (i := 758) (by decide +kernel), rfl⟩
theorem w759 : Cond.instanceMethod yX2_personAt ∈ xBW := xBW_of ⟨List.mem_of_getElem? (i := 759) (by decide +kernel), rfl⟩
theorem w760 : Cond.selects RX2 yX2_personAt yX2_personAt ∈ xBW := xBW_of ⟨List.mem_of_getElem? (i := 760) (by decide +kernel), rfl⟩
set_option maxRecDepth 100000 in
theorem w761 : Cond.code yX2_personAt cX2_personAt 2 (some (.object "HourAgo$Person")) ∈ xBW := xBW_of ⟨List.mem_of_getElem? (i := 761) rfl, rfl⟩
theorem w762 : Cond.methodLink RX9 259 yX9_copyLife ∈ xBW := xBW_of ⟨List.mem_of_getElem? (i := 762) (by decide +kernel), rfl⟩
theorem w763 : Cond.static yX9_copyLife ∈ xBW := xBW_of ⟨List.mem_of_getElem? (i := 763) (by decide +kernel), rfl⟩
set_option maxRecDepth 100000 in
theorem w764 : Cond.code yX9_copyLife cX9_copyLife 2 none ∈ xBW := xBW_of ⟨List.mem_of_getElem? (i := 764) rfl, rfl⟩
theorem w765 : Cond.methodLink RL 117 yX9_restore ∈ xBW := xBW_of ⟨List.mem_of_getElem? (i := 765) (by decide +kernel), rfl⟩
theorem w766 : Cond.instanceMethod yX9_restore ∈ xBW := xBW_of ⟨List.mem_of_getElem? (i := 766) (by decide +kernel), rfl⟩
theorem w767 : Cond.selects RX9 yX9_restore yX9_restore ∈ xBW := xBW_of ⟨List.mem_of_getElem? (i := 767) (by decide +kernel), rfl⟩
set_option maxRecDepth 100000 in
theorem w768 : Cond.code yX9_restore cX9_restore 2 (some .int) ∈ xBW := xBW_of ⟨List.mem_of_getElem? (i := 768) rfl, rfl⟩
theorem w769 : Cond.methodLink RX9 263 yX2_isOf ∈ xBW := xBW_of ⟨List.mem_of_getElem? (i := 769) (by decide +kernel), rfl⟩
theorem w770 : Cond.instanceMethod yX2_isOf ∈ xBW := xBW_of ⟨List.mem_of_getElem? (i := 770) (by decide +kernel), rfl⟩
theorem w771 : Cond.selects RX2 yX2_isOf yX2_isOf ∈ xBW := xBW_of ⟨List.mem_of_getElem? (i := 771) (by decide +kernel), rfl⟩
set_option maxRecDepth 100000 in
theorem w772 : Cond.code yX2_isOf cX2_isOf 2 (some .boolean) ∈ xBW := xBW_of ⟨List.mem_of_getElem? (i := 772) rfl, rfl⟩
theorem w773 : Cond.methodLink RX9 266 yX2_giveBack ∈ xBW := xBW_of ⟨List.mem_of_getElem? (i := 773) (by decide +kernel), rfl⟩
theorem w774 : Cond.instanceMethod yX2_giveBack ∈ xBW := xBW_of ⟨List.mem_of_getElem? (i := 774) (by decide +kernel), rfl⟩
theorem w775 : Cond.selects RX2 yX2_giveBack yX2_giveBack ∈ xBW := xBW_of ⟨List.mem_of_getElem? (i := 775) (by decide +kernel), rfl⟩
set_option maxRecDepth 100000 in
theorem w776 : Cond.code yX2_giveBack cX2_giveBack 3 none ∈ xBW := xBW_of ⟨List.mem_of_getElem? (i := 776) rfl, rfl⟩
theorem w777 : Cond.methodLink RL 121 yX9_count ∈ xBW := xBW_of ⟨List.mem_of_getElem? (i := 777) (by decide +kernel), rfl⟩
theorem w778 : Cond.instanceMethod yX9_count ∈ xBW := xBW_of ⟨List.mem_of_getElem? (i := 778) (by decide +kernel), rfl⟩
theorem w779 : Cond.selects RX9 yX9_count yX9_count ∈ xBW := xBW_of ⟨List.mem_of_getElem? (i := 779) (by decide +kernel), rfl⟩
set_option maxRecDepth 100000 in
theorem w780 : Cond.code yX9_count cX9_count 2 (some .int) ∈ xBW := xBW_of ⟨List.mem_of_getElem? (i := 780) rfl, rfl⟩
theorem w781 : Cond.methodLink RX9 270 yX1_sights ∈ xBW := xBW_of ⟨List.mem_of_getElem? (i := 781) (by decide +kernel), rfl⟩
theorem w782 : Cond.instanceMethod yX1_sights ∈ xBW := xBW_of ⟨List.mem_of_getElem? (i := 782) (by decide +kernel), rfl⟩
theorem w783 : Cond.selects RX1 yX1_sights yX1_sights ∈ xBW := xBW_of ⟨List.mem_of_getElem? (i := 783) (by decide +kernel), rfl⟩
set_option maxRecDepth 100000 in
theorem w784 : Cond.code yX1_sights cX1_sights 1 (some .int) ∈ xBW := xBW_of ⟨List.mem_of_getElem? (i := 784) rfl, rfl⟩
theorem w785 : Cond.methodLink RX9 273 yX1_back ∈ xBW := xBW_of ⟨List.mem_of_getElem? (i := 785) (by decide +kernel), rfl⟩
theorem w786 : Cond.instanceMethod yX1_back ∈ xBW := xBW_of ⟨List.mem_of_getElem? (i := 786) (by decide +kernel), rfl⟩
theorem w787 : Cond.selects RX1 yX1_back yX1_back ∈ xBW := xBW_of ⟨List.mem_of_getElem? (i := 787) (by decide +kernel), rfl⟩
set_option maxRecDepth 100000 in
theorem w788 : Cond.code yX1_back cX1_back 1 (some .int) ∈ xBW := xBW_of ⟨List.mem_of_getElem? (i := 788) rfl, rfl⟩
theorem w789 : Cond.methodLink RX9 276 yX1_lowRoom ∈ xBW := xBW_of ⟨List.mem_of_getElem? (i := 789) (by decide +kernel), rfl⟩
theorem w790 : Cond.instanceMethod yX1_lowRoom ∈ xBW := xBW_of ⟨List.mem_of_getElem? (i := 790) (by decide +kernel), rfl⟩
theorem w791 : Cond.selects RX1 yX1_lowRoom yX1_lowRoom ∈ xBW := xBW_of ⟨List.mem_of_getElem? (i := 791) (by decide +kernel), rfl⟩
set_option maxRecDepth 100000 in
theorem w792 : Cond.code yX1_lowRoom cX1_lowRoom 1 (some .int) ∈ xBW := xBW_of ⟨List.mem_of_getElem? (i := 792) rfl, rfl⟩
theorem w793 : Cond.methodLink RL 125 yX9_digest ∈ xBW := xBW_of ⟨List.mem_of_getElem? (i := 793) (by decide +kernel), rfl⟩
theorem w794 : Cond.instanceMethod yX9_digest ∈ xBW := xBW_of ⟨List.mem_of_getElem? (i := 794) (by decide +kernel), rfl⟩
theorem w795 : Cond.selects RX9 yX9_digest yX9_digest ∈ xBW := xBW_of ⟨List.mem_of_getElem? (i := 795) (by decide +kernel), rfl⟩
set_option maxRecDepth 100000 in
theorem w796 : Cond.code yX9_digest cX9_digest 4 (some .long) ∈ xBW := xBW_of ⟨List.mem_of_getElem? (i := 796) rfl, rfl⟩
theorem w797 : Cond.constantLong RX9 279 (683) ∈ xBW := xBW_of ⟨List.mem_of_getElem? (i := 797) (by decide +kernel), rfl⟩
theorem w798 : Cond.methodLink RX9 281 yX9_digestOfHouse ∈ xBW := xBW_of ⟨List.mem_of_getElem? (i := 798) (by decide +kernel), rfl⟩
theorem w800 : Cond.instanceMethod yX9_digestOfHouse ∈ xBW := xBW_of ⟨List.mem_of_getElem? (i := 800) (by decide +kernel), rfl⟩
set_option maxRecDepth 100000 in
theorem w801 : Cond.code yX9_digestOfHouse cX9_digestOfHouse 7 (some .long) ∈ xBW := xBW_of ⟨List.mem_of_getElem? (i := 801) rfl, rfl⟩
theorem w802 : Cond.methodLink RX9 305 yX9_between ∈ xBW := xBW_of ⟨List.mem_of_getElem? (i := 802) (by decide +kernel), rfl⟩
theorem w803 : Cond.methodLink RX9 295 yX9_mixed ∈ xBW := xBW_of ⟨List.mem_of_getElem? (i := 803) (by decide +kernel), rfl⟩
theorem w804 : Cond.static yX9_mixed ∈ xBW := xBW_of ⟨List.mem_of_getElem? (i := 804) (by decide +kernel), rfl⟩
set_option maxRecDepth 100000 in
theorem w805 : Cond.code yX9_mixed cX9_mixed 4 (some .long) ∈ xBW := xBW_of ⟨List.mem_of_getElem? (i := 805) rfl, rfl⟩
theorem w806 : Cond.constantLong RX9 329 (31) ∈ xBW := xBW_of ⟨List.mem_of_getElem? (i := 806) (by decide +kernel), rfl⟩
theorem w807 : Cond.methodLink RX9 308 yX9_locked ∈ xBW := xBW_of ⟨List.mem_of_getElem? (i := 807) (by decide +kernel), rfl⟩
theorem w808 : Cond.methodLink RX9 285 yX9_digestOfPerson ∈ xBW := xBW_of ⟨List.mem_of_getElem? (i := 808) (by decide +kernel), rfl⟩
theorem w810 : Cond.instanceMethod yX9_digestOfPerson ∈ xBW := xBW_of ⟨List.mem_of_getElem? (i := 810) (by decide +kernel), rfl⟩
set_option maxRecDepth 100000 in
theorem w811 : Cond.code yX9_digestOfPerson cX9_digestOfPerson 7 (some .long) ∈ xBW := xBW_of ⟨List.mem_of_getElem? (i := 811) rfl, rfl⟩
theorem w812 : Cond.methodLink RX9 311 yX9_about ∈ xBW := xBW_of ⟨List.mem_of_getElem? (i := 812) (by decide +kernel), rfl⟩
theorem w813 : Cond.methodLink RX9 314 yX9_met ∈ xBW := xBW_of ⟨List.mem_of_getElem? (i := 813) (by decide +kernel), rfl⟩
theorem w814 : Cond.methodLink RX9 317 yX9_most ∈ xBW := xBW_of ⟨List.mem_of_getElem? (i := 814) (by decide +kernel), rfl⟩
theorem w815 : Cond.methodLink RX9 320 yX9_done ∈ xBW := xBW_of ⟨List.mem_of_getElem? (i := 815) (by decide +kernel), rfl⟩
theorem w816 : Cond.methodLink RX9 289 yX9_digestOfPairs ∈ xBW := xBW_of ⟨List.mem_of_getElem? (i := 816) (by decide +kernel), rfl⟩
theorem w818 : Cond.instanceMethod yX9_digestOfPairs ∈ xBW := xBW_of ⟨List.mem_of_getElem? (i := 818) (by decide +kernel), rfl⟩
set_option maxRecDepth 100000 in
theorem w819 : Cond.code yX9_digestOfPairs cX9_digestOfPairs 7 (some .long) ∈ xBW := xBW_of ⟨List.mem_of_getElem? (i := 819) rfl, rfl⟩
theorem w820 : Cond.methodLink RX9 323 yX9_meet ∈ xBW := xBW_of ⟨List.mem_of_getElem? (i := 820) (by decide +kernel), rfl⟩
theorem w821 : Cond.methodLink RX9 326 yX9_pair ∈ xBW := xBW_of ⟨List.mem_of_getElem? (i := 821) (by decide +kernel), rfl⟩
theorem w822 : Cond.methodLink RX9 292 yX9_whose ∈ xBW := xBW_of ⟨List.mem_of_getElem? (i := 822) (by decide +kernel), rfl⟩
theorem w823 : Cond.methodLink RX9 299 yX4_at ∈ xBW := xBW_of ⟨List.mem_of_getElem? (i := 823) (by decide +kernel), rfl⟩
theorem w824 : Cond.methodLink RX9 302 yX9_count ∈ xBW := xBW_of ⟨List.mem_of_getElem? (i := 824) (by decide +kernel), rfl⟩
theorem w825 : Cond.classLink RL 10 RX10 ∈ xBW := xBW_of ⟨List.mem_of_getElem? (i := 825) (by decide +kernel), rfl⟩
theorem w826 : Cond.instantiable RX10 48 ∈ xBW := xBW_of ⟨List.mem_of_getElem? (i := 826) (by decide +kernel), rfl⟩
theorem w827 : Cond.methodLink RL 12 yX10_init ∈ xBW := xBW_of ⟨List.mem_of_getElem? (i := 827) (by decide +kernel), rfl⟩
theorem w828 : Cond.instanceMethod yX10_init ∈ xBW := xBW_of ⟨List.mem_of_getElem? (i := 828) (by decide +kernel), rfl⟩
set_option maxRecDepth 100000 in
theorem w829 : Cond.code yX10_init cX10_init 1 none ∈ xBW := xBW_of ⟨List.mem_of_getElem? (i := 829) rfl, rfl⟩
theorem w830 : Cond.methodLink RX10 1 objectInit ∈ xBW := xBW_of ⟨List.mem_of_getElem? (i := 830) (by decide +kernel), rfl⟩
theorem w831 : Cond.fieldLink RX10 7 "HourAgoModel" "page" "[I" ∈ xBW := xBW_of ⟨List.mem_of_getElem? (i := 831) (by decide +kernel), rfl⟩
theorem w832 : Cond.fieldLink RX10 91 "HourAgoModel" "pageMany" "I" ∈ xBW := xBW_of ⟨List.mem_of_getElem? (i := 832) (by decide +kernel), rfl⟩
theorem w833 : Cond.fieldLink RX10 13 "HourAgoModel" "readDoors" "[I" ∈ xBW := xBW_of ⟨List.mem_of_getElem? (i := 833) (by decide +kernel), rfl⟩
theorem w834 : Cond.fieldLink RX10 16 "HourAgoModel" "readSights" "[I" ∈ xBW := xBW_of ⟨List.mem_of_getElem? (i := 834) (by decide +kernel), rfl⟩
theorem w835 : Cond.fieldLink RX10 19 "HourAgoModel" "readOnes" "[I" ∈ xBW := xBW_of ⟨List.mem_of_getElem? (i := 835) (by decide +kernel), rfl⟩
theorem w836 : Cond.fieldLink RX10 22 "HourAgoModel" "readTwos" "[I" ∈ xBW := xBW_of ⟨List.mem_of_getElem? (i := 836) (by decide +kernel), rfl⟩
theorem w837 : Cond.fieldLink RX10 103 "HourAgoModel" "readMany" "I" ∈ xBW := xBW_of ⟨List.mem_of_getElem? (i := 837) (by decide +kernel), rfl⟩
theorem w838 : Cond.fieldLink RX10 106 "HourAgoModel" "readSightMany" "I" ∈ xBW := xBW_of ⟨List.mem_of_getElem? (i := 838) (by decide +kernel), rfl⟩
theorem w839 : Cond.fieldLink RX10 116 "HourAgoModel" "readRoom" "I" ∈ xBW := xBW_of ⟨List.mem_of_getElem? (i := 839) (by decide +kernel), rfl⟩
theorem w840 : Cond.fieldLink RX10 119 "HourAgoModel" "readBack" "I" ∈ xBW := xBW_of ⟨List.mem_of_getElem? (i := 840) (by decide +kernel), rfl⟩
theorem w841 : Cond.fieldLink RX10 100 "HourAgoModel" "readFirst" "I" ∈ xBW := xBW_of ⟨List.mem_of_getElem? (i := 841) (by decide +kernel), rfl⟩
theorem w842 : Cond.fieldLink RX10 109 "HourAgoModel" "state" "I" ∈ xBW := xBW_of ⟨List.mem_of_getElem? (i := 842) (by decide +kernel), rfl⟩
theorem w843 : Cond.fieldLink RX10 147 "HourAgoModel" "doors" "I" ∈ xBW := xBW_of ⟨List.mem_of_getElem? (i := 843) (by decide +kernel), rfl⟩
theorem w844 : Cond.fieldLink RX10 150 "HourAgoModel" "sightMany" "I" ∈ xBW := xBW_of ⟨List.mem_of_getElem? (i := 844) (by decide +kernel), rfl⟩
theorem w845 : Cond.fieldLink RX10 86 "HourAgoModel" "lowRoom" "I" ∈ xBW := xBW_of ⟨List.mem_of_getElem? (i := 845) (by decide +kernel), rfl⟩
theorem w846 : Cond.fieldLink RX10 153 "HourAgoModel" "back" "I" ∈ xBW := xBW_of ⟨List.mem_of_getElem? (i := 846) (by decide +kernel), rfl⟩
theorem w847 : Cond.fieldLink RX10 165 "HourAgoModel" "housesRead" "I" ∈ xBW := xBW_of ⟨List.mem_of_getElem? (i := 847) (by decide +kernel), rfl⟩
theorem w848 : Cond.fieldLink RX10 25 "HourAgoModel" "doorsOf" "[I" ∈ xBW := xBW_of ⟨List.mem_of_getElem? (i := 848) (by decide +kernel), rfl⟩
theorem w849 : Cond.fieldLink RX10 28 "HourAgoModel" "sightsOf" "[I" ∈ xBW := xBW_of ⟨List.mem_of_getElem? (i := 849) (by decide +kernel), rfl⟩
theorem w850 : Cond.fieldLink RX10 31 "HourAgoModel" "ones" "[I" ∈ xBW := xBW_of ⟨List.mem_of_getElem? (i := 850) (by decide +kernel), rfl⟩
theorem w851 : Cond.fieldLink RX10 34 "HourAgoModel" "twos" "[I" ∈ xBW := xBW_of ⟨List.mem_of_getElem? (i := 851) (by decide +kernel), rfl⟩
theorem w852 : Cond.fieldLink RX10 156 "HourAgoModel" "people" "I" ∈ xBW := xBW_of ⟨List.mem_of_getElem? (i := 852) (by decide +kernel), rfl⟩
theorem w853 : Cond.fieldLink RX10 37 "HourAgoModel" "kinds" "[I" ∈ xBW := xBW_of ⟨List.mem_of_getElem? (i := 853) (by decide +kernel), rfl⟩
theorem w854 : Cond.fieldLink RX10 40 "HourAgoModel" "selves" "[I" ∈ xBW := xBW_of ⟨List.mem_of_getElem? (i := 854) (by decide +kernel), rfl⟩
theorem w855 : Cond.fieldLink RX10 43 "HourAgoModel" "lowMany" "[I" ∈ xBW := xBW_of ⟨List.mem_of_getElem? (i := 855) (by decide +kernel), rfl⟩
theorem w856 : Cond.fieldLink RX10 46 "HourAgoModel" "minutes" "[I" ∈ xBW := xBW_of ⟨List.mem_of_getElem? (i := 856) (by decide +kernel), rfl⟩
theorem w857 : Cond.fieldLink RX10 49 "HourAgoModel" "rooms" "[I" ∈ xBW := xBW_of ⟨List.mem_of_getElem? (i := 857) (by decide +kernel), rfl⟩
theorem w858 : Cond.fieldLink RX10 52 "HourAgoModel" "lifeMinutes" "[I" ∈ xBW := xBW_of ⟨List.mem_of_getElem? (i := 858) (by decide +kernel), rfl⟩
theorem w859 : Cond.fieldLink RX10 55 "HourAgoModel" "lifeRooms" "[I" ∈ xBW := xBW_of ⟨List.mem_of_getElem? (i := 859) (by decide +kernel), rfl⟩
theorem w860 : Cond.fieldLink RX10 181 "HourAgoModel" "lifeMany" "I" ∈ xBW := xBW_of ⟨List.mem_of_getElem? (i := 860) (by decide +kernel), rfl⟩
theorem w861 : Cond.fieldLink RX10 184 "HourAgoModel" "lifeLow" "I" ∈ xBW := xBW_of ⟨List.mem_of_getElem? (i := 861) (by decide +kernel), rfl⟩
theorem w862 : Cond.fieldLink RX10 159 "HourAgoModel" "tasks" "I" ∈ xBW := xBW_of ⟨List.mem_of_getElem? (i := 862) (by decide +kernel), rfl⟩
theorem w863 : Cond.fieldLink RX10 58 "HourAgoModel" "taskRows" "[I" ∈ xBW := xBW_of ⟨List.mem_of_getElem? (i := 863) (by decide +kernel), rfl⟩
theorem w864 : Cond.fieldLink RX10 239 "HourAgoModel" "shortestMany" "I" ∈ xBW := xBW_of ⟨List.mem_of_getElem? (i := 864) (by decide +kernel), rfl⟩
theorem w865 : Cond.fieldLink RX10 162 "HourAgoModel" "glimpses" "I" ∈ xBW := xBW_of ⟨List.mem_of_getElem? (i := 865) (by decide +kernel), rfl⟩
theorem w866 : Cond.fieldLink RX10 61 "HourAgoModel" "glimpseRows" "[I" ∈ xBW := xBW_of ⟨List.mem_of_getElem? (i := 866) (by decide +kernel), rfl⟩
theorem w867 : Cond.fieldLink RX10 257 "HourAgoModel" "seedNow" "I" ∈ xBW := xBW_of ⟨List.mem_of_getElem? (i := 867) (by decide +kernel), rfl⟩
theorem w868 : Cond.fieldLink RX10 82 "HourAgoModel" "keptHouse" "I" ∈ xBW := xBW_of ⟨List.mem_of_getElem? (i := 868) (by decide +kernel), rfl⟩
theorem w869 : Cond.fieldLink RX10 279 "HourAgoModel" "keptPeople" "I" ∈ xBW := xBW_of ⟨List.mem_of_getElem? (i := 869) (by decide +kernel), rfl⟩
theorem w870 : Cond.fieldLink RX10 282 "HourAgoModel" "keptTasks" "I" ∈ xBW := xBW_of ⟨List.mem_of_getElem? (i := 870) (by decide +kernel), rfl⟩
theorem w871 : Cond.fieldLink RX10 285 "HourAgoModel" "keptGlimpses" "I" ∈ xBW := xBW_of ⟨List.mem_of_getElem? (i := 871) (by decide +kernel), rfl⟩
theorem w872 : Cond.fieldLink RX10 64 "HourAgoModel" "keptSelves" "[I" ∈ xBW := xBW_of ⟨List.mem_of_getElem? (i := 872) (by decide +kernel), rfl⟩
theorem w873 : Cond.fieldLink RX10 67 "HourAgoModel" "keptLow" "[I" ∈ xBW := xBW_of ⟨List.mem_of_getElem? (i := 873) (by decide +kernel), rfl⟩
theorem w874 : Cond.fieldLink RX10 70 "HourAgoModel" "keptMinutes" "[I" ∈ xBW := xBW_of ⟨List.mem_of_getElem? (i := 874) (by decide +kernel), rfl⟩
theorem w875 : Cond.fieldLink RX10 73 "HourAgoModel" "keptRooms" "[I" ∈ xBW := xBW_of ⟨List.mem_of_getElem? (i := 875) (by decide +kernel), rfl⟩
theorem w876 : Cond.fieldLink RX10 76 "HourAgoModel" "keptTaskRows" "[I" ∈ xBW := xBW_of ⟨List.mem_of_getElem? (i := 876) (by decide +kernel), rfl⟩
theorem w877 : Cond.fieldLink RX10 79 "HourAgoModel" "keptGlimpseRows" "[I" ∈ xBW := xBW_of ⟨List.mem_of_getElem? (i := 877) (by decide +kernel), rfl⟩
theorem w878 : Cond.fieldLink RX10 293 "HourAgoModel" "hash" "J" ∈ xBW := xBW_of ⟨List.mem_of_getElem? (i := 878) (by decide +kernel), rfl⟩
theorem w976 : Cond.methodLink RL 19 yX10_letters ∈ xBW := xBW_of ⟨List.mem_of_getElem? (i := 976) (by decide +kernel), rfl⟩
theorem w977 : Cond.instanceMethod yX10_letters ∈ xBW := xBW_of ⟨List.mem_of_getElem? (i := 977) (by decide +kernel), rfl⟩
theorem w978 : Cond.selects RX10 yX10_letters yX10_letters ∈ xBW := xBW_of ⟨List.mem_of_getElem? (i := 978) (by decide +kernel), rfl⟩
set_option maxRecDepth 100000 in
theorem w979 : Cond.code yX10_letters cX10_letters 9 (some .int) ∈ xBW := xBW_of ⟨List.mem_of_getElem? (i := 979) rfl, rfl⟩
theorem w980 : Cond.constantLong RX10 89 (255) ∈ xBW := xBW_of ⟨List.mem_of_getElem? (i := 980) (by decide +kernel), rfl⟩
theorem w981 : Cond.methodLink RL 24 yX10_blank ∈ xBW := xBW_of ⟨List.mem_of_getElem? (i := 981) (by decide +kernel), rfl⟩
theorem w982 : Cond.instanceMethod yX10_blank ∈ xBW := xBW_of ⟨List.mem_of_getElem? (i := 982) (by decide +kernel), rfl⟩
theorem w983 : Cond.selects RX10 yX10_blank yX10_blank ∈ xBW := xBW_of ⟨List.mem_of_getElem? (i := 983) (by decide +kernel), rfl⟩
set_option maxRecDepth 100000 in
theorem w984 : Cond.code yX10_blank cX10_blank 2 (some .int) ∈ xBW := xBW_of ⟨List.mem_of_getElem? (i := 984) rfl, rfl⟩
theorem w985 : Cond.methodLink RL 29 yX10_fault ∈ xBW := xBW_of ⟨List.mem_of_getElem? (i := 985) (by decide +kernel), rfl⟩
theorem w986 : Cond.instanceMethod yX10_fault ∈ xBW := xBW_of ⟨List.mem_of_getElem? (i := 986) (by decide +kernel), rfl⟩
theorem w987 : Cond.selects RX10 yX10_fault yX10_fault ∈ xBW := xBW_of ⟨List.mem_of_getElem? (i := 987) (by decide +kernel), rfl⟩
set_option maxRecDepth 100000 in
theorem w988 : Cond.code yX10_fault cX10_fault 2 (some .int) ∈ xBW := xBW_of ⟨List.mem_of_getElem? (i := 988) rfl, rfl⟩
theorem w989 : Cond.methodLink RX10 140 yX10_houseFault ∈ xBW := xBW_of ⟨List.mem_of_getElem? (i := 989) (by decide +kernel), rfl⟩
theorem w991 : Cond.instanceMethod yX10_houseFault ∈ xBW := xBW_of ⟨List.mem_of_getElem? (i := 991) (by decide +kernel), rfl⟩
set_option maxRecDepth 100000 in
theorem w992 : Cond.code yX10_houseFault cX10_houseFault 2 (some .int) ∈ xBW := xBW_of ⟨List.mem_of_getElem? (i := 992) rfl, rfl⟩
theorem w993 : Cond.methodLink RX10 127 yX10_goHouse ∈ xBW := xBW_of ⟨List.mem_of_getElem? (i := 993) (by decide +kernel), rfl⟩
theorem w995 : Cond.instanceMethod yX10_goHouse ∈ xBW := xBW_of ⟨List.mem_of_getElem? (i := 995) (by decide +kernel), rfl⟩
set_option maxRecDepth 100000 in
theorem w996 : Cond.code yX10_goHouse cX10_goHouse 4 (some .boolean) ∈ xBW := xBW_of ⟨List.mem_of_getElem? (i := 996) rfl, rfl⟩
theorem w997 : Cond.constantLong RX10 94 (5) ∈ xBW := xBW_of ⟨List.mem_of_getElem? (i := 997) (by decide +kernel), rfl⟩
theorem w998 : Cond.methodLink RX10 96 yX10_in ∈ xBW := xBW_of ⟨List.mem_of_getElem? (i := 998) (by decide +kernel), rfl⟩
theorem w999 : Cond.static yX10_in ∈ xBW := xBW_of ⟨List.mem_of_getElem? (i := 999) (by decide +kernel), rfl⟩
set_option maxRecDepth 100000 in
theorem w1000 : Cond.code yX10_in cX10_in 6 (some .boolean) ∈ xBW := xBW_of ⟨List.mem_of_getElem? (i := 1000) rfl, rfl⟩
theorem w1001 : Cond.methodLink RX10 112 yX10_goDoor ∈ xBW := xBW_of ⟨List.mem_of_getElem? (i := 1001) (by decide +kernel), rfl⟩
theorem w1003 : Cond.instanceMethod yX10_goDoor ∈ xBW := xBW_of ⟨List.mem_of_getElem? (i := 1003) (by decide +kernel), rfl⟩
set_option maxRecDepth 100000 in
theorem w1004 : Cond.code yX10_goDoor cX10_goDoor 3 (some .boolean) ∈ xBW := xBW_of ⟨List.mem_of_getElem? (i := 1004) rfl, rfl⟩
theorem w1005 : Cond.constantLong RX10 122 (9) ∈ xBW := xBW_of ⟨List.mem_of_getElem? (i := 1005) (by decide +kernel), rfl⟩
theorem w1006 : Cond.methodLink RX10 124 yX10_goSight ∈ xBW := xBW_of ⟨List.mem_of_getElem? (i := 1006) (by decide +kernel), rfl⟩
theorem w1008 : Cond.instanceMethod yX10_goSight ∈ xBW := xBW_of ⟨List.mem_of_getElem? (i := 1008) (by decide +kernel), rfl⟩
set_option maxRecDepth 100000 in
theorem w1009 : Cond.code yX10_goSight cX10_goSight 3 (some .boolean) ∈ xBW := xBW_of ⟨List.mem_of_getElem? (i := 1009) rfl, rfl⟩
theorem w1010 : Cond.methodLink RX10 144 yX10_lifeFault ∈ xBW := xBW_of ⟨List.mem_of_getElem? (i := 1010) (by decide +kernel), rfl⟩
theorem w1012 : Cond.instanceMethod yX10_lifeFault ∈ xBW := xBW_of ⟨List.mem_of_getElem? (i := 1012) (by decide +kernel), rfl⟩
set_option maxRecDepth 100000 in
theorem w1013 : Cond.code yX10_lifeFault cX10_lifeFault 2 (some .int) ∈ xBW := xBW_of ⟨List.mem_of_getElem? (i := 1013) rfl, rfl⟩
theorem w1014 : Cond.methodLink RX10 136 yX10_isLifeLetter ∈ xBW := xBW_of ⟨List.mem_of_getElem? (i := 1014) (by decide +kernel), rfl⟩
theorem w1015 : Cond.static yX10_isLifeLetter ∈ xBW := xBW_of ⟨List.mem_of_getElem? (i := 1015) (by decide +kernel), rfl⟩
set_option maxRecDepth 100000 in
theorem w1016 : Cond.code yX10_isLifeLetter cX10_isLifeLetter 3 (some .boolean) ∈ xBW := xBW_of ⟨List.mem_of_getElem? (i := 1016) rfl, rfl⟩
theorem w1017 : Cond.constantLong RX10 130 (48) ∈ xBW := xBW_of ⟨List.mem_of_getElem? (i := 1017) (by decide +kernel), rfl⟩
theorem w1018 : Cond.constantLong RX10 132 (53) ∈ xBW := xBW_of ⟨List.mem_of_getElem? (i := 1018) (by decide +kernel), rfl⟩
theorem w1019 : Cond.constantLong RX10 134 (57) ∈ xBW := xBW_of ⟨List.mem_of_getElem? (i := 1019) (by decide +kernel), rfl⟩
theorem w1020 : Cond.methodLink RL 33 yX10_house ∈ xBW := xBW_of ⟨List.mem_of_getElem? (i := 1020) (by decide +kernel), rfl⟩
theorem w1021 : Cond.instanceMethod yX10_house ∈ xBW := xBW_of ⟨List.mem_of_getElem? (i := 1021) (by decide +kernel), rfl⟩
theorem w1022 : Cond.selects RX10 yX10_house yX10_house ∈ xBW := xBW_of ⟨List.mem_of_getElem? (i := 1022) (by decide +kernel), rfl⟩
set_option maxRecDepth 100000 in
theorem w1023 : Cond.code yX10_house cX10_house 2 (some .int) ∈ xBW := xBW_of ⟨List.mem_of_getElem? (i := 1023) rfl, rfl⟩
theorem w1024 : Cond.methodLink RL 38 yX10_between ∈ xBW := xBW_of ⟨List.mem_of_getElem? (i := 1024) (by decide +kernel), rfl⟩
theorem w1025 : Cond.instanceMethod yX10_between ∈ xBW := xBW_of ⟨List.mem_of_getElem? (i := 1025) (by decide +kernel), rfl⟩
theorem w1026 : Cond.selects RX10 yX10_between yX10_between ∈ xBW := xBW_of ⟨List.mem_of_getElem? (i := 1026) (by decide +kernel), rfl⟩
set_option maxRecDepth 100000 in
theorem w1027 : Cond.code yX10_between cX10_between 3 (some .int) ∈ xBW := xBW_of ⟨List.mem_of_getElem? (i := 1027) rfl, rfl⟩
theorem w1028 : Cond.methodLink RX10 168 yX10_isRoom ∈ xBW := xBW_of ⟨List.mem_of_getElem? (i := 1028) (by decide +kernel), rfl⟩
theorem w1029 : Cond.static yX10_isRoom ∈ xBW := xBW_of ⟨List.mem_of_getElem? (i := 1029) (by decide +kernel), rfl⟩
set_option maxRecDepth 100000 in
theorem w1030 : Cond.code yX10_isRoom cX10_isRoom 1 (some .boolean) ∈ xBW := xBW_of ⟨List.mem_of_getElem? (i := 1030) rfl, rfl⟩
theorem w1031 : Cond.methodLink RX10 171 yX10_lacks ∈ xBW := xBW_of ⟨List.mem_of_getElem? (i := 1031) (by decide +kernel), rfl⟩
theorem w1033 : Cond.instanceMethod yX10_lacks ∈ xBW := xBW_of ⟨List.mem_of_getElem? (i := 1033) (by decide +kernel), rfl⟩
set_option maxRecDepth 100000 in
theorem w1034 : Cond.code yX10_lacks cX10_lacks 1 (some .boolean) ∈ xBW := xBW_of ⟨List.mem_of_getElem? (i := 1034) rfl, rfl⟩
theorem w1035 : Cond.methodLink RX10 175 yX10_betweenOf ∈ xBW := xBW_of ⟨List.mem_of_getElem? (i := 1035) (by decide +kernel), rfl⟩
theorem w1037 : Cond.instanceMethod yX10_betweenOf ∈ xBW := xBW_of ⟨List.mem_of_getElem? (i := 1037) (by decide +kernel), rfl⟩
set_option maxRecDepth 100000 in
theorem w1038 : Cond.code yX10_betweenOf cX10_betweenOf 3 (some .int) ∈ xBW := xBW_of ⟨List.mem_of_getElem? (i := 1038) rfl, rfl⟩
theorem w1039 : Cond.methodLink RL 42 yX10_person ∈ xBW := xBW_of ⟨List.mem_of_getElem? (i := 1039) (by decide +kernel), rfl⟩
theorem w1040 : Cond.instanceMethod yX10_person ∈ xBW := xBW_of ⟨List.mem_of_getElem? (i := 1040) (by decide +kernel), rfl⟩
theorem w1041 : Cond.selects RX10 yX10_person yX10_person ∈ xBW := xBW_of ⟨List.mem_of_getElem? (i := 1041) (by decide +kernel), rfl⟩
set_option maxRecDepth 100000 in
theorem w1042 : Cond.code yX10_person cX10_person 2 (some .int) ∈ xBW := xBW_of ⟨List.mem_of_getElem? (i := 1042) rfl, rfl⟩
theorem w1043 : Cond.constantLong RX10 179 (4) ∈ xBW := xBW_of ⟨List.mem_of_getElem? (i := 1043) (by decide +kernel), rfl⟩
theorem w1044 : Cond.methodLink RL 46 yX10_life ∈ xBW := xBW_of ⟨List.mem_of_getElem? (i := 1044) (by decide +kernel), rfl⟩
theorem w1045 : Cond.instanceMethod yX10_life ∈ xBW := xBW_of ⟨List.mem_of_getElem? (i := 1045) (by decide +kernel), rfl⟩
theorem w1046 : Cond.selects RX10 yX10_life yX10_life ∈ xBW := xBW_of ⟨List.mem_of_getElem? (i := 1046) (by decide +kernel), rfl⟩
set_option maxRecDepth 100000 in
theorem w1047 : Cond.code yX10_life cX10_life 4 (some .int) ∈ xBW := xBW_of ⟨List.mem_of_getElem? (i := 1047) rfl, rfl⟩
theorem w1048 : Cond.methodLink RX10 193 yX10_isPerson ∈ xBW := xBW_of ⟨List.mem_of_getElem? (i := 1048) (by decide +kernel), rfl⟩
theorem w1050 : Cond.instanceMethod yX10_isPerson ∈ xBW := xBW_of ⟨List.mem_of_getElem? (i := 1050) (by decide +kernel), rfl⟩
set_option maxRecDepth 100000 in
theorem w1051 : Cond.code yX10_isPerson cX10_isPerson 2 (some .boolean) ∈ xBW := xBW_of ⟨List.mem_of_getElem? (i := 1051) rfl, rfl⟩
theorem w1052 : Cond.methodLink RX10 196 yX10_beginLife ∈ xBW := xBW_of ⟨List.mem_of_getElem? (i := 1052) (by decide +kernel), rfl⟩
theorem w1054 : Cond.instanceMethod yX10_beginLife ∈ xBW := xBW_of ⟨List.mem_of_getElem? (i := 1054) (by decide +kernel), rfl⟩
set_option maxRecDepth 100000 in
theorem w1055 : Cond.code yX10_beginLife cX10_beginLife 3 none ∈ xBW := xBW_of ⟨List.mem_of_getElem? (i := 1055) rfl, rfl⟩
theorem w1056 : Cond.methodLink RX10 200 yX10_step ∈ xBW := xBW_of ⟨List.mem_of_getElem? (i := 1056) (by decide +kernel), rfl⟩
theorem w1058 : Cond.instanceMethod yX10_step ∈ xBW := xBW_of ⟨List.mem_of_getElem? (i := 1058) (by decide +kernel), rfl⟩
set_option maxRecDepth 100000 in
theorem w1059 : Cond.code yX10_step cX10_step 6 (some .boolean) ∈ xBW := xBW_of ⟨List.mem_of_getElem? (i := 1059) rfl, rfl⟩
theorem w1060 : Cond.methodLink RX10 187 yX10_backOf ∈ xBW := xBW_of ⟨List.mem_of_getElem? (i := 1060) (by decide +kernel), rfl⟩
theorem w1062 : Cond.instanceMethod yX10_backOf ∈ xBW := xBW_of ⟨List.mem_of_getElem? (i := 1062) (by decide +kernel), rfl⟩
set_option maxRecDepth 100000 in
theorem w1063 : Cond.code yX10_backOf cX10_backOf 2 (some .int) ∈ xBW := xBW_of ⟨List.mem_of_getElem? (i := 1063) rfl, rfl⟩
theorem w1064 : Cond.constantLong RX10 191 (59) ∈ xBW := xBW_of ⟨List.mem_of_getElem? (i := 1064) (by decide +kernel), rfl⟩
theorem w1065 : Cond.methodLink RL 50 yX10_about ∈ xBW := xBW_of ⟨List.mem_of_getElem? (i := 1065) (by decide +kernel), rfl⟩
theorem w1066 : Cond.instanceMethod yX10_about ∈ xBW := xBW_of ⟨List.mem_of_getElem? (i := 1066) (by decide +kernel), rfl⟩
theorem w1067 : Cond.selects RX10 yX10_about yX10_about ∈ xBW := xBW_of ⟨List.mem_of_getElem? (i := 1067) (by decide +kernel), rfl⟩
set_option maxRecDepth 100000 in
theorem w1068 : Cond.code yX10_about cX10_about 3 (some .int) ∈ xBW := xBW_of ⟨List.mem_of_getElem? (i := 1068) rfl, rfl⟩
theorem w1069 : Cond.methodLink RX10 203 yX10_tell ∈ xBW := xBW_of ⟨List.mem_of_getElem? (i := 1069) (by decide +kernel), rfl⟩
theorem w1071 : Cond.instanceMethod yX10_tell ∈ xBW := xBW_of ⟨List.mem_of_getElem? (i := 1071) (by decide +kernel), rfl⟩
set_option maxRecDepth 100000 in
theorem w1072 : Cond.code yX10_tell cX10_tell 4 (some .int) ∈ xBW := xBW_of ⟨List.mem_of_getElem? (i := 1072) rfl, rfl⟩
theorem w1073 : Cond.methodLink RL 54 yX10_as ∈ xBW := xBW_of ⟨List.mem_of_getElem? (i := 1073) (by decide +kernel), rfl⟩
theorem w1074 : Cond.instanceMethod yX10_as ∈ xBW := xBW_of ⟨List.mem_of_getElem? (i := 1074) (by decide +kernel), rfl⟩
theorem w1075 : Cond.selects RX10 yX10_as yX10_as ∈ xBW := xBW_of ⟨List.mem_of_getElem? (i := 1075) (by decide +kernel), rfl⟩
set_option maxRecDepth 100000 in
theorem w1076 : Cond.code yX10_as cX10_as 4 (some .int) ∈ xBW := xBW_of ⟨List.mem_of_getElem? (i := 1076) rfl, rfl⟩
theorem w1077 : Cond.methodLink RL 59 yX10_self ∈ xBW := xBW_of ⟨List.mem_of_getElem? (i := 1077) (by decide +kernel), rfl⟩
theorem w1078 : Cond.instanceMethod yX10_self ∈ xBW := xBW_of ⟨List.mem_of_getElem? (i := 1078) (by decide +kernel), rfl⟩
theorem w1079 : Cond.selects RX10 yX10_self yX10_self ∈ xBW := xBW_of ⟨List.mem_of_getElem? (i := 1079) (by decide +kernel), rfl⟩
set_option maxRecDepth 100000 in
theorem w1080 : Cond.code yX10_self cX10_self 4 (some .int) ∈ xBW := xBW_of ⟨List.mem_of_getElem? (i := 1080) rfl, rfl⟩
theorem w1081 : Cond.methodLink RL 63 yX10_there ∈ xBW := xBW_of ⟨List.mem_of_getElem? (i := 1081) (by decide +kernel), rfl⟩
theorem w1082 : Cond.instanceMethod yX10_there ∈ xBW := xBW_of ⟨List.mem_of_getElem? (i := 1082) (by decide +kernel), rfl⟩
theorem w1083 : Cond.selects RX10 yX10_there yX10_there ∈ xBW := xBW_of ⟨List.mem_of_getElem? (i := 1083) (by decide +kernel), rfl⟩
set_option maxRecDepth 100000 in
theorem w1084 : Cond.code yX10_there cX10_there 4 (some .int) ∈ xBW := xBW_of ⟨List.mem_of_getElem? (i := 1084) rfl, rfl⟩
theorem w1085 : Cond.methodLink RX10 206 yX10_thereOf ∈ xBW := xBW_of ⟨List.mem_of_getElem? (i := 1085) (by decide +kernel), rfl⟩
theorem w1087 : Cond.instanceMethod yX10_thereOf ∈ xBW := xBW_of ⟨List.mem_of_getElem? (i := 1087) (by decide +kernel), rfl⟩
set_option maxRecDepth 100000 in
theorem w1088 : Cond.code yX10_thereOf cX10_thereOf 6 (some .int) ∈ xBW := xBW_of ⟨List.mem_of_getElem? (i := 1088) rfl, rfl⟩
theorem w1089 : Cond.methodLink RL 67 yX10_met ∈ xBW := xBW_of ⟨List.mem_of_getElem? (i := 1089) (by decide +kernel), rfl⟩
theorem w1090 : Cond.instanceMethod yX10_met ∈ xBW := xBW_of ⟨List.mem_of_getElem? (i := 1090) (by decide +kernel), rfl⟩
theorem w1091 : Cond.selects RX10 yX10_met yX10_met ∈ xBW := xBW_of ⟨List.mem_of_getElem? (i := 1091) (by decide +kernel), rfl⟩
set_option maxRecDepth 100000 in
theorem w1092 : Cond.code yX10_met cX10_met 2 (some .int) ∈ xBW := xBW_of ⟨List.mem_of_getElem? (i := 1092) rfl, rfl⟩
theorem w1093 : Cond.methodLink RX10 214 yX10_metNow ∈ xBW := xBW_of ⟨List.mem_of_getElem? (i := 1093) (by decide +kernel), rfl⟩
theorem w1095 : Cond.instanceMethod yX10_metNow ∈ xBW := xBW_of ⟨List.mem_of_getElem? (i := 1095) (by decide +kernel), rfl⟩
set_option maxRecDepth 100000 in
theorem w1096 : Cond.code yX10_metNow cX10_metNow 2 (some .int) ∈ xBW := xBW_of ⟨List.mem_of_getElem? (i := 1096) rfl, rfl⟩
theorem w1097 : Cond.methodLink RX10 210 yX10_metOf ∈ xBW := xBW_of ⟨List.mem_of_getElem? (i := 1097) (by decide +kernel), rfl⟩
theorem w1099 : Cond.instanceMethod yX10_metOf ∈ xBW := xBW_of ⟨List.mem_of_getElem? (i := 1099) (by decide +kernel), rfl⟩
set_option maxRecDepth 100000 in
theorem w1100 : Cond.code yX10_metOf cX10_metOf 10 (some .int) ∈ xBW := xBW_of ⟨List.mem_of_getElem? (i := 1100) rfl, rfl⟩
theorem w1101 : Cond.methodLink RL 71 yX10_most ∈ xBW := xBW_of ⟨List.mem_of_getElem? (i := 1101) (by decide +kernel), rfl⟩
theorem w1102 : Cond.instanceMethod yX10_most ∈ xBW := xBW_of ⟨List.mem_of_getElem? (i := 1102) (by decide +kernel), rfl⟩
theorem w1103 : Cond.selects RX10 yX10_most yX10_most ∈ xBW := xBW_of ⟨List.mem_of_getElem? (i := 1103) (by decide +kernel), rfl⟩
set_option maxRecDepth 100000 in
theorem w1104 : Cond.code yX10_most cX10_most 3 (some .int) ∈ xBW := xBW_of ⟨List.mem_of_getElem? (i := 1104) rfl, rfl⟩
theorem w1105 : Cond.methodLink RX10 217 yX10_mostOf ∈ xBW := xBW_of ⟨List.mem_of_getElem? (i := 1105) (by decide +kernel), rfl⟩
theorem w1107 : Cond.instanceMethod yX10_mostOf ∈ xBW := xBW_of ⟨List.mem_of_getElem? (i := 1107) (by decide +kernel), rfl⟩
set_option maxRecDepth 100000 in
theorem w1108 : Cond.code yX10_mostOf cX10_mostOf 8 (some .int) ∈ xBW := xBW_of ⟨List.mem_of_getElem? (i := 1108) rfl, rfl⟩
theorem w1109 : Cond.methodLink RL 75 yX10_meet ∈ xBW := xBW_of ⟨List.mem_of_getElem? (i := 1109) (by decide +kernel), rfl⟩
theorem w1110 : Cond.instanceMethod yX10_meet ∈ xBW := xBW_of ⟨List.mem_of_getElem? (i := 1110) (by decide +kernel), rfl⟩
theorem w1111 : Cond.selects RX10 yX10_meet yX10_meet ∈ xBW := xBW_of ⟨List.mem_of_getElem? (i := 1111) (by decide +kernel), rfl⟩
set_option maxRecDepth 100000 in
theorem w1112 : Cond.code yX10_meet cX10_meet 3 (some .int) ∈ xBW := xBW_of ⟨List.mem_of_getElem? (i := 1112) rfl, rfl⟩
theorem w1113 : Cond.methodLink RX10 220 yX10_arePair ∈ xBW := xBW_of ⟨List.mem_of_getElem? (i := 1113) (by decide +kernel), rfl⟩
theorem w1115 : Cond.instanceMethod yX10_arePair ∈ xBW := xBW_of ⟨List.mem_of_getElem? (i := 1115) (by decide +kernel), rfl⟩
set_option maxRecDepth 100000 in
theorem w1116 : Cond.code yX10_arePair cX10_arePair 3 (some .boolean) ∈ xBW := xBW_of ⟨List.mem_of_getElem? (i := 1116) rfl, rfl⟩
theorem w1117 : Cond.methodLink RX10 223 yX10_meetOf ∈ xBW := xBW_of ⟨List.mem_of_getElem? (i := 1117) (by decide +kernel), rfl⟩
theorem w1119 : Cond.instanceMethod yX10_meetOf ∈ xBW := xBW_of ⟨List.mem_of_getElem? (i := 1119) (by decide +kernel), rfl⟩
set_option maxRecDepth 100000 in
theorem w1120 : Cond.code yX10_meetOf cX10_meetOf 6 (some .int) ∈ xBW := xBW_of ⟨List.mem_of_getElem? (i := 1120) rfl, rfl⟩
theorem w1121 : Cond.methodLink RL 79 yX10_locked ∈ xBW := xBW_of ⟨List.mem_of_getElem? (i := 1121) (by decide +kernel), rfl⟩
theorem w1122 : Cond.instanceMethod yX10_locked ∈ xBW := xBW_of ⟨List.mem_of_getElem? (i := 1122) (by decide +kernel), rfl⟩
theorem w1123 : Cond.selects RX10 yX10_locked yX10_locked ∈ xBW := xBW_of ⟨List.mem_of_getElem? (i := 1123) (by decide +kernel), rfl⟩
set_option maxRecDepth 100000 in
theorem w1124 : Cond.code yX10_locked cX10_locked 1 (some .int) ∈ xBW := xBW_of ⟨List.mem_of_getElem? (i := 1124) rfl, rfl⟩
theorem w1125 : Cond.methodLink RX10 229 yX10_lockedOf ∈ xBW := xBW_of ⟨List.mem_of_getElem? (i := 1125) (by decide +kernel), rfl⟩
theorem w1127 : Cond.instanceMethod yX10_lockedOf ∈ xBW := xBW_of ⟨List.mem_of_getElem? (i := 1127) (by decide +kernel), rfl⟩
set_option maxRecDepth 100000 in
theorem w1128 : Cond.code yX10_lockedOf cX10_lockedOf 6 (some .int) ∈ xBW := xBW_of ⟨List.mem_of_getElem? (i := 1128) rfl, rfl⟩
theorem w1129 : Cond.methodLink RX10 226 yX10_goesThrough ∈ xBW := xBW_of ⟨List.mem_of_getElem? (i := 1129) (by decide +kernel), rfl⟩
theorem w1131 : Cond.instanceMethod yX10_goesThrough ∈ xBW := xBW_of ⟨List.mem_of_getElem? (i := 1131) (by decide +kernel), rfl⟩
set_option maxRecDepth 100000 in
theorem w1132 : Cond.code yX10_goesThrough cX10_goesThrough 7 (some .boolean) ∈ xBW := xBW_of ⟨List.mem_of_getElem? (i := 1132) rfl, rfl⟩
theorem w1133 : Cond.methodLink RL 83 yX10_task ∈ xBW := xBW_of ⟨List.mem_of_getElem? (i := 1133) (by decide +kernel), rfl⟩
theorem w1134 : Cond.instanceMethod yX10_task ∈ xBW := xBW_of ⟨List.mem_of_getElem? (i := 1134) (by decide +kernel), rfl⟩
theorem w1135 : Cond.selects RX10 yX10_task yX10_task ∈ xBW := xBW_of ⟨List.mem_of_getElem? (i := 1135) (by decide +kernel), rfl⟩
set_option maxRecDepth 100000 in
theorem w1136 : Cond.code yX10_task cX10_task 4 (some .int) ∈ xBW := xBW_of ⟨List.mem_of_getElem? (i := 1136) rfl, rfl⟩
theorem w1137 : Cond.methodLink RL 87 yX10_done ∈ xBW := xBW_of ⟨List.mem_of_getElem? (i := 1137) (by decide +kernel), rfl⟩
theorem w1138 : Cond.instanceMethod yX10_done ∈ xBW := xBW_of ⟨List.mem_of_getElem? (i := 1138) (by decide +kernel), rfl⟩
theorem w1139 : Cond.selects RX10 yX10_done yX10_done ∈ xBW := xBW_of ⟨List.mem_of_getElem? (i := 1139) (by decide +kernel), rfl⟩
set_option maxRecDepth 100000 in
theorem w1140 : Cond.code yX10_done cX10_done 2 (some .int) ∈ xBW := xBW_of ⟨List.mem_of_getElem? (i := 1140) rfl, rfl⟩
theorem w1141 : Cond.methodLink RX10 236 yX10_doneNow ∈ xBW := xBW_of ⟨List.mem_of_getElem? (i := 1141) (by decide +kernel), rfl⟩
theorem w1143 : Cond.instanceMethod yX10_doneNow ∈ xBW := xBW_of ⟨List.mem_of_getElem? (i := 1143) (by decide +kernel), rfl⟩
set_option maxRecDepth 100000 in
theorem w1144 : Cond.code yX10_doneNow cX10_doneNow 2 (some .int) ∈ xBW := xBW_of ⟨List.mem_of_getElem? (i := 1144) rfl, rfl⟩
theorem w1145 : Cond.methodLink RX10 232 yX10_doneBy ∈ xBW := xBW_of ⟨List.mem_of_getElem? (i := 1145) (by decide +kernel), rfl⟩
theorem w1147 : Cond.instanceMethod yX10_doneBy ∈ xBW := xBW_of ⟨List.mem_of_getElem? (i := 1147) (by decide +kernel), rfl⟩
set_option maxRecDepth 100000 in
theorem w1148 : Cond.code yX10_doneBy cX10_doneBy 8 (some .int) ∈ xBW := xBW_of ⟨List.mem_of_getElem? (i := 1148) rfl, rfl⟩
theorem w1149 : Cond.methodLink RL 92 yX10_shortest ∈ xBW := xBW_of ⟨List.mem_of_getElem? (i := 1149) (by decide +kernel), rfl⟩
theorem w1150 : Cond.instanceMethod yX10_shortest ∈ xBW := xBW_of ⟨List.mem_of_getElem? (i := 1150) (by decide +kernel), rfl⟩
theorem w1151 : Cond.selects RX10 yX10_shortest yX10_shortest ∈ xBW := xBW_of ⟨List.mem_of_getElem? (i := 1151) (by decide +kernel), rfl⟩
set_option maxRecDepth 100000 in
theorem w1152 : Cond.code yX10_shortest cX10_shortest 8 (some .int) ∈ xBW := xBW_of ⟨List.mem_of_getElem? (i := 1152) rfl, rfl⟩
theorem w1153 : Cond.methodLink RX10 242 yX10_does ∈ xBW := xBW_of ⟨List.mem_of_getElem? (i := 1153) (by decide +kernel), rfl⟩
theorem w1155 : Cond.instanceMethod yX10_does ∈ xBW := xBW_of ⟨List.mem_of_getElem? (i := 1155) (by decide +kernel), rfl⟩
set_option maxRecDepth 100000 in
theorem w1156 : Cond.code yX10_does cX10_does 9 (some .boolean) ∈ xBW := xBW_of ⟨List.mem_of_getElem? (i := 1156) rfl, rfl⟩
theorem w1157 : Cond.methodLink RL 96 yX10_glimpse ∈ xBW := xBW_of ⟨List.mem_of_getElem? (i := 1157) (by decide +kernel), rfl⟩
theorem w1158 : Cond.instanceMethod yX10_glimpse ∈ xBW := xBW_of ⟨List.mem_of_getElem? (i := 1158) (by decide +kernel), rfl⟩
theorem w1159 : Cond.selects RX10 yX10_glimpse yX10_glimpse ∈ xBW := xBW_of ⟨List.mem_of_getElem? (i := 1159) (by decide +kernel), rfl⟩
set_option maxRecDepth 100000 in
theorem w1160 : Cond.code yX10_glimpse cX10_glimpse 3 (some .int) ∈ xBW := xBW_of ⟨List.mem_of_getElem? (i := 1160) rfl, rfl⟩
theorem w1161 : Cond.methodLink RL 100 yX10_forget ∈ xBW := xBW_of ⟨List.mem_of_getElem? (i := 1161) (by decide +kernel), rfl⟩
theorem w1162 : Cond.instanceMethod yX10_forget ∈ xBW := xBW_of ⟨List.mem_of_getElem? (i := 1162) (by decide +kernel), rfl⟩
theorem w1163 : Cond.selects RX10 yX10_forget yX10_forget ∈ xBW := xBW_of ⟨List.mem_of_getElem? (i := 1163) (by decide +kernel), rfl⟩
set_option maxRecDepth 100000 in
theorem w1164 : Cond.code yX10_forget cX10_forget 2 (some .int) ∈ xBW := xBW_of ⟨List.mem_of_getElem? (i := 1164) rfl, rfl⟩
theorem w1165 : Cond.methodLink RL 104 yX10_whose ∈ xBW := xBW_of ⟨List.mem_of_getElem? (i := 1165) (by decide +kernel), rfl⟩
theorem w1166 : Cond.instanceMethod yX10_whose ∈ xBW := xBW_of ⟨List.mem_of_getElem? (i := 1166) (by decide +kernel), rfl⟩
theorem w1167 : Cond.selects RX10 yX10_whose yX10_whose ∈ xBW := xBW_of ⟨List.mem_of_getElem? (i := 1167) (by decide +kernel), rfl⟩
set_option maxRecDepth 100000 in
theorem w1168 : Cond.code yX10_whose cX10_whose 1 (some .int) ∈ xBW := xBW_of ⟨List.mem_of_getElem? (i := 1168) rfl, rfl⟩
theorem w1169 : Cond.methodLink RX10 249 yX10_whoseOf ∈ xBW := xBW_of ⟨List.mem_of_getElem? (i := 1169) (by decide +kernel), rfl⟩
theorem w1171 : Cond.instanceMethod yX10_whoseOf ∈ xBW := xBW_of ⟨List.mem_of_getElem? (i := 1171) (by decide +kernel), rfl⟩
set_option maxRecDepth 100000 in
theorem w1172 : Cond.code yX10_whoseOf cX10_whoseOf 5 (some .int) ∈ xBW := xBW_of ⟨List.mem_of_getElem? (i := 1172) rfl, rfl⟩
theorem w1173 : Cond.methodLink RX10 246 yX10_isThere ∈ xBW := xBW_of ⟨List.mem_of_getElem? (i := 1173) (by decide +kernel), rfl⟩
theorem w1175 : Cond.instanceMethod yX10_isThere ∈ xBW := xBW_of ⟨List.mem_of_getElem? (i := 1175) (by decide +kernel), rfl⟩
set_option maxRecDepth 100000 in
theorem w1176 : Cond.code yX10_isThere cX10_isThere 3 (some .boolean) ∈ xBW := xBW_of ⟨List.mem_of_getElem? (i := 1176) rfl, rfl⟩
theorem w1177 : Cond.methodLink RL 108 yX10_pair ∈ xBW := xBW_of ⟨List.mem_of_getElem? (i := 1177) (by decide +kernel), rfl⟩
theorem w1178 : Cond.instanceMethod yX10_pair ∈ xBW := xBW_of ⟨List.mem_of_getElem? (i := 1178) (by decide +kernel), rfl⟩
theorem w1179 : Cond.selects RX10 yX10_pair yX10_pair ∈ xBW := xBW_of ⟨List.mem_of_getElem? (i := 1179) (by decide +kernel), rfl⟩
set_option maxRecDepth 100000 in
theorem w1180 : Cond.code yX10_pair cX10_pair 3 (some .int) ∈ xBW := xBW_of ⟨List.mem_of_getElem? (i := 1180) rfl, rfl⟩
theorem w1181 : Cond.methodLink RX10 252 yX10_pairOf ∈ xBW := xBW_of ⟨List.mem_of_getElem? (i := 1181) (by decide +kernel), rfl⟩
theorem w1183 : Cond.instanceMethod yX10_pairOf ∈ xBW := xBW_of ⟨List.mem_of_getElem? (i := 1183) (by decide +kernel), rfl⟩
set_option maxRecDepth 100000 in
theorem w1184 : Cond.code yX10_pairOf cX10_pairOf 5 (some .int) ∈ xBW := xBW_of ⟨List.mem_of_getElem? (i := 1184) rfl, rfl⟩
theorem w1185 : Cond.methodLink RL 112 yX10_lives ∈ xBW := xBW_of ⟨List.mem_of_getElem? (i := 1185) (by decide +kernel), rfl⟩
theorem w1186 : Cond.instanceMethod yX10_lives ∈ xBW := xBW_of ⟨List.mem_of_getElem? (i := 1186) (by decide +kernel), rfl⟩
theorem w1187 : Cond.selects RX10 yX10_lives yX10_lives ∈ xBW := xBW_of ⟨List.mem_of_getElem? (i := 1187) (by decide +kernel), rfl⟩
set_option maxRecDepth 100000 in
theorem w1188 : Cond.code yX10_lives cX10_lives 13 (some .int) ∈ xBW := xBW_of ⟨List.mem_of_getElem? (i := 1188) rfl, rfl⟩
theorem w1189 : Cond.constantLong RX10 265 (16) ∈ xBW := xBW_of ⟨List.mem_of_getElem? (i := 1189) (by decide +kernel), rfl⟩
theorem w1190 : Cond.constantLong RX10 267 (3) ∈ xBW := xBW_of ⟨List.mem_of_getElem? (i := 1190) (by decide +kernel), rfl⟩
theorem w1191 : Cond.methodLink RX10 269 yX10_mayStep ∈ xBW := xBW_of ⟨List.mem_of_getElem? (i := 1191) (by decide +kernel), rfl⟩
theorem w1193 : Cond.instanceMethod yX10_mayStep ∈ xBW := xBW_of ⟨List.mem_of_getElem? (i := 1193) (by decide +kernel), rfl⟩
set_option maxRecDepth 100000 in
theorem w1194 : Cond.code yX10_mayStep cX10_mayStep 6 (some .boolean) ∈ xBW := xBW_of ⟨List.mem_of_getElem? (i := 1194) rfl, rfl⟩
theorem w1195 : Cond.methodLink RX10 272 yX10_draw ∈ xBW := xBW_of ⟨List.mem_of_getElem? (i := 1195) (by decide +kernel), rfl⟩
theorem w1197 : Cond.instanceMethod yX10_draw ∈ xBW := xBW_of ⟨List.mem_of_getElem? (i := 1197) (by decide +kernel), rfl⟩
set_option maxRecDepth 100000 in
theorem w1198 : Cond.code yX10_draw cX10_draw 2 (some .int) ∈ xBW := xBW_of ⟨List.mem_of_getElem? (i := 1198) rfl, rfl⟩
theorem w1199 : Cond.constantLong RX10 255 (1103515245) ∈ xBW := xBW_of ⟨List.mem_of_getElem? (i := 1199) (by decide +kernel), rfl⟩
theorem w1200 : Cond.constantLong RX10 260 (12345) ∈ xBW := xBW_of ⟨List.mem_of_getElem? (i := 1200) (by decide +kernel), rfl⟩
theorem w1201 : Cond.constantLong RX10 262 (2147483647) ∈ xBW := xBW_of ⟨List.mem_of_getElem? (i := 1201) (by decide +kernel), rfl⟩
theorem w1202 : Cond.constant RX10 264 (65536) ∈ xBW := xBW_of ⟨List.mem_of_getElem? (i := 1202) (by decide +kernel), rfl⟩
theorem w1203 : Cond.methodLink RL 116 yX10_image ∈ xBW := xBW_of ⟨List.mem_of_getElem? (i := 1203) (by decide +kernel), rfl⟩
theorem w1204 : Cond.instanceMethod yX10_image ∈ xBW := xBW_of ⟨List.mem_of_getElem? (i := 1204) (by decide +kernel), rfl⟩
theorem w1205 : Cond.selects RX10 yX10_image yX10_image ∈ xBW := xBW_of ⟨List.mem_of_getElem? (i := 1205) (by decide +kernel), rfl⟩
set_option maxRecDepth 100000 in
theorem w1206 : Cond.code yX10_image cX10_image 1 (some .int) ∈ xBW := xBW_of ⟨List.mem_of_getElem? (i := 1206) rfl, rfl⟩
theorem w1207 : Cond.methodLink RX10 275 yX10_copy ∈ xBW := xBW_of ⟨List.mem_of_getElem? (i := 1207) (by decide +kernel), rfl⟩
theorem w1208 : Cond.static yX10_copy ∈ xBW := xBW_of ⟨List.mem_of_getElem? (i := 1208) (by decide +kernel), rfl⟩
set_option maxRecDepth 100000 in
theorem w1209 : Cond.code yX10_copy cX10_copy 3 none ∈ xBW := xBW_of ⟨List.mem_of_getElem? (i := 1209) rfl, rfl⟩
theorem w1210 : Cond.methodLink RL 120 yX10_restore ∈ xBW := xBW_of ⟨List.mem_of_getElem? (i := 1210) (by decide +kernel), rfl⟩
theorem w1211 : Cond.instanceMethod yX10_restore ∈ xBW := xBW_of ⟨List.mem_of_getElem? (i := 1211) (by decide +kernel), rfl⟩
theorem w1212 : Cond.selects RX10 yX10_restore yX10_restore ∈ xBW := xBW_of ⟨List.mem_of_getElem? (i := 1212) (by decide +kernel), rfl⟩
set_option maxRecDepth 100000 in
theorem w1213 : Cond.code yX10_restore cX10_restore 1 (some .int) ∈ xBW := xBW_of ⟨List.mem_of_getElem? (i := 1213) rfl, rfl⟩
theorem w1214 : Cond.methodLink RL 124 yX10_count ∈ xBW := xBW_of ⟨List.mem_of_getElem? (i := 1214) (by decide +kernel), rfl⟩
theorem w1215 : Cond.instanceMethod yX10_count ∈ xBW := xBW_of ⟨List.mem_of_getElem? (i := 1215) (by decide +kernel), rfl⟩
theorem w1216 : Cond.selects RX10 yX10_count yX10_count ∈ xBW := xBW_of ⟨List.mem_of_getElem? (i := 1216) (by decide +kernel), rfl⟩
set_option maxRecDepth 100000 in
theorem w1217 : Cond.code yX10_count cX10_count 2 (some .int) ∈ xBW := xBW_of ⟨List.mem_of_getElem? (i := 1217) rfl, rfl⟩
theorem w1218 : Cond.methodLink RX10 288 yX10_countOf ∈ xBW := xBW_of ⟨List.mem_of_getElem? (i := 1218) (by decide +kernel), rfl⟩
theorem w1220 : Cond.instanceMethod yX10_countOf ∈ xBW := xBW_of ⟨List.mem_of_getElem? (i := 1220) (by decide +kernel), rfl⟩
set_option maxRecDepth 100000 in
theorem w1221 : Cond.code yX10_countOf cX10_countOf 2 (some .int) ∈ xBW := xBW_of ⟨List.mem_of_getElem? (i := 1221) rfl, rfl⟩
theorem w1222 : Cond.methodLink RL 129 yX10_digest ∈ xBW := xBW_of ⟨List.mem_of_getElem? (i := 1222) (by decide +kernel), rfl⟩
theorem w1223 : Cond.instanceMethod yX10_digest ∈ xBW := xBW_of ⟨List.mem_of_getElem? (i := 1223) (by decide +kernel), rfl⟩
theorem w1224 : Cond.selects RX10 yX10_digest yX10_digest ∈ xBW := xBW_of ⟨List.mem_of_getElem? (i := 1224) (by decide +kernel), rfl⟩
set_option maxRecDepth 100000 in
theorem w1225 : Cond.code yX10_digest cX10_digest 3 (some .long) ∈ xBW := xBW_of ⟨List.mem_of_getElem? (i := 1225) rfl, rfl⟩
theorem w1226 : Cond.constantLong RX10 301 (683) ∈ xBW := xBW_of ⟨List.mem_of_getElem? (i := 1226) (by decide +kernel), rfl⟩
theorem w1227 : Cond.methodLink RX10 297 yX10_say ∈ xBW := xBW_of ⟨List.mem_of_getElem? (i := 1227) (by decide +kernel), rfl⟩
theorem w1229 : Cond.instanceMethod yX10_say ∈ xBW := xBW_of ⟨List.mem_of_getElem? (i := 1229) (by decide +kernel), rfl⟩
set_option maxRecDepth 100000 in
theorem w1230 : Cond.code yX10_say cX10_say 3 none ∈ xBW := xBW_of ⟨List.mem_of_getElem? (i := 1230) rfl, rfl⟩
theorem w1231 : Cond.constantLong RX10 291 (31) ∈ xBW := xBW_of ⟨List.mem_of_getElem? (i := 1231) (by decide +kernel), rfl⟩
theorem w1232 : Cond.methodLink RX10 303 yX10_sayPerson ∈ xBW := xBW_of ⟨List.mem_of_getElem? (i := 1232) (by decide +kernel), rfl⟩
theorem w1234 : Cond.instanceMethod yX10_sayPerson ∈ xBW := xBW_of ⟨List.mem_of_getElem? (i := 1234) (by decide +kernel), rfl⟩
set_option maxRecDepth 100000 in
theorem w1235 : Cond.code yX10_sayPerson cX10_sayPerson 3 none ∈ xBW := xBW_of ⟨List.mem_of_getElem? (i := 1235) rfl, rfl⟩
theorem w1236 : Cond.constantLong RL 13 (4294967295) ∈ xBW := xBW_of ⟨List.mem_of_getElem? (i := 1236) (by decide +kernel), rfl⟩
