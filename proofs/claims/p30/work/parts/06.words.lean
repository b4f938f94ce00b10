/-! ===== words of the tables, each at its place ===== -/
theorem w0 : Cond.selects RX1 yX1_clear yX1_clear ∈ xBW := xBW_of ⟨List.mem_of_getElem? (i := 0) (by decide +kernel), rfl⟩
theorem w1 : Cond.selects RX1 yX1_takes yX1_takes ∈ xBW := xBW_of ⟨List.mem_of_getElem? (i := 1) (by decide +kernel), rfl⟩
theorem w2 : Cond.selects RX1 yX1_goesOn yX1_goesOn ∈ xBW := xBW_of ⟨List.mem_of_getElem? (i := 2) (by decide +kernel), rfl⟩
theorem w3 : Cond.selects RX1 yX1_addsDoor yX1_addsDoor ∈ xBW := xBW_of ⟨List.mem_of_getElem? (i := 3) (by decide +kernel), rfl⟩
theorem w4 : Cond.selects RX1 yX1_addsSight yX1_addsSight ∈ xBW := xBW_of ⟨List.mem_of_getElem? (i := 4) (by decide +kernel), rfl⟩
theorem w5 : Cond.selects RX9 yX9_hasHouse yX9_hasHouse ∈ xBW := xBW_of ⟨List.mem_of_getElem? (i := 5) (by decide +kernel), rfl⟩
theorem w6 : Cond.selects RX9 yX9_personAt yX9_personAt ∈ xBW := xBW_of ⟨List.mem_of_getElem? (i := 6) (by decide +kernel), rfl⟩
theorem w7 : Cond.selects RX3 yX3_add yX3_add ∈ xBW := xBW_of ⟨List.mem_of_getElem? (i := 7) (by decide +kernel), rfl⟩
theorem w8 : Cond.selects RX3 yX3_takes yX3_takes ∈ xBW := xBW_of ⟨List.mem_of_getElem? (i := 8) (by decide +kernel), rfl⟩
theorem w9 : Cond.selects RX5 yX5_isMetBySelf yX5_isMetBySelf ∈ xBW := xBW_of ⟨List.mem_of_getElem? (i := 9) (by decide +kernel), rfl⟩
theorem w10 : Cond.selects RX8 yX8_waysOn yX8_waysOn ∈ xBW := xBW_of ⟨List.mem_of_getElem? (i := 10) (by decide +kernel), rfl⟩
theorem w11 : Cond.selects RX8 yX8_draw yX8_draw ∈ xBW := xBW_of ⟨List.mem_of_getElem? (i := 11) (by decide +kernel), rfl⟩
theorem w12 : Cond.selects RX8 yX8_take yX8_take ∈ xBW := xBW_of ⟨List.mem_of_getElem? (i := 12) (by decide +kernel), rfl⟩
theorem w13 : Cond.selects RX9 yX9_usersOf yX9_usersOf ∈ xBW := xBW_of ⟨List.mem_of_getElem? (i := 13) (by decide +kernel), rfl⟩
theorem w14 : Cond.initialized RL ∈ xBW := xBW_of ⟨List.mem_of_getElem? (i := 14) (by decide +kernel), rfl⟩
theorem w15 : Cond.initialized RX9 ∈ xBW := xBW_of ⟨List.mem_of_getElem? (i := 15) (by decide +kernel), rfl⟩
theorem w16 : Cond.initialized RX4 ∈ xBW := xBW_of ⟨List.mem_of_getElem? (i := 16) (by decide +kernel), rfl⟩
theorem w17 : Cond.initialized RX1 ∈ xBW := xBW_of ⟨List.mem_of_getElem? (i := 17) (by decide +kernel), rfl⟩
theorem w18 : Cond.initialized RX3 ∈ xBW := xBW_of ⟨List.mem_of_getElem? (i := 18) (by decide +kernel), rfl⟩
theorem w19 : Cond.initialized RX7 ∈ xBW := xBW_of ⟨List.mem_of_getElem? (i := 19) (by decide +kernel), rfl⟩
theorem w20 : Cond.initialized RX0 ∈ xBW := xBW_of ⟨List.mem_of_getElem? (i := 20) (by decide +kernel), rfl⟩
theorem w21 : Cond.initialized RX2 ∈ xBW := xBW_of ⟨List.mem_of_getElem? (i := 21) (by decide +kernel), rfl⟩
theorem w22 : Cond.initialized RX5 ∈ xBW := xBW_of ⟨List.mem_of_getElem? (i := 22) (by decide +kernel), rfl⟩
theorem w23 : Cond.initialized RX6 ∈ xBW := xBW_of ⟨List.mem_of_getElem? (i := 23) (by decide +kernel), rfl⟩
theorem w24 : Cond.initialized RX8 ∈ xBW := xBW_of ⟨List.mem_of_getElem? (i := 24) (by decide +kernel), rfl⟩
theorem w25 : Cond.classLink RL 19 RX9 ∈ xBW := xBW_of ⟨List.mem_of_getElem? (i := 25) (by decide +kernel), rfl⟩
theorem w26 : Cond.instantiable RX9 13 ∈ xBW := xBW_of ⟨List.mem_of_getElem? (i := 26) (by decide +kernel), rfl⟩
theorem w27 : Cond.methodLink RL 74 yX9_init ∈ xBW := xBW_of ⟨List.mem_of_getElem? (i := 27) (by decide +kernel), rfl⟩
theorem w28 : Cond.instanceMethod yX9_init ∈ xBW := xBW_of ⟨List.mem_of_getElem? (i := 28) (by decide +kernel), rfl⟩
set_option maxRecDepth 100000 in
theorem w29 : Cond.code yX9_init cX9_init 2 none ∈ xBW := xBW_of ⟨List.mem_of_getElem? (i := 29) rfl, rfl⟩
theorem w30 : Cond.methodLink RX9 3 objectInit ∈ xBW := xBW_of ⟨List.mem_of_getElem? (i := 30) (by decide +kernel), rfl⟩
theorem w31 : Cond.instanceMethod objectInit ∈ xBW := xBW_of ⟨List.mem_of_getElem? (i := 31) (by decide +kernel), rfl⟩
set_option maxRecDepth 100000 in
theorem w32 : Cond.code objectInit ⟨#[0xb1]⟩ 1 none ∈ xBW := xBW_of ⟨List.mem_of_getElem? (i := 32) rfl, rfl⟩
theorem w33 : Cond.classLink RX9 9 RX4 ∈ xBW := xBW_of ⟨List.mem_of_getElem? (i := 33) (by decide +kernel), rfl⟩
theorem w34 : Cond.instantiable RX4 2 ∈ xBW := xBW_of ⟨List.mem_of_getElem? (i := 34) (by decide +kernel), rfl⟩
theorem w35 : Cond.methodLinkNest RX9 11 yX4_init "HourAgo" ∈ lw_tbl := List.mem_of_getElem? (i := 35) (by decide +kernel)
theorem w36 : Cond.instanceMethod yX4_init ∈ xBW := xBW_of ⟨List.mem_of_getElem? (i := 36) (by decide +kernel), rfl⟩
set_option maxRecDepth 100000 in
theorem w37 : Cond.code yX4_init cX4_init 1 none ∈ xBW := xBW_of ⟨List.mem_of_getElem? (i := 37) rfl, rfl⟩
theorem w38 : Cond.methodLink RX4 3 objectInit ∈ xBW := xBW_of ⟨List.mem_of_getElem? (i := 38) (by decide +kernel), rfl⟩
theorem w39 : Cond.fieldLink RX4 9 "HourAgo$Page" "codes" "[I" ∈ xBW := xBW_of ⟨List.mem_of_getElem? (i := 39) (by decide +kernel), rfl⟩
theorem w40 : Cond.fieldLink RX4 21 "HourAgo$Page" "length" "I" ∈ xBW := xBW_of ⟨List.mem_of_getElem? (i := 40) (by decide +kernel), rfl⟩
theorem w46 : Cond.arrayClass .int ∈ xBW := xBW_of ⟨List.mem_of_getElem? (i := 46) (by decide +kernel), rfl⟩
theorem w47 : Cond.classLink RX9 16 RX1 ∈ xBW := xBW_of ⟨List.mem_of_getElem? (i := 47) (by decide +kernel), rfl⟩
theorem w48 : Cond.instantiable RX1 8 ∈ xBW := xBW_of ⟨List.mem_of_getElem? (i := 48) (by decide +kernel), rfl⟩
theorem w49 : Cond.methodLinkNest RX9 18 yX1_init "HourAgo" ∈ lw_tbl := List.mem_of_getElem? (i := 49) (by decide +kernel)
theorem w50 : Cond.instanceMethod yX1_init ∈ xBW := xBW_of ⟨List.mem_of_getElem? (i := 50) (by decide +kernel), rfl⟩
set_option maxRecDepth 100000 in
theorem w51 : Cond.code yX1_init cX1_init 1 none ∈ xBW := xBW_of ⟨List.mem_of_getElem? (i := 51) rfl, rfl⟩
theorem w52 : Cond.methodLink RX1 3 objectInit ∈ xBW := xBW_of ⟨List.mem_of_getElem? (i := 52) (by decide +kernel), rfl⟩
theorem w53 : Cond.fieldLink RX1 9 "HourAgo$House" "doorNumbers" "[I" ∈ xBW := xBW_of ⟨List.mem_of_getElem? (i := 53) (by decide +kernel), rfl⟩
theorem w54 : Cond.fieldLink RX1 15 "HourAgo$House" "seenRooms" "[I" ∈ xBW := xBW_of ⟨List.mem_of_getElem? (i := 54) (by decide +kernel), rfl⟩
theorem w55 : Cond.fieldLink RX1 42 "HourAgo$House" "doors" "I" ∈ xBW := xBW_of ⟨List.mem_of_getElem? (i := 55) (by decide +kernel), rfl⟩
theorem w56 : Cond.fieldLink RX1 45 "HourAgo$House" "sights" "I" ∈ xBW := xBW_of ⟨List.mem_of_getElem? (i := 56) (by decide +kernel), rfl⟩
theorem w57 : Cond.fieldLink RX1 18 "HourAgo$House" "lowRoom" "I" ∈ xBW := xBW_of ⟨List.mem_of_getElem? (i := 57) (by decide +kernel), rfl⟩
theorem w58 : Cond.fieldLink RX1 48 "HourAgo$House" "back" "I" ∈ xBW := xBW_of ⟨List.mem_of_getElem? (i := 58) (by decide +kernel), rfl⟩
theorem w59 : Cond.fieldLink RX1 39 "HourAgo$House" "stage" "I" ∈ xBW := xBW_of ⟨List.mem_of_getElem? (i := 59) (by decide +kernel), rfl⟩
theorem w60 : Cond.fieldLink RX1 54 "HourAgo$House" "firstRoom" "I" ∈ xBW := xBW_of ⟨List.mem_of_getElem? (i := 60) (by decide +kernel), rfl⟩
theorem w78 : Cond.classLink RX9 26 RX3 ∈ xBW := xBW_of ⟨List.mem_of_getElem? (i := 78) (by decide +kernel), rfl⟩
theorem w79 : Cond.instantiable RX3 4 ∈ xBW := xBW_of ⟨List.mem_of_getElem? (i := 79) (by decide +kernel), rfl⟩
theorem w80 : Cond.methodLinkNest RX9 28 yX3_init "HourAgo" ∈ lw_tbl := List.mem_of_getElem? (i := 80) (by decide +kernel)
theorem w81 : Cond.instanceMethod yX3_init ∈ xBW := xBW_of ⟨List.mem_of_getElem? (i := 81) (by decide +kernel), rfl⟩
set_option maxRecDepth 100000 in
theorem w82 : Cond.code yX3_init cX3_init 1 none ∈ xBW := xBW_of ⟨List.mem_of_getElem? (i := 82) rfl, rfl⟩
theorem w83 : Cond.methodLink RX3 3 objectInit ∈ xBW := xBW_of ⟨List.mem_of_getElem? (i := 83) (by decide +kernel), rfl⟩
theorem w84 : Cond.fieldLink RX3 11 "HourAgo$Life" "spots" "[I" ∈ xBW := xBW_of ⟨List.mem_of_getElem? (i := 84) (by decide +kernel), rfl⟩
theorem w85 : Cond.fieldLink RX3 79 "HourAgo$Life" "selves" "I" ∈ xBW := xBW_of ⟨List.mem_of_getElem? (i := 85) (by decide +kernel), rfl⟩
theorem w86 : Cond.fieldLink RX3 66 "HourAgo$Life" "throughs" "I" ∈ xBW := xBW_of ⟨List.mem_of_getElem? (i := 86) (by decide +kernel), rfl⟩
theorem w87 : Cond.fieldLink RX3 70 "HourAgo$Life" "doorBits" "I" ∈ xBW := xBW_of ⟨List.mem_of_getElem? (i := 87) (by decide +kernel), rfl⟩
theorem w97 : Cond.classLink RX9 33 RX5 ∈ xBW := xBW_of ⟨List.mem_of_getElem? (i := 97) (by decide +kernel), rfl⟩
theorem w99 : Cond.classLink RX9 39 RX7 ∈ xBW := xBW_of ⟨List.mem_of_getElem? (i := 99) (by decide +kernel), rfl⟩
theorem w100 : Cond.instantiable RX7 4 ∈ xBW := xBW_of ⟨List.mem_of_getElem? (i := 100) (by decide +kernel), rfl⟩
theorem w101 : Cond.methodLinkNest RX9 41 yX7_init "HourAgo" ∈ lw_tbl := List.mem_of_getElem? (i := 101) (by decide +kernel)
theorem w102 : Cond.instanceMethod yX7_init ∈ xBW := xBW_of ⟨List.mem_of_getElem? (i := 102) (by decide +kernel), rfl⟩
set_option maxRecDepth 100000 in
theorem w103 : Cond.code yX7_init cX7_init 1 none ∈ xBW := xBW_of ⟨List.mem_of_getElem? (i := 103) rfl, rfl⟩
theorem w104 : Cond.methodLink RX7 3 objectInit ∈ xBW := xBW_of ⟨List.mem_of_getElem? (i := 104) (by decide +kernel), rfl⟩
theorem w105 : Cond.fieldLink RX7 9 "HourAgo$Tasks" "rooms" "[I" ∈ xBW := xBW_of ⟨List.mem_of_getElem? (i := 105) (by decide +kernel), rfl⟩
theorem w106 : Cond.fieldLink RX7 15 "HourAgo$Tasks" "froms" "[I" ∈ xBW := xBW_of ⟨List.mem_of_getElem? (i := 106) (by decide +kernel), rfl⟩
theorem w107 : Cond.fieldLink RX7 18 "HourAgo$Tasks" "tos" "[I" ∈ xBW := xBW_of ⟨List.mem_of_getElem? (i := 107) (by decide +kernel), rfl⟩
theorem w108 : Cond.fieldLink RX7 21 "HourAgo$Tasks" "size" "I" ∈ xBW := xBW_of ⟨List.mem_of_getElem? (i := 108) (by decide +kernel), rfl⟩
theorem w118 : Cond.classLink RX9 46 RX0 ∈ xBW := xBW_of ⟨List.mem_of_getElem? (i := 118) (by decide +kernel), rfl⟩
theorem w119 : Cond.instantiable RX0 2 ∈ xBW := xBW_of ⟨List.mem_of_getElem? (i := 119) (by decide +kernel), rfl⟩
theorem w120 : Cond.methodLinkNest RX9 48 yX0_init "HourAgo" ∈ lw_tbl := List.mem_of_getElem? (i := 120) (by decide +kernel)
theorem w121 : Cond.instanceMethod yX0_init ∈ xBW := xBW_of ⟨List.mem_of_getElem? (i := 121) (by decide +kernel), rfl⟩
set_option maxRecDepth 100000 in
theorem w122 : Cond.code yX0_init cX0_init 1 none ∈ xBW := xBW_of ⟨List.mem_of_getElem? (i := 122) rfl, rfl⟩
theorem w123 : Cond.methodLink RX0 3 objectInit ∈ xBW := xBW_of ⟨List.mem_of_getElem? (i := 123) (by decide +kernel), rfl⟩
theorem w124 : Cond.fieldLink RX0 9 "HourAgo$Glimpses" "spots" "[I" ∈ xBW := xBW_of ⟨List.mem_of_getElem? (i := 124) (by decide +kernel), rfl⟩
theorem w125 : Cond.fieldLink RX0 15 "HourAgo$Glimpses" "size" "I" ∈ xBW := xBW_of ⟨List.mem_of_getElem? (i := 125) (by decide +kernel), rfl⟩
theorem w131 : Cond.classLink RX9 53 RX2 ∈ xBW := xBW_of ⟨List.mem_of_getElem? (i := 131) (by decide +kernel), rfl⟩
theorem w132 : Cond.instantiable RX2 5 ∈ xBW := xBW_of ⟨List.mem_of_getElem? (i := 132) (by decide +kernel), rfl⟩
theorem w133 : Cond.methodLink RX9 55 yX2_init ∈ xBW := xBW_of ⟨List.mem_of_getElem? (i := 133) (by decide +kernel), rfl⟩
theorem w134 : Cond.instanceMethod yX2_init ∈ xBW := xBW_of ⟨List.mem_of_getElem? (i := 134) (by decide +kernel), rfl⟩
set_option maxRecDepth 100000 in
theorem w135 : Cond.code yX2_init cX2_init 2 none ∈ xBW := xBW_of ⟨List.mem_of_getElem? (i := 135) rfl, rfl⟩
theorem w136 : Cond.methodLink RX2 3 objectInit ∈ xBW := xBW_of ⟨List.mem_of_getElem? (i := 136) (by decide +kernel), rfl⟩
theorem w137 : Cond.classLink RX2 9 RX5 ∈ xBW := xBW_of ⟨List.mem_of_getElem? (i := 137) (by decide +kernel), rfl⟩
theorem w138 : Cond.classLink RX2 17 RX7 ∈ xBW := xBW_of ⟨List.mem_of_getElem? (i := 138) (by decide +kernel), rfl⟩
theorem w139 : Cond.methodLinkNest RX2 19 yX7_init "HourAgo" ∈ lw_tbl := List.mem_of_getElem? (i := 139) (by decide +kernel)
theorem w140 : Cond.classLink RX2 24 RX0 ∈ xBW := xBW_of ⟨List.mem_of_getElem? (i := 140) (by decide +kernel), rfl⟩
theorem w141 : Cond.methodLinkNest RX2 26 yX0_init "HourAgo" ∈ lw_tbl := List.mem_of_getElem? (i := 141) (by decide +kernel)
theorem w142 : Cond.instantiable RX5 2 ∈ xBW := xBW_of ⟨List.mem_of_getElem? (i := 142) (by decide +kernel), rfl⟩
theorem w143 : Cond.methodLinkNest RX2 31 yX5_init "HourAgo" ∈ lw_tbl := List.mem_of_getElem? (i := 143) (by decide +kernel)
theorem w144 : Cond.instanceMethod yX5_init ∈ xBW := xBW_of ⟨List.mem_of_getElem? (i := 144) (by decide +kernel), rfl⟩
set_option maxRecDepth 100000 in
theorem w145 : Cond.code yX5_init cX5_init 1 none ∈ xBW := xBW_of ⟨List.mem_of_getElem? (i := 145) rfl, rfl⟩
theorem w146 : Cond.methodLink RX5 3 objectInit ∈ xBW := xBW_of ⟨List.mem_of_getElem? (i := 146) (by decide +kernel), rfl⟩
theorem w147 : Cond.classLink RX5 9 RX3 ∈ xBW := xBW_of ⟨List.mem_of_getElem? (i := 147) (by decide +kernel), rfl⟩
theorem w148 : Cond.methodLinkNest RX5 11 yX3_init "HourAgo" ∈ lw_tbl := List.mem_of_getElem? (i := 148) (by decide +kernel)
theorem w149 : Cond.fieldLink RX5 12 "HourAgo$Person" "life" "LHourAgo$Life;" ∈ xBW := xBW_of ⟨List.mem_of_getElem? (i := 149) (by decide +kernel), rfl⟩
theorem w150 : Cond.fieldLink RX5 18 "HourAgo$Person" "kind" "I" ∈ xBW := xBW_of ⟨List.mem_of_getElem? (i := 150) (by decide +kernel), rfl⟩
theorem w156 : Cond.fieldLink RX2 11 "HourAgo$Image" "people" "[LHourAgo$Person;" ∈ xBW := xBW_of ⟨List.mem_of_getElem? (i := 156) (by decide +kernel), rfl⟩
theorem w157 : Cond.fieldLink RX2 20 "HourAgo$Image" "tasks" "LHourAgo$Tasks;" ∈ xBW := xBW_of ⟨List.mem_of_getElem? (i := 157) (by decide +kernel), rfl⟩
theorem w158 : Cond.fieldLink RX2 27 "HourAgo$Image" "glimpses" "LHourAgo$Glimpses;" ∈ xBW := xBW_of ⟨List.mem_of_getElem? (i := 158) (by decide +kernel), rfl⟩
theorem w159 : Cond.fieldLink RX2 32 "HourAgo$Image" "kept" "Z" ∈ xBW := xBW_of ⟨List.mem_of_getElem? (i := 159) (by decide +kernel), rfl⟩
theorem w171 : Cond.classLink RX9 60 RX6 ∈ xBW := xBW_of ⟨List.mem_of_getElem? (i := 171) (by decide +kernel), rfl⟩
theorem w172 : Cond.instantiable RX6 7 ∈ xBW := xBW_of ⟨List.mem_of_getElem? (i := 172) (by decide +kernel), rfl⟩
theorem w173 : Cond.methodLinkNest RX9 62 yX6_init "HourAgo" ∈ lw_tbl := List.mem_of_getElem? (i := 173) (by decide +kernel)
theorem w174 : Cond.instanceMethod yX6_init ∈ xBW := xBW_of ⟨List.mem_of_getElem? (i := 174) (by decide +kernel), rfl⟩
set_option maxRecDepth 100000 in
theorem w175 : Cond.code yX6_init cX6_init 1 none ∈ xBW := xBW_of ⟨List.mem_of_getElem? (i := 175) rfl, rfl⟩
theorem w176 : Cond.methodLink RX6 3 objectInit ∈ xBW := xBW_of ⟨List.mem_of_getElem? (i := 176) (by decide +kernel), rfl⟩
theorem w177 : Cond.fieldLink RX6 11 "HourAgo$Search" "reach" "[I" ∈ xBW := xBW_of ⟨List.mem_of_getElem? (i := 177) (by decide +kernel), rfl⟩
theorem w178 : Cond.fieldLink RX6 15 "HourAgo$Search" "roomsTaken" "[I" ∈ xBW := xBW_of ⟨List.mem_of_getElem? (i := 178) (by decide +kernel), rfl⟩
theorem w194 : Cond.classLink RX9 67 RX8 ∈ xBW := xBW_of ⟨List.mem_of_getElem? (i := 194) (by decide +kernel), rfl⟩
theorem w195 : Cond.instantiable RX8 3 ∈ xBW := xBW_of ⟨List.mem_of_getElem? (i := 195) (by decide +kernel), rfl⟩
theorem w196 : Cond.methodLinkNest RX9 69 yX8_init "HourAgo" ∈ lw_tbl := List.mem_of_getElem? (i := 196) (by decide +kernel)
theorem w197 : Cond.instanceMethod yX8_init ∈ xBW := xBW_of ⟨List.mem_of_getElem? (i := 197) (by decide +kernel), rfl⟩
set_option maxRecDepth 100000 in
theorem w198 : Cond.code yX8_init cX8_init 1 none ∈ xBW := xBW_of ⟨List.mem_of_getElem? (i := 198) rfl, rfl⟩
theorem w199 : Cond.methodLink RX8 3 objectInit ∈ xBW := xBW_of ⟨List.mem_of_getElem? (i := 199) (by decide +kernel), rfl⟩
theorem w200 : Cond.fieldLink RX8 9 "HourAgo$Walk" "spot" "I" ∈ xBW := xBW_of ⟨List.mem_of_getElem? (i := 200) (by decide +kernel), rfl⟩
theorem w201 : Cond.fieldLink RX8 15 "HourAgo$Walk" "throughs" "I" ∈ xBW := xBW_of ⟨List.mem_of_getElem? (i := 201) (by decide +kernel), rfl⟩
theorem w202 : Cond.fieldLink RX8 18 "HourAgo$Walk" "seed" "I" ∈ xBW := xBW_of ⟨List.mem_of_getElem? (i := 202) (by decide +kernel), rfl⟩
theorem w210 : Cond.methodLinkNest RX9 74 yX5_init "HourAgo" ∈ lw_tbl := List.mem_of_getElem? (i := 210) (by decide +kernel)
theorem w211 : Cond.fieldLink RX9 12 "HourAgo" "page" "LHourAgo$Page;" ∈ xBW := xBW_of ⟨List.mem_of_getElem? (i := 211) (by decide +kernel), rfl⟩
theorem w212 : Cond.fieldLink RX9 19 "HourAgo" "house" "LHourAgo$House;" ∈ xBW := xBW_of ⟨List.mem_of_getElem? (i := 212) (by decide +kernel), rfl⟩
theorem w213 : Cond.fieldLink RX9 23 "HourAgo" "draftHouse" "LHourAgo$House;" ∈ xBW := xBW_of ⟨List.mem_of_getElem? (i := 213) (by decide +kernel), rfl⟩
theorem w214 : Cond.fieldLink RX9 29 "HourAgo" "draftLife" "LHourAgo$Life;" ∈ xBW := xBW_of ⟨List.mem_of_getElem? (i := 214) (by decide +kernel), rfl⟩
theorem w215 : Cond.fieldLink RX9 35 "HourAgo" "people" "[LHourAgo$Person;" ∈ xBW := xBW_of ⟨List.mem_of_getElem? (i := 215) (by decide +kernel), rfl⟩
theorem w216 : Cond.fieldLink RX9 42 "HourAgo" "tasks" "LHourAgo$Tasks;" ∈ xBW := xBW_of ⟨List.mem_of_getElem? (i := 216) (by decide +kernel), rfl⟩
theorem w217 : Cond.fieldLink RX9 49 "HourAgo" "glimpses" "LHourAgo$Glimpses;" ∈ xBW := xBW_of ⟨List.mem_of_getElem? (i := 217) (by decide +kernel), rfl⟩
theorem w218 : Cond.fieldLink RX9 56 "HourAgo" "image" "LHourAgo$Image;" ∈ xBW := xBW_of ⟨List.mem_of_getElem? (i := 218) (by decide +kernel), rfl⟩
theorem w219 : Cond.fieldLink RX9 63 "HourAgo" "search" "LHourAgo$Search;" ∈ xBW := xBW_of ⟨List.mem_of_getElem? (i := 219) (by decide +kernel), rfl⟩
theorem w220 : Cond.fieldLink RX9 70 "HourAgo" "walk" "LHourAgo$Walk;" ∈ xBW := xBW_of ⟨List.mem_of_getElem? (i := 220) (by decide +kernel), rfl⟩
theorem w221 : Cond.fieldLink RX9 105 "HourAgo" "peopleCount" "I" ∈ xBW := xBW_of ⟨List.mem_of_getElem? (i := 221) (by decide +kernel), rfl⟩
theorem w222 : Cond.fieldLink RX9 101 "HourAgo" "housesRead" "I" ∈ xBW := xBW_of ⟨List.mem_of_getElem? (i := 222) (by decide +kernel), rfl⟩
theorem w223 : Cond.fieldLink RX9 217 "HourAgo" "searchesDone" "I" ∈ xBW := xBW_of ⟨List.mem_of_getElem? (i := 223) (by decide +kernel), rfl⟩
theorem w251 : Cond.methodLink RL 43 yX9_fault ∈ xBW := xBW_of ⟨List.mem_of_getElem? (i := 251) (by decide +kernel), rfl⟩
theorem w252 : Cond.instanceMethod yX9_fault ∈ xBW := xBW_of ⟨List.mem_of_getElem? (i := 252) (by decide +kernel), rfl⟩
theorem w253 : Cond.selects RX9 yX9_fault yX9_fault ∈ xBW := xBW_of ⟨List.mem_of_getElem? (i := 253) (by decide +kernel), rfl⟩
set_option maxRecDepth 100000 in
theorem w254 : Cond.code yX9_fault cX9_fault 2 (some .int) ∈ xBW := xBW_of ⟨List.mem_of_getElem? (i := 254) rfl, rfl⟩
theorem w255 : Cond.methodLink RX9 90 yX1_read ∈ xBW := xBW_of ⟨List.mem_of_getElem? (i := 255) (by decide +kernel), rfl⟩
theorem w256 : Cond.instanceMethod yX1_read ∈ xBW := xBW_of ⟨List.mem_of_getElem? (i := 256) (by decide +kernel), rfl⟩
theorem w257 : Cond.selects RX1 yX1_read yX1_read ∈ xBW := xBW_of ⟨List.mem_of_getElem? (i := 257) (by decide +kernel), rfl⟩
set_option maxRecDepth 100000 in
theorem w258 : Cond.code yX1_read cX1_read 3 (some .int) ∈ xBW := xBW_of ⟨List.mem_of_getElem? (i := 258) rfl, rfl⟩
theorem w259 : Cond.methodLink RX1 22 yX1_clear ∈ xBW := xBW_of ⟨List.mem_of_getElem? (i := 259) (by decide +kernel), rfl⟩
theorem w261 : Cond.instanceMethod yX1_clear ∈ xBW := xBW_of ⟨List.mem_of_getElem? (i := 261) (by decide +kernel), rfl⟩
set_option maxRecDepth 100000 in
theorem w262 : Cond.code yX1_clear cX1_clear 2 none ∈ xBW := xBW_of ⟨List.mem_of_getElem? (i := 262) rfl, rfl⟩
theorem w263 : Cond.methodLink RX1 25 yX4_length ∈ xBW := xBW_of ⟨List.mem_of_getElem? (i := 263) (by decide +kernel), rfl⟩
theorem w264 : Cond.instanceMethod yX4_length ∈ xBW := xBW_of ⟨List.mem_of_getElem? (i := 264) (by decide +kernel), rfl⟩
theorem w265 : Cond.selects RX4 yX4_length yX4_length ∈ xBW := xBW_of ⟨List.mem_of_getElem? (i := 265) (by decide +kernel), rfl⟩
set_option maxRecDepth 100000 in
theorem w266 : Cond.code yX4_length cX4_length 1 (some .int) ∈ xBW := xBW_of ⟨List.mem_of_getElem? (i := 266) rfl, rfl⟩
theorem w267 : Cond.methodLink RX1 31 yX4_at ∈ xBW := xBW_of ⟨List.mem_of_getElem? (i := 267) (by decide +kernel), rfl⟩
theorem w268 : Cond.instanceMethod yX4_at ∈ xBW := xBW_of ⟨List.mem_of_getElem? (i := 268) (by decide +kernel), rfl⟩
theorem w269 : Cond.selects RX4 yX4_at yX4_at ∈ xBW := xBW_of ⟨List.mem_of_getElem? (i := 269) (by decide +kernel), rfl⟩
set_option maxRecDepth 100000 in
theorem w270 : Cond.code yX4_at cX4_at 2 (some .int) ∈ xBW := xBW_of ⟨List.mem_of_getElem? (i := 270) rfl, rfl⟩
theorem w271 : Cond.methodLink RX1 35 yX1_takes ∈ xBW := xBW_of ⟨List.mem_of_getElem? (i := 271) (by decide +kernel), rfl⟩
theorem w273 : Cond.instanceMethod yX1_takes ∈ xBW := xBW_of ⟨List.mem_of_getElem? (i := 273) (by decide +kernel), rfl⟩
set_option maxRecDepth 100000 in
theorem w274 : Cond.code yX1_takes cX1_takes 2 (some .boolean) ∈ xBW := xBW_of ⟨List.mem_of_getElem? (i := 274) rfl, rfl⟩
theorem w275 : Cond.methodLinkNest RX1 51 yX9_roomDigitOf "HourAgo" ∈ lw_tbl := List.mem_of_getElem? (i := 275) (by decide +kernel)
theorem w276 : Cond.static yX9_roomDigitOf ∈ xBW := xBW_of ⟨List.mem_of_getElem? (i := 276) (by decide +kernel), rfl⟩
set_option maxRecDepth 100000 in
theorem w277 : Cond.code yX9_roomDigitOf cX9_roomDigitOf 1 (some .int) ∈ xBW := xBW_of ⟨List.mem_of_getElem? (i := 277) rfl, rfl⟩
theorem w278 : Cond.methodLink RX9 334 yX9_digitOf ∈ xBW := xBW_of ⟨List.mem_of_getElem? (i := 278) (by decide +kernel), rfl⟩
theorem w279 : Cond.static yX9_digitOf ∈ xBW := xBW_of ⟨List.mem_of_getElem? (i := 279) (by decide +kernel), rfl⟩
set_option maxRecDepth 100000 in
theorem w280 : Cond.code yX9_digitOf cX9_digitOf 4 (some .int) ∈ xBW := xBW_of ⟨List.mem_of_getElem? (i := 280) rfl, rfl⟩
theorem w281 : Cond.methodLink RX1 57 yX1_goesOn ∈ xBW := xBW_of ⟨List.mem_of_getElem? (i := 281) (by decide +kernel), rfl⟩
theorem w283 : Cond.instanceMethod yX1_goesOn ∈ xBW := xBW_of ⟨List.mem_of_getElem? (i := 283) (by decide +kernel), rfl⟩
set_option maxRecDepth 100000 in
theorem w284 : Cond.code yX1_goesOn cX1_goesOn 3 (some .boolean) ∈ xBW := xBW_of ⟨List.mem_of_getElem? (i := 284) rfl, rfl⟩
theorem w285 : Cond.methodLink RX1 61 yX1_addsDoor ∈ xBW := xBW_of ⟨List.mem_of_getElem? (i := 285) (by decide +kernel), rfl⟩
theorem w287 : Cond.instanceMethod yX1_addsDoor ∈ xBW := xBW_of ⟨List.mem_of_getElem? (i := 287) (by decide +kernel), rfl⟩
set_option maxRecDepth 100000 in
theorem w288 : Cond.code yX1_addsDoor cX1_addsDoor 3 (some .boolean) ∈ xBW := xBW_of ⟨List.mem_of_getElem? (i := 288) rfl, rfl⟩
theorem w289 : Cond.methodLinkNest RX1 72 yX9_isRoom "HourAgo" ∈ lw_tbl := List.mem_of_getElem? (i := 289) (by decide +kernel)
theorem w290 : Cond.static yX9_isRoom ∈ xBW := xBW_of ⟨List.mem_of_getElem? (i := 290) (by decide +kernel), rfl⟩
set_option maxRecDepth 100000 in
theorem w291 : Cond.code yX9_isRoom cX9_isRoom 1 (some .boolean) ∈ xBW := xBW_of ⟨List.mem_of_getElem? (i := 291) rfl, rfl⟩
theorem w292 : Cond.methodLink RX1 75 yX1_doorBetween ∈ xBW := xBW_of ⟨List.mem_of_getElem? (i := 292) (by decide +kernel), rfl⟩
theorem w293 : Cond.instanceMethod yX1_doorBetween ∈ xBW := xBW_of ⟨List.mem_of_getElem? (i := 293) (by decide +kernel), rfl⟩
theorem w294 : Cond.selects RX1 yX1_doorBetween yX1_doorBetween ∈ xBW := xBW_of ⟨List.mem_of_getElem? (i := 294) (by decide +kernel), rfl⟩
set_option maxRecDepth 100000 in
theorem w295 : Cond.code yX1_doorBetween cX1_doorBetween 3 (some .int) ∈ xBW := xBW_of ⟨List.mem_of_getElem? (i := 295) rfl, rfl⟩
theorem w296 : Cond.methodLinkNest RX1 65 yX9_digitOf "HourAgo" ∈ lw_tbl := List.mem_of_getElem? (i := 296) (by decide +kernel)
theorem w297 : Cond.methodLink RX1 69 yX1_addsSight ∈ xBW := xBW_of ⟨List.mem_of_getElem? (i := 297) (by decide +kernel), rfl⟩
theorem w299 : Cond.instanceMethod yX1_addsSight ∈ xBW := xBW_of ⟨List.mem_of_getElem? (i := 299) (by decide +kernel), rfl⟩
set_option maxRecDepth 100000 in
theorem w300 : Cond.code yX1_addsSight cX1_addsSight 3 (some .boolean) ∈ xBW := xBW_of ⟨List.mem_of_getElem? (i := 300) rfl, rfl⟩
theorem w301 : Cond.methodLink RX1 79 yX1_isSeenFrom ∈ xBW := xBW_of ⟨List.mem_of_getElem? (i := 301) (by decide +kernel), rfl⟩
theorem w302 : Cond.instanceMethod yX1_isSeenFrom ∈ xBW := xBW_of ⟨List.mem_of_getElem? (i := 302) (by decide +kernel), rfl⟩
theorem w303 : Cond.selects RX1 yX1_isSeenFrom yX1_isSeenFrom ∈ xBW := xBW_of ⟨List.mem_of_getElem? (i := 303) (by decide +kernel), rfl⟩
set_option maxRecDepth 100000 in
theorem w304 : Cond.code yX1_isSeenFrom cX1_isSeenFrom 3 (some .boolean) ∈ xBW := xBW_of ⟨List.mem_of_getElem? (i := 304) rfl, rfl⟩
theorem w305 : Cond.methodLink RX9 94 yX3_faultIn ∈ xBW := xBW_of ⟨List.mem_of_getElem? (i := 305) (by decide +kernel), rfl⟩
theorem w306 : Cond.static yX3_faultIn ∈ xBW := xBW_of ⟨List.mem_of_getElem? (i := 306) (by decide +kernel), rfl⟩
set_option maxRecDepth 100000 in
theorem w307 : Cond.code yX3_faultIn cX3_faultIn 2 (some .int) ∈ xBW := xBW_of ⟨List.mem_of_getElem? (i := 307) rfl, rfl⟩
theorem w308 : Cond.methodLink RX3 15 yX4_length ∈ xBW := xBW_of ⟨List.mem_of_getElem? (i := 308) (by decide +kernel), rfl⟩
theorem w309 : Cond.methodLink RX3 21 yX4_at ∈ xBW := xBW_of ⟨List.mem_of_getElem? (i := 309) (by decide +kernel), rfl⟩
theorem w310 : Cond.methodLink RX3 25 yX3_mayStand ∈ xBW := xBW_of ⟨List.mem_of_getElem? (i := 310) (by decide +kernel), rfl⟩
theorem w311 : Cond.static yX3_mayStand ∈ xBW := xBW_of ⟨List.mem_of_getElem? (i := 311) (by decide +kernel), rfl⟩
set_option maxRecDepth 100000 in
theorem w312 : Cond.code yX3_mayStand cX3_mayStand 2 (some .boolean) ∈ xBW := xBW_of ⟨List.mem_of_getElem? (i := 312) rfl, rfl⟩
theorem w313 : Cond.methodLinkNest RX3 29 yX9_digitOf "HourAgo" ∈ lw_tbl := List.mem_of_getElem? (i := 313) (by decide +kernel)
theorem w314 : Cond.methodLinkNest RX3 33 yX9_roomDigitOf "HourAgo" ∈ lw_tbl := List.mem_of_getElem? (i := 314) (by decide +kernel)
theorem w315 : Cond.methodLink RX3 36 yX3_stepOf ∈ xBW := xBW_of ⟨List.mem_of_getElem? (i := 315) (by decide +kernel), rfl⟩
theorem w316 : Cond.static yX3_stepOf ∈ xBW := xBW_of ⟨List.mem_of_getElem? (i := 316) (by decide +kernel), rfl⟩
set_option maxRecDepth 100000 in
theorem w317 : Cond.code yX3_stepOf cX3_stepOf 1 (some .int) ∈ xBW := xBW_of ⟨List.mem_of_getElem? (i := 317) rfl, rfl⟩
theorem w318 : Cond.methodLink RL 79 yX9_house ∈ xBW := xBW_of ⟨List.mem_of_getElem? (i := 318) (by decide +kernel), rfl⟩
theorem w319 : Cond.instanceMethod yX9_house ∈ xBW := xBW_of ⟨List.mem_of_getElem? (i := 319) (by decide +kernel), rfl⟩
theorem w320 : Cond.selects RX9 yX9_house yX9_house ∈ xBW := xBW_of ⟨List.mem_of_getElem? (i := 320) (by decide +kernel), rfl⟩
set_option maxRecDepth 100000 in
theorem w321 : Cond.code yX9_house cX9_house 1 (some .int) ∈ xBW := xBW_of ⟨List.mem_of_getElem? (i := 321) rfl, rfl⟩
theorem w322 : Cond.methodLink RX9 79 yX4_length ∈ xBW := xBW_of ⟨List.mem_of_getElem? (i := 322) (by decide +kernel), rfl⟩
theorem w323 : Cond.methodLink RX9 97 yX1_isWhole ∈ xBW := xBW_of ⟨List.mem_of_getElem? (i := 323) (by decide +kernel), rfl⟩
theorem w324 : Cond.instanceMethod yX1_isWhole ∈ xBW := xBW_of ⟨List.mem_of_getElem? (i := 324) (by decide +kernel), rfl⟩
theorem w325 : Cond.selects RX1 yX1_isWhole yX1_isWhole ∈ xBW := xBW_of ⟨List.mem_of_getElem? (i := 325) (by decide +kernel), rfl⟩
set_option maxRecDepth 100000 in
theorem w326 : Cond.code yX1_isWhole cX1_isWhole 1 (some .boolean) ∈ xBW := xBW_of ⟨List.mem_of_getElem? (i := 326) rfl, rfl⟩
theorem w327 : Cond.methodLink RX9 108 yX7_clear ∈ xBW := xBW_of ⟨List.mem_of_getElem? (i := 327) (by decide +kernel), rfl⟩
theorem w328 : Cond.instanceMethod yX7_clear ∈ xBW := xBW_of ⟨List.mem_of_getElem? (i := 328) (by decide +kernel), rfl⟩
theorem w329 : Cond.selects RX7 yX7_clear yX7_clear ∈ xBW := xBW_of ⟨List.mem_of_getElem? (i := 329) (by decide +kernel), rfl⟩
set_option maxRecDepth 100000 in
theorem w330 : Cond.code yX7_clear cX7_clear 1 none ∈ xBW := xBW_of ⟨List.mem_of_getElem? (i := 330) rfl, rfl⟩
theorem w331 : Cond.methodLink RX9 109 yX0_clear ∈ xBW := xBW_of ⟨List.mem_of_getElem? (i := 331) (by decide +kernel), rfl⟩
theorem w332 : Cond.instanceMethod yX0_clear ∈ xBW := xBW_of ⟨List.mem_of_getElem? (i := 332) (by decide +kernel), rfl⟩
theorem w333 : Cond.selects RX0 yX0_clear yX0_clear ∈ xBW := xBW_of ⟨List.mem_of_getElem? (i := 333) (by decide +kernel), rfl⟩
set_option maxRecDepth 100000 in
theorem w334 : Cond.code yX0_clear cX0_clear 1 none ∈ xBW := xBW_of ⟨List.mem_of_getElem? (i := 334) rfl, rfl⟩
theorem w335 : Cond.methodLink RX9 110 yX2_drop ∈ xBW := xBW_of ⟨List.mem_of_getElem? (i := 335) (by decide +kernel), rfl⟩
theorem w336 : Cond.instanceMethod yX2_drop ∈ xBW := xBW_of ⟨List.mem_of_getElem? (i := 336) (by decide +kernel), rfl⟩
theorem w337 : Cond.selects RX2 yX2_drop yX2_drop ∈ xBW := xBW_of ⟨List.mem_of_getElem? (i := 337) (by decide +kernel), rfl⟩
set_option maxRecDepth 100000 in
theorem w338 : Cond.code yX2_drop cX2_drop 1 none ∈ xBW := xBW_of ⟨List.mem_of_getElem? (i := 338) rfl, rfl⟩
theorem w339 : Cond.methodLink RX9 87 yX4_clear ∈ xBW := xBW_of ⟨List.mem_of_getElem? (i := 339) (by decide +kernel), rfl⟩
theorem w340 : Cond.instanceMethod yX4_clear ∈ xBW := xBW_of ⟨List.mem_of_getElem? (i := 340) (by decide +kernel), rfl⟩
theorem w341 : Cond.selects RX4 yX4_clear yX4_clear ∈ xBW := xBW_of ⟨List.mem_of_getElem? (i := 341) (by decide +kernel), rfl⟩
set_option maxRecDepth 100000 in
theorem w342 : Cond.code yX4_clear cX4_clear 1 none ∈ xBW := xBW_of ⟨List.mem_of_getElem? (i := 342) rfl, rfl⟩
theorem w343 : Cond.methodLink RX9 113 yX1_doors ∈ xBW := xBW_of ⟨List.mem_of_getElem? (i := 343) (by decide +kernel), rfl⟩
theorem w344 : Cond.instanceMethod yX1_doors ∈ xBW := xBW_of ⟨List.mem_of_getElem? (i := 344) (by decide +kernel), rfl⟩
theorem w345 : Cond.selects RX1 yX1_doors yX1_doors ∈ xBW := xBW_of ⟨List.mem_of_getElem? (i := 345) (by decide +kernel), rfl⟩
set_option maxRecDepth 100000 in
theorem w346 : Cond.code yX1_doors cX1_doors 1 (some .int) ∈ xBW := xBW_of ⟨List.mem_of_getElem? (i := 346) rfl, rfl⟩
theorem w347 : Cond.methodLink RL 83 yX9_between ∈ xBW := xBW_of ⟨List.mem_of_getElem? (i := 347) (by decide +kernel), rfl⟩
theorem w348 : Cond.instanceMethod yX9_between ∈ xBW := xBW_of ⟨List.mem_of_getElem? (i := 348) (by decide +kernel), rfl⟩
theorem w349 : Cond.selects RX9 yX9_between yX9_between ∈ xBW := xBW_of ⟨List.mem_of_getElem? (i := 349) (by decide +kernel), rfl⟩
set_option maxRecDepth 100000 in
theorem w350 : Cond.code yX9_between cX9_between 4 (some .int) ∈ xBW := xBW_of ⟨List.mem_of_getElem? (i := 350) rfl, rfl⟩
theorem w351 : Cond.methodLink RX9 116 yX9_isRoom ∈ xBW := xBW_of ⟨List.mem_of_getElem? (i := 351) (by decide +kernel), rfl⟩
theorem w352 : Cond.methodLink RX9 120 yX9_hasHouse ∈ xBW := xBW_of ⟨List.mem_of_getElem? (i := 352) (by decide +kernel), rfl⟩
theorem w354 : Cond.instanceMethod yX9_hasHouse ∈ xBW := xBW_of ⟨List.mem_of_getElem? (i := 354) (by decide +kernel), rfl⟩
set_option maxRecDepth 100000 in
theorem w355 : Cond.code yX9_hasHouse cX9_hasHouse 1 (some .boolean) ∈ xBW := xBW_of ⟨List.mem_of_getElem? (i := 355) rfl, rfl⟩
theorem w356 : Cond.methodLink RX9 123 yX1_doorBetween ∈ xBW := xBW_of ⟨List.mem_of_getElem? (i := 356) (by decide +kernel), rfl⟩
theorem w357 : Cond.methodLink RX9 127 yX1_isSeenFrom ∈ xBW := xBW_of ⟨List.mem_of_getElem? (i := 357) (by decide +kernel), rfl⟩
theorem w358 : Cond.methodLink RL 31 yX9_person ∈ xBW := xBW_of ⟨List.mem_of_getElem? (i := 358) (by decide +kernel), rfl⟩
theorem w359 : Cond.instanceMethod yX9_person ∈ xBW := xBW_of ⟨List.mem_of_getElem? (i := 359) (by decide +kernel), rfl⟩
theorem w360 : Cond.selects RX9 yX9_person yX9_person ∈ xBW := xBW_of ⟨List.mem_of_getElem? (i := 360) (by decide +kernel), rfl⟩
set_option maxRecDepth 100000 in
theorem w361 : Cond.code yX9_person cX9_person 4 (some .int) ∈ xBW := xBW_of ⟨List.mem_of_getElem? (i := 361) rfl, rfl⟩
theorem w362 : Cond.methodLink RX9 131 yX9_isKind ∈ xBW := xBW_of ⟨List.mem_of_getElem? (i := 362) (by decide +kernel), rfl⟩
theorem w363 : Cond.static yX9_isKind ∈ xBW := xBW_of ⟨List.mem_of_getElem? (i := 363) (by decide +kernel), rfl⟩
set_option maxRecDepth 100000 in
theorem w364 : Cond.code yX9_isKind cX9_isKind 1 (some .boolean) ∈ xBW := xBW_of ⟨List.mem_of_getElem? (i := 364) rfl, rfl⟩
theorem w365 : Cond.methodLink RX9 134 yX9_personAt ∈ xBW := xBW_of ⟨List.mem_of_getElem? (i := 365) (by decide +kernel), rfl⟩
theorem w367 : Cond.instanceMethod yX9_personAt ∈ xBW := xBW_of ⟨List.mem_of_getElem? (i := 367) (by decide +kernel), rfl⟩
set_option maxRecDepth 100000 in
theorem w368 : Cond.code yX9_personAt cX9_personAt 2 (some (.object "HourAgo$Person")) ∈ xBW := xBW_of ⟨List.mem_of_getElem? (i := 368) rfl, rfl⟩
theorem w369 : Cond.methodLink RX9 138 yX5_begin ∈ xBW := xBW_of ⟨List.mem_of_getElem? (i := 369) (by decide +kernel), rfl⟩
theorem w370 : Cond.instanceMethod yX5_begin ∈ xBW := xBW_of ⟨List.mem_of_getElem? (i := 370) (by decide +kernel), rfl⟩
theorem w371 : Cond.selects RX5 yX5_begin yX5_begin ∈ xBW := xBW_of ⟨List.mem_of_getElem? (i := 371) (by decide +kernel), rfl⟩
set_option maxRecDepth 100000 in
theorem w372 : Cond.code yX5_begin cX5_begin 2 none ∈ xBW := xBW_of ⟨List.mem_of_getElem? (i := 372) rfl, rfl⟩
theorem w373 : Cond.methodLink RX5 22 yX3_clear ∈ xBW := xBW_of ⟨List.mem_of_getElem? (i := 373) (by decide +kernel), rfl⟩
theorem w374 : Cond.instanceMethod yX3_clear ∈ xBW := xBW_of ⟨List.mem_of_getElem? (i := 374) (by decide +kernel), rfl⟩
theorem w375 : Cond.selects RX3 yX3_clear yX3_clear ∈ xBW := xBW_of ⟨List.mem_of_getElem? (i := 375) (by decide +kernel), rfl⟩
set_option maxRecDepth 100000 in
theorem w376 : Cond.code yX3_clear cX3_clear 1 none ∈ xBW := xBW_of ⟨List.mem_of_getElem? (i := 376) rfl, rfl⟩
theorem w377 : Cond.methodLink RL 46 yX9_life ∈ xBW := xBW_of ⟨List.mem_of_getElem? (i := 377) (by decide +kernel), rfl⟩
theorem w378 : Cond.instanceMethod yX9_life ∈ xBW := xBW_of ⟨List.mem_of_getElem? (i := 378) (by decide +kernel), rfl⟩
theorem w379 : Cond.selects RX9 yX9_life yX9_life ∈ xBW := xBW_of ⟨List.mem_of_getElem? (i := 379) (by decide +kernel), rfl⟩
set_option maxRecDepth 100000 in
theorem w380 : Cond.code yX9_life cX9_life 4 (some .int) ∈ xBW := xBW_of ⟨List.mem_of_getElem? (i := 380) rfl, rfl⟩
theorem w381 : Cond.methodLink RX9 142 yX5_kind ∈ xBW := xBW_of ⟨List.mem_of_getElem? (i := 381) (by decide +kernel), rfl⟩
theorem w382 : Cond.instanceMethod yX5_kind ∈ xBW := xBW_of ⟨List.mem_of_getElem? (i := 382) (by decide +kernel), rfl⟩
theorem w383 : Cond.selects RX5 yX5_kind yX5_kind ∈ xBW := xBW_of ⟨List.mem_of_getElem? (i := 383) (by decide +kernel), rfl⟩
set_option maxRecDepth 100000 in
theorem w384 : Cond.code yX5_kind cX5_kind 1 (some .int) ∈ xBW := xBW_of ⟨List.mem_of_getElem? (i := 384) rfl, rfl⟩
theorem w385 : Cond.methodLink RX9 145 yX1_leapOf ∈ xBW := xBW_of ⟨List.mem_of_getElem? (i := 385) (by decide +kernel), rfl⟩
theorem w386 : Cond.instanceMethod yX1_leapOf ∈ xBW := xBW_of ⟨List.mem_of_getElem? (i := 386) (by decide +kernel), rfl⟩
theorem w387 : Cond.selects RX1 yX1_leapOf yX1_leapOf ∈ xBW := xBW_of ⟨List.mem_of_getElem? (i := 387) (by decide +kernel), rfl⟩
set_option maxRecDepth 100000 in
theorem w388 : Cond.code yX1_leapOf cX1_leapOf 2 (some .int) ∈ xBW := xBW_of ⟨List.mem_of_getElem? (i := 388) rfl, rfl⟩
theorem w389 : Cond.methodLinkNest RX1 82 yX9_isOfKind "HourAgo" ∈ lw_tbl := List.mem_of_getElem? (i := 389) (by decide +kernel)
theorem w390 : Cond.static yX9_isOfKind ∈ xBW := xBW_of ⟨List.mem_of_getElem? (i := 390) (by decide +kernel), rfl⟩
set_option maxRecDepth 100000 in
theorem w391 : Cond.code yX9_isOfKind cX9_isOfKind 2 (some .boolean) ∈ xBW := xBW_of ⟨List.mem_of_getElem? (i := 391) rfl, rfl⟩
theorem w392 : Cond.methodLink RX9 149 yX3_read ∈ xBW := xBW_of ⟨List.mem_of_getElem? (i := 392) (by decide +kernel), rfl⟩
theorem w393 : Cond.instanceMethod yX3_read ∈ xBW := xBW_of ⟨List.mem_of_getElem? (i := 393) (by decide +kernel), rfl⟩
theorem w394 : Cond.selects RX3 yX3_read yX3_read ∈ xBW := xBW_of ⟨List.mem_of_getElem? (i := 394) (by decide +kernel), rfl⟩
set_option maxRecDepth 100000 in
theorem w395 : Cond.code yX3_read cX3_read 6 (some .boolean) ∈ xBW := xBW_of ⟨List.mem_of_getElem? (i := 395) rfl, rfl⟩
theorem w396 : Cond.methodLink RX3 39 yX3_clear ∈ xBW := xBW_of ⟨List.mem_of_getElem? (i := 396) (by decide +kernel), rfl⟩
theorem w397 : Cond.methodLink RX3 42 yX3_faultIn ∈ xBW := xBW_of ⟨List.mem_of_getElem? (i := 397) (by decide +kernel), rfl⟩
theorem w398 : Cond.methodLinkNest RX3 46 yX9_spotOf "HourAgo" ∈ lw_tbl := List.mem_of_getElem? (i := 398) (by decide +kernel)
theorem w399 : Cond.static yX9_spotOf ∈ xBW := xBW_of ⟨List.mem_of_getElem? (i := 399) (by decide +kernel), rfl⟩
set_option maxRecDepth 100000 in
theorem w400 : Cond.code yX9_spotOf cX9_spotOf 2 (some .int) ∈ xBW := xBW_of ⟨List.mem_of_getElem? (i := 400) rfl, rfl⟩
theorem w401 : Cond.methodLink RX3 50 yX3_add ∈ xBW := xBW_of ⟨List.mem_of_getElem? (i := 401) (by decide +kernel), rfl⟩
theorem w403 : Cond.instanceMethod yX3_add ∈ xBW := xBW_of ⟨List.mem_of_getElem? (i := 403) (by decide +kernel), rfl⟩
set_option maxRecDepth 100000 in
theorem w404 : Cond.code yX3_add cX3_add 2 none ∈ xBW := xBW_of ⟨List.mem_of_getElem? (i := 404) rfl, rfl⟩
theorem w405 : Cond.methodLink RX3 54 yX3_takes ∈ xBW := xBW_of ⟨List.mem_of_getElem? (i := 405) (by decide +kernel), rfl⟩
theorem w407 : Cond.instanceMethod yX3_takes ∈ xBW := xBW_of ⟨List.mem_of_getElem? (i := 407) (by decide +kernel), rfl⟩
set_option maxRecDepth 100000 in
theorem w408 : Cond.code yX3_takes cX3_takes 6 (some .boolean) ∈ xBW := xBW_of ⟨List.mem_of_getElem? (i := 408) rfl, rfl⟩
theorem w409 : Cond.methodLink RX3 58 yX3_lastSpot ∈ xBW := xBW_of ⟨List.mem_of_getElem? (i := 409) (by decide +kernel), rfl⟩
theorem w410 : Cond.instanceMethod yX3_lastSpot ∈ xBW := xBW_of ⟨List.mem_of_getElem? (i := 410) (by decide +kernel), rfl⟩
theorem w411 : Cond.selects RX3 yX3_lastSpot yX3_lastSpot ∈ xBW := xBW_of ⟨List.mem_of_getElem? (i := 411) (by decide +kernel), rfl⟩
set_option maxRecDepth 100000 in
theorem w412 : Cond.code yX3_lastSpot cX3_lastSpot 1 (some .int) ∈ xBW := xBW_of ⟨List.mem_of_getElem? (i := 412) rfl, rfl⟩
theorem w413 : Cond.methodLink RX3 82 yX3_spotAt ∈ xBW := xBW_of ⟨List.mem_of_getElem? (i := 413) (by decide +kernel), rfl⟩
theorem w414 : Cond.instanceMethod yX3_spotAt ∈ xBW := xBW_of ⟨List.mem_of_getElem? (i := 414) (by decide +kernel), rfl⟩
theorem w415 : Cond.selects RX3 yX3_spotAt yX3_spotAt ∈ xBW := xBW_of ⟨List.mem_of_getElem? (i := 415) (by decide +kernel), rfl⟩
set_option maxRecDepth 100000 in
theorem w416 : Cond.code yX3_spotAt cX3_spotAt 2 (some .int) ∈ xBW := xBW_of ⟨List.mem_of_getElem? (i := 416) rfl, rfl⟩
theorem w417 : Cond.methodLink RX3 61 yX1_spotAfter ∈ xBW := xBW_of ⟨List.mem_of_getElem? (i := 417) (by decide +kernel), rfl⟩
theorem w418 : Cond.instanceMethod yX1_spotAfter ∈ xBW := xBW_of ⟨List.mem_of_getElem? (i := 418) (by decide +kernel), rfl⟩
theorem w419 : Cond.selects RX1 yX1_spotAfter yX1_spotAfter ∈ xBW := xBW_of ⟨List.mem_of_getElem? (i := 419) (by decide +kernel), rfl⟩
set_option maxRecDepth 100000 in
theorem w420 : Cond.code yX1_spotAfter cX1_spotAfter 6 (some .int) ∈ xBW := xBW_of ⟨List.mem_of_getElem? (i := 420) rfl, rfl⟩
theorem w421 : Cond.methodLinkNest RX1 85 yX9_minuteOf "HourAgo" ∈ lw_tbl := List.mem_of_getElem? (i := 421) (by decide +kernel)
theorem w422 : Cond.static yX9_minuteOf ∈ xBW := xBW_of ⟨List.mem_of_getElem? (i := 422) (by decide +kernel), rfl⟩
set_option maxRecDepth 100000 in
theorem w423 : Cond.code yX9_minuteOf cX9_minuteOf 1 (some .int) ∈ xBW := xBW_of ⟨List.mem_of_getElem? (i := 423) rfl, rfl⟩
theorem w424 : Cond.methodLinkNest RX1 88 yX9_roomOf "HourAgo" ∈ lw_tbl := List.mem_of_getElem? (i := 424) (by decide +kernel)
theorem w425 : Cond.static yX9_roomOf ∈ xBW := xBW_of ⟨List.mem_of_getElem? (i := 425) (by decide +kernel), rfl⟩
set_option maxRecDepth 100000 in
theorem w426 : Cond.code yX9_roomOf cX9_roomOf 1 (some .int) ∈ xBW := xBW_of ⟨List.mem_of_getElem? (i := 426) rfl, rfl⟩
theorem w427 : Cond.methodLinkNest RX1 91 yX9_spotOf "HourAgo" ∈ lw_tbl := List.mem_of_getElem? (i := 427) (by decide +kernel)
theorem w428 : Cond.methodLinkNest RX1 94 yX9_isMinute "HourAgo" ∈ lw_tbl := List.mem_of_getElem? (i := 428) (by decide +kernel)
theorem w429 : Cond.static yX9_isMinute ∈ xBW := xBW_of ⟨List.mem_of_getElem? (i := 429) (by decide +kernel), rfl⟩
set_option maxRecDepth 100000 in
theorem w430 : Cond.code yX9_isMinute cX9_isMinute 1 (some .boolean) ∈ xBW := xBW_of ⟨List.mem_of_getElem? (i := 430) rfl, rfl⟩
theorem w431 : Cond.methodLinkNest RX3 73 yX9_roomOf "HourAgo" ∈ lw_tbl := List.mem_of_getElem? (i := 431) (by decide +kernel)
theorem w432 : Cond.methodLink RX3 76 yX1_doorBetween ∈ xBW := xBW_of ⟨List.mem_of_getElem? (i := 432) (by decide +kernel), rfl⟩
theorem w433 : Cond.methodLink RX9 152 yX5_lived ∈ xBW := xBW_of ⟨List.mem_of_getElem? (i := 433) (by decide +kernel), rfl⟩
theorem w434 : Cond.instanceMethod yX5_lived ∈ xBW := xBW_of ⟨List.mem_of_getElem? (i := 434) (by decide +kernel), rfl⟩
theorem w435 : Cond.selects RX5 yX5_lived yX5_lived ∈ xBW := xBW_of ⟨List.mem_of_getElem? (i := 435) (by decide +kernel), rfl⟩
set_option maxRecDepth 100000 in
theorem w436 : Cond.code yX5_lived cX5_lived 1 (some (.object "HourAgo$Life")) ∈ xBW := xBW_of ⟨List.mem_of_getElem? (i := 436) rfl, rfl⟩
theorem w437 : Cond.methodLink RX9 156 yX3_copyFrom ∈ xBW := xBW_of ⟨List.mem_of_getElem? (i := 437) (by decide +kernel), rfl⟩
theorem w438 : Cond.instanceMethod yX3_copyFrom ∈ xBW := xBW_of ⟨List.mem_of_getElem? (i := 438) (by decide +kernel), rfl⟩
theorem w439 : Cond.selects RX3 yX3_copyFrom yX3_copyFrom ∈ xBW := xBW_of ⟨List.mem_of_getElem? (i := 439) (by decide +kernel), rfl⟩
set_option maxRecDepth 100000 in
theorem w440 : Cond.code yX3_copyFrom cX3_copyFrom 3 none ∈ xBW := xBW_of ⟨List.mem_of_getElem? (i := 440) rfl, rfl⟩
theorem w441 : Cond.methodLink RX9 160 yX3_selves ∈ xBW := xBW_of ⟨List.mem_of_getElem? (i := 441) (by decide +kernel), rfl⟩
theorem w442 : Cond.instanceMethod yX3_selves ∈ xBW := xBW_of ⟨List.mem_of_getElem? (i := 442) (by decide +kernel), rfl⟩
theorem w443 : Cond.selects RX3 yX3_selves yX3_selves ∈ xBW := xBW_of ⟨List.mem_of_getElem? (i := 443) (by decide +kernel), rfl⟩
set_option maxRecDepth 100000 in
theorem w444 : Cond.code yX3_selves cX3_selves 1 (some .int) ∈ xBW := xBW_of ⟨List.mem_of_getElem? (i := 444) rfl, rfl⟩
theorem w445 : Cond.methodLink RL 63 yX9_about ∈ xBW := xBW_of ⟨List.mem_of_getElem? (i := 445) (by decide +kernel), rfl⟩
theorem w446 : Cond.instanceMethod yX9_about ∈ xBW := xBW_of ⟨List.mem_of_getElem? (i := 446) (by decide +kernel), rfl⟩
theorem w447 : Cond.selects RX9 yX9_about yX9_about ∈ xBW := xBW_of ⟨List.mem_of_getElem? (i := 447) (by decide +kernel), rfl⟩
set_option maxRecDepth 100000 in
theorem w448 : Cond.code yX9_about cX9_about 5 (some .int) ∈ xBW := xBW_of ⟨List.mem_of_getElem? (i := 448) rfl, rfl⟩
theorem w449 : Cond.methodLink RX9 163 yX3_lastSpot ∈ xBW := xBW_of ⟨List.mem_of_getElem? (i := 449) (by decide +kernel), rfl⟩
theorem w450 : Cond.methodLink RX9 166 yX3_throughs ∈ xBW := xBW_of ⟨List.mem_of_getElem? (i := 450) (by decide +kernel), rfl⟩
theorem w451 : Cond.instanceMethod yX3_throughs ∈ xBW := xBW_of ⟨List.mem_of_getElem? (i := 451) (by decide +kernel), rfl⟩
theorem w452 : Cond.selects RX3 yX3_throughs yX3_throughs ∈ xBW := xBW_of ⟨List.mem_of_getElem? (i := 452) (by decide +kernel), rfl⟩
set_option maxRecDepth 100000 in
theorem w453 : Cond.code yX3_throughs cX3_throughs 1 (some .int) ∈ xBW := xBW_of ⟨List.mem_of_getElem? (i := 453) rfl, rfl⟩
theorem w454 : Cond.methodLink RX9 169 yX9_minuteOf ∈ xBW := xBW_of ⟨List.mem_of_getElem? (i := 454) (by decide +kernel), rfl⟩
theorem w455 : Cond.methodLink RX9 172 yX9_roomOf ∈ xBW := xBW_of ⟨List.mem_of_getElem? (i := 455) (by decide +kernel), rfl⟩
theorem w456 : Cond.methodLink RL 94 yX9_as ∈ xBW := xBW_of ⟨List.mem_of_getElem? (i := 456) (by decide +kernel), rfl⟩
theorem w457 : Cond.instanceMethod yX9_as ∈ xBW := xBW_of ⟨List.mem_of_getElem? (i := 457) (by decide +kernel), rfl⟩
theorem w458 : Cond.selects RX9 yX9_as yX9_as ∈ xBW := xBW_of ⟨List.mem_of_getElem? (i := 458) (by decide +kernel), rfl⟩
set_option maxRecDepth 100000 in
theorem w459 : Cond.code yX9_as cX9_as 4 (some .int) ∈ xBW := xBW_of ⟨List.mem_of_getElem? (i := 459) rfl, rfl⟩
theorem w460 : Cond.methodLink RX9 175 yX9_isOfKind ∈ xBW := xBW_of ⟨List.mem_of_getElem? (i := 460) (by decide +kernel), rfl⟩
theorem w461 : Cond.methodLink RL 49 yX9_self ∈ xBW := xBW_of ⟨List.mem_of_getElem? (i := 461) (by decide +kernel), rfl⟩
theorem w462 : Cond.instanceMethod yX9_self ∈ xBW := xBW_of ⟨List.mem_of_getElem? (i := 462) (by decide +kernel), rfl⟩
theorem w463 : Cond.selects RX9 yX9_self yX9_self ∈ xBW := xBW_of ⟨List.mem_of_getElem? (i := 463) (by decide +kernel), rfl⟩
set_option maxRecDepth 100000 in
theorem w464 : Cond.code yX9_self cX9_self 6 (some .int) ∈ xBW := xBW_of ⟨List.mem_of_getElem? (i := 464) rfl, rfl⟩
theorem w465 : Cond.methodLink RX9 178 yX3_spotAt ∈ xBW := xBW_of ⟨List.mem_of_getElem? (i := 465) (by decide +kernel), rfl⟩
theorem w466 : Cond.methodLink RL 53 yX9_there ∈ xBW := xBW_of ⟨List.mem_of_getElem? (i := 466) (by decide +kernel), rfl⟩
theorem w467 : Cond.instanceMethod yX9_there ∈ xBW := xBW_of ⟨List.mem_of_getElem? (i := 467) (by decide +kernel), rfl⟩
theorem w468 : Cond.selects RX9 yX9_there yX9_there ∈ xBW := xBW_of ⟨List.mem_of_getElem? (i := 468) (by decide +kernel), rfl⟩
set_option maxRecDepth 100000 in
theorem w469 : Cond.code yX9_there cX9_there 5 (some .int) ∈ xBW := xBW_of ⟨List.mem_of_getElem? (i := 469) rfl, rfl⟩
theorem w470 : Cond.methodLink RX9 181 yX9_isMinute ∈ xBW := xBW_of ⟨List.mem_of_getElem? (i := 470) (by decide +kernel), rfl⟩
theorem w471 : Cond.methodLink RX9 184 yX9_spotOf ∈ xBW := xBW_of ⟨List.mem_of_getElem? (i := 471) (by decide +kernel), rfl⟩
theorem w472 : Cond.methodLink RX9 187 yX3_selvesAt ∈ xBW := xBW_of ⟨List.mem_of_getElem? (i := 472) (by decide +kernel), rfl⟩
theorem w473 : Cond.instanceMethod yX3_selvesAt ∈ xBW := xBW_of ⟨List.mem_of_getElem? (i := 473) (by decide +kernel), rfl⟩
theorem w474 : Cond.selects RX3 yX3_selvesAt yX3_selvesAt ∈ xBW := xBW_of ⟨List.mem_of_getElem? (i := 474) (by decide +kernel), rfl⟩
set_option maxRecDepth 100000 in
theorem w475 : Cond.code yX3_selvesAt cX3_selvesAt 4 (some .int) ∈ xBW := xBW_of ⟨List.mem_of_getElem? (i := 475) rfl, rfl⟩
theorem w476 : Cond.methodLink RL 66 yX9_met ∈ xBW := xBW_of ⟨List.mem_of_getElem? (i := 476) (by decide +kernel), rfl⟩
theorem w477 : Cond.instanceMethod yX9_met ∈ xBW := xBW_of ⟨List.mem_of_getElem? (i := 477) (by decide +kernel), rfl⟩
theorem w478 : Cond.selects RX9 yX9_met yX9_met ∈ xBW := xBW_of ⟨List.mem_of_getElem? (i := 478) (by decide +kernel), rfl⟩
set_option maxRecDepth 100000 in
theorem w479 : Cond.code yX9_met cX9_met 3 (some .int) ∈ xBW := xBW_of ⟨List.mem_of_getElem? (i := 479) rfl, rfl⟩
theorem w480 : Cond.methodLink RX9 190 yX5_firstMeeting ∈ xBW := xBW_of ⟨List.mem_of_getElem? (i := 480) (by decide +kernel), rfl⟩
theorem w481 : Cond.instanceMethod yX5_firstMeeting ∈ xBW := xBW_of ⟨List.mem_of_getElem? (i := 481) (by decide +kernel), rfl⟩
theorem w482 : Cond.selects RX5 yX5_firstMeeting yX5_firstMeeting ∈ xBW := xBW_of ⟨List.mem_of_getElem? (i := 482) (by decide +kernel), rfl⟩
set_option maxRecDepth 100000 in
theorem w483 : Cond.code yX5_firstMeeting cX5_firstMeeting 5 (some .int) ∈ xBW := xBW_of ⟨List.mem_of_getElem? (i := 483) rfl, rfl⟩
theorem w484 : Cond.methodLink RX5 25 yX3_selves ∈ xBW := xBW_of ⟨List.mem_of_getElem? (i := 484) (by decide +kernel), rfl⟩
theorem w485 : Cond.methodLink RX5 29 yX3_spotAt ∈ xBW := xBW_of ⟨List.mem_of_getElem? (i := 485) (by decide +kernel), rfl⟩
theorem w486 : Cond.methodLinkNest RX5 33 yX9_minuteOf "HourAgo" ∈ lw_tbl := List.mem_of_getElem? (i := 486) (by decide +kernel)
theorem w487 : Cond.methodLink RX5 36 yX5_isMetBySelf ∈ xBW := xBW_of ⟨List.mem_of_getElem? (i := 487) (by decide +kernel), rfl⟩
theorem w489 : Cond.instanceMethod yX5_isMetBySelf ∈ xBW := xBW_of ⟨List.mem_of_getElem? (i := 489) (by decide +kernel), rfl⟩
set_option maxRecDepth 100000 in
theorem w490 : Cond.code yX5_isMetBySelf cX5_isMetBySelf 7 (some .boolean) ∈ xBW := xBW_of ⟨List.mem_of_getElem? (i := 490) rfl, rfl⟩
theorem w491 : Cond.methodLinkNest RX5 40 yX9_roomOf "HourAgo" ∈ lw_tbl := List.mem_of_getElem? (i := 491) (by decide +kernel)
theorem w492 : Cond.methodLink RX5 43 yX1_meetingRooms ∈ xBW := xBW_of ⟨List.mem_of_getElem? (i := 492) (by decide +kernel), rfl⟩
theorem w493 : Cond.instanceMethod yX1_meetingRooms ∈ xBW := xBW_of ⟨List.mem_of_getElem? (i := 493) (by decide +kernel), rfl⟩
theorem w494 : Cond.selects RX1 yX1_meetingRooms yX1_meetingRooms ∈ xBW := xBW_of ⟨List.mem_of_getElem? (i := 494) (by decide +kernel), rfl⟩
set_option maxRecDepth 100000 in
theorem w495 : Cond.code yX1_meetingRooms cX1_meetingRooms 4 (some .int) ∈ xBW := xBW_of ⟨List.mem_of_getElem? (i := 495) rfl, rfl⟩
theorem w496 : Cond.methodLink RL 68 yX9_most ∈ xBW := xBW_of ⟨List.mem_of_getElem? (i := 496) (by decide +kernel), rfl⟩
theorem w497 : Cond.instanceMethod yX9_most ∈ xBW := xBW_of ⟨List.mem_of_getElem? (i := 497) (by decide +kernel), rfl⟩
theorem w498 : Cond.selects RX9 yX9_most yX9_most ∈ xBW := xBW_of ⟨List.mem_of_getElem? (i := 498) (by decide +kernel), rfl⟩
set_option maxRecDepth 100000 in
theorem w499 : Cond.code yX9_most cX9_most 5 (some .int) ∈ xBW := xBW_of ⟨List.mem_of_getElem? (i := 499) rfl, rfl⟩
theorem w500 : Cond.methodLink RX9 194 yX3_fullestMinute ∈ xBW := xBW_of ⟨List.mem_of_getElem? (i := 500) (by decide +kernel), rfl⟩
theorem w501 : Cond.instanceMethod yX3_fullestMinute ∈ xBW := xBW_of ⟨List.mem_of_getElem? (i := 501) (by decide +kernel), rfl⟩
theorem w502 : Cond.selects RX3 yX3_fullestMinute yX3_fullestMinute ∈ xBW := xBW_of ⟨List.mem_of_getElem? (i := 502) (by decide +kernel), rfl⟩
set_option maxRecDepth 100000 in
theorem w503 : Cond.code yX3_fullestMinute cX3_fullestMinute 6 (some .int) ∈ xBW := xBW_of ⟨List.mem_of_getElem? (i := 503) rfl, rfl⟩
theorem w504 : Cond.methodLinkNest RX3 85 yX9_minuteOf "HourAgo" ∈ lw_tbl := List.mem_of_getElem? (i := 504) (by decide +kernel)
theorem w505 : Cond.methodLink RX3 88 yX3_selvesIn ∈ xBW := xBW_of ⟨List.mem_of_getElem? (i := 505) (by decide +kernel), rfl⟩
theorem w506 : Cond.instanceMethod yX3_selvesIn ∈ xBW := xBW_of ⟨List.mem_of_getElem? (i := 506) (by decide +kernel), rfl⟩
theorem w507 : Cond.selects RX3 yX3_selvesIn yX3_selvesIn ∈ xBW := xBW_of ⟨List.mem_of_getElem? (i := 507) (by decide +kernel), rfl⟩
set_option maxRecDepth 100000 in
theorem w508 : Cond.code yX3_selvesIn cX3_selvesIn 4 (some .int) ∈ xBW := xBW_of ⟨List.mem_of_getElem? (i := 508) rfl, rfl⟩
theorem w509 : Cond.methodLink RX9 197 yX3_selvesIn ∈ xBW := xBW_of ⟨List.mem_of_getElem? (i := 509) (by decide +kernel), rfl⟩
theorem w510 : Cond.methodLink RL 122 yX9_task ∈ xBW := xBW_of ⟨List.mem_of_getElem? (i := 510) (by decide +kernel), rfl⟩
theorem w511 : Cond.instanceMethod yX9_task ∈ xBW := xBW_of ⟨List.mem_of_getElem? (i := 511) (by decide +kernel), rfl⟩
theorem w512 : Cond.selects RX9 yX9_task yX9_task ∈ xBW := xBW_of ⟨List.mem_of_getElem? (i := 512) (by decide +kernel), rfl⟩
set_option maxRecDepth 100000 in
theorem w513 : Cond.code yX9_task cX9_task 4 (some .int) ∈ xBW := xBW_of ⟨List.mem_of_getElem? (i := 513) rfl, rfl⟩
theorem w514 : Cond.methodLink RX9 207 yX7_add ∈ xBW := xBW_of ⟨List.mem_of_getElem? (i := 514) (by decide +kernel), rfl⟩
theorem w515 : Cond.instanceMethod yX7_add ∈ xBW := xBW_of ⟨List.mem_of_getElem? (i := 515) (by decide +kernel), rfl⟩
theorem w516 : Cond.selects RX7 yX7_add yX7_add ∈ xBW := xBW_of ⟨List.mem_of_getElem? (i := 516) (by decide +kernel), rfl⟩
set_option maxRecDepth 100000 in
theorem w517 : Cond.code yX7_add cX7_add 5 (some .int) ∈ xBW := xBW_of ⟨List.mem_of_getElem? (i := 517) rfl, rfl⟩
theorem w518 : Cond.methodLink RL 119 yX9_done ∈ xBW := xBW_of ⟨List.mem_of_getElem? (i := 518) (by decide +kernel), rfl⟩
theorem w519 : Cond.instanceMethod yX9_done ∈ xBW := xBW_of ⟨List.mem_of_getElem? (i := 519) (by decide +kernel), rfl⟩
theorem w520 : Cond.selects RX9 yX9_done yX9_done ∈ xBW := xBW_of ⟨List.mem_of_getElem? (i := 520) (by decide +kernel), rfl⟩
set_option maxRecDepth 100000 in
theorem w521 : Cond.code yX9_done cX9_done 3 (some .int) ∈ xBW := xBW_of ⟨List.mem_of_getElem? (i := 521) rfl, rfl⟩
theorem w522 : Cond.methodLink RX9 211 yX7_doneBy ∈ xBW := xBW_of ⟨List.mem_of_getElem? (i := 522) (by decide +kernel), rfl⟩
theorem w523 : Cond.instanceMethod yX7_doneBy ∈ xBW := xBW_of ⟨List.mem_of_getElem? (i := 523) (by decide +kernel), rfl⟩
theorem w524 : Cond.selects RX7 yX7_doneBy yX7_doneBy ∈ xBW := xBW_of ⟨List.mem_of_getElem? (i := 524) (by decide +kernel), rfl⟩
set_option maxRecDepth 100000 in
theorem w525 : Cond.code yX7_doneBy cX7_doneBy 4 (some .int) ∈ xBW := xBW_of ⟨List.mem_of_getElem? (i := 525) rfl, rfl⟩
theorem w526 : Cond.methodLink RX7 39 yX3_selves ∈ xBW := xBW_of ⟨List.mem_of_getElem? (i := 526) (by decide +kernel), rfl⟩
theorem w527 : Cond.methodLink RX7 45 yX3_spotAt ∈ xBW := xBW_of ⟨List.mem_of_getElem? (i := 527) (by decide +kernel), rfl⟩
theorem w528 : Cond.methodLink RX7 48 yX7_doneAt ∈ xBW := xBW_of ⟨List.mem_of_getElem? (i := 528) (by decide +kernel), rfl⟩
theorem w529 : Cond.instanceMethod yX7_doneAt ∈ xBW := xBW_of ⟨List.mem_of_getElem? (i := 529) (by decide +kernel), rfl⟩
theorem w530 : Cond.selects RX7 yX7_doneAt yX7_doneAt ∈ xBW := xBW_of ⟨List.mem_of_getElem? (i := 530) (by decide +kernel), rfl⟩
set_option maxRecDepth 100000 in
theorem w531 : Cond.code yX7_doneAt cX7_doneAt 6 (some .int) ∈ xBW := xBW_of ⟨List.mem_of_getElem? (i := 531) rfl, rfl⟩
theorem w532 : Cond.methodLinkNest RX7 32 yX9_minuteOf "HourAgo" ∈ lw_tbl := List.mem_of_getElem? (i := 532) (by decide +kernel)
theorem w533 : Cond.methodLinkNest RX7 36 yX9_roomOf "HourAgo" ∈ lw_tbl := List.mem_of_getElem? (i := 533) (by decide +kernel)
theorem w534 : Cond.methodLink RL 125 yX9_glimpse ∈ xBW := xBW_of ⟨List.mem_of_getElem? (i := 534) (by decide +kernel), rfl⟩
theorem w535 : Cond.instanceMethod yX9_glimpse ∈ xBW := xBW_of ⟨List.mem_of_getElem? (i := 535) (by decide +kernel), rfl⟩
theorem w536 : Cond.selects RX9 yX9_glimpse yX9_glimpse ∈ xBW := xBW_of ⟨List.mem_of_getElem? (i := 536) (by decide +kernel), rfl⟩
set_option maxRecDepth 100000 in
theorem w537 : Cond.code yX9_glimpse cX9_glimpse 3 (some .int) ∈ xBW := xBW_of ⟨List.mem_of_getElem? (i := 537) rfl, rfl⟩
theorem w538 : Cond.methodLink RX9 233 yX0_add ∈ xBW := xBW_of ⟨List.mem_of_getElem? (i := 538) (by decide +kernel), rfl⟩
theorem w539 : Cond.instanceMethod yX0_add ∈ xBW := xBW_of ⟨List.mem_of_getElem? (i := 539) (by decide +kernel), rfl⟩
theorem w540 : Cond.selects RX0 yX0_add yX0_add ∈ xBW := xBW_of ⟨List.mem_of_getElem? (i := 540) (by decide +kernel), rfl⟩
set_option maxRecDepth 100000 in
theorem w541 : Cond.code yX0_add cX0_add 2 (some .int) ∈ xBW := xBW_of ⟨List.mem_of_getElem? (i := 541) rfl, rfl⟩
theorem w542 : Cond.methodLink RL 115 yX9_lives ∈ xBW := xBW_of ⟨List.mem_of_getElem? (i := 542) (by decide +kernel), rfl⟩
theorem w543 : Cond.instanceMethod yX9_lives ∈ xBW := xBW_of ⟨List.mem_of_getElem? (i := 543) (by decide +kernel), rfl⟩
theorem w544 : Cond.selects RX9 yX9_lives yX9_lives ∈ xBW := xBW_of ⟨List.mem_of_getElem? (i := 544) (by decide +kernel), rfl⟩
set_option maxRecDepth 100000 in
theorem w545 : Cond.code yX9_lives cX9_lives 6 (some .int) ∈ xBW := xBW_of ⟨List.mem_of_getElem? (i := 545) rfl, rfl⟩
theorem w546 : Cond.methodLink RX9 244 yX8_begin ∈ xBW := xBW_of ⟨List.mem_of_getElem? (i := 546) (by decide +kernel), rfl⟩
theorem w547 : Cond.instanceMethod yX8_begin ∈ xBW := xBW_of ⟨List.mem_of_getElem? (i := 547) (by decide +kernel), rfl⟩
theorem w548 : Cond.selects RX8 yX8_begin yX8_begin ∈ xBW := xBW_of ⟨List.mem_of_getElem? (i := 548) (by decide +kernel), rfl⟩
set_option maxRecDepth 100000 in
theorem w549 : Cond.code yX8_begin cX8_begin 3 none ∈ xBW := xBW_of ⟨List.mem_of_getElem? (i := 549) rfl, rfl⟩
theorem w550 : Cond.methodLink RX9 247 yX8_go ∈ xBW := xBW_of ⟨List.mem_of_getElem? (i := 550) (by decide +kernel), rfl⟩
theorem w551 : Cond.instanceMethod yX8_go ∈ xBW := xBW_of ⟨List.mem_of_getElem? (i := 551) (by decide +kernel), rfl⟩
theorem w552 : Cond.selects RX8 yX8_go yX8_go ∈ xBW := xBW_of ⟨List.mem_of_getElem? (i := 552) (by decide +kernel), rfl⟩
set_option maxRecDepth 100000 in
theorem w553 : Cond.code yX8_go cX8_go 6 none ∈ xBW := xBW_of ⟨List.mem_of_getElem? (i := 553) rfl, rfl⟩
theorem w554 : Cond.methodLink RX8 21 yX8_waysOn ∈ xBW := xBW_of ⟨List.mem_of_getElem? (i := 554) (by decide +kernel), rfl⟩
theorem w556 : Cond.instanceMethod yX8_waysOn ∈ xBW := xBW_of ⟨List.mem_of_getElem? (i := 556) (by decide +kernel), rfl⟩
set_option maxRecDepth 100000 in
theorem w557 : Cond.code yX8_waysOn cX8_waysOn 5 (some .int) ∈ xBW := xBW_of ⟨List.mem_of_getElem? (i := 557) rfl, rfl⟩
theorem w558 : Cond.methodLink RX8 39 yX1_spotAfter ∈ xBW := xBW_of ⟨List.mem_of_getElem? (i := 558) (by decide +kernel), rfl⟩
theorem w559 : Cond.methodLink RX8 25 yX8_draw ∈ xBW := xBW_of ⟨List.mem_of_getElem? (i := 559) (by decide +kernel), rfl⟩
theorem w561 : Cond.instanceMethod yX8_draw ∈ xBW := xBW_of ⟨List.mem_of_getElem? (i := 561) (by decide +kernel), rfl⟩
set_option maxRecDepth 100000 in
theorem w562 : Cond.code yX8_draw cX8_draw 2 (some .int) ∈ xBW := xBW_of ⟨List.mem_of_getElem? (i := 562) rfl, rfl⟩
theorem w563 : Cond.constantLong RX8 45 (1103515245) ∈ xBW := xBW_of ⟨List.mem_of_getElem? (i := 563) (by decide +kernel), rfl⟩
theorem w564 : Cond.constantLong RX8 47 (12345) ∈ xBW := xBW_of ⟨List.mem_of_getElem? (i := 564) (by decide +kernel), rfl⟩
theorem w565 : Cond.constantLong RX8 49 (2147483647) ∈ xBW := xBW_of ⟨List.mem_of_getElem? (i := 565) (by decide +kernel), rfl⟩
theorem w566 : Cond.constant RX8 51 (65536) ∈ xBW := xBW_of ⟨List.mem_of_getElem? (i := 566) (by decide +kernel), rfl⟩
theorem w567 : Cond.methodLink RX8 29 yX8_take ∈ xBW := xBW_of ⟨List.mem_of_getElem? (i := 567) (by decide +kernel), rfl⟩
theorem w569 : Cond.instanceMethod yX8_take ∈ xBW := xBW_of ⟨List.mem_of_getElem? (i := 569) (by decide +kernel), rfl⟩
set_option maxRecDepth 100000 in
theorem w570 : Cond.code yX8_take cX8_take 7 none ∈ xBW := xBW_of ⟨List.mem_of_getElem? (i := 570) rfl, rfl⟩
theorem w571 : Cond.methodLink RX9 251 yX8_tell ∈ xBW := xBW_of ⟨List.mem_of_getElem? (i := 571) (by decide +kernel), rfl⟩
theorem w572 : Cond.instanceMethod yX8_tell ∈ xBW := xBW_of ⟨List.mem_of_getElem? (i := 572) (by decide +kernel), rfl⟩
theorem w573 : Cond.selects RX8 yX8_tell yX8_tell ∈ xBW := xBW_of ⟨List.mem_of_getElem? (i := 573) (by decide +kernel), rfl⟩
set_option maxRecDepth 100000 in
theorem w574 : Cond.code yX8_tell cX8_tell 2 (some .int) ∈ xBW := xBW_of ⟨List.mem_of_getElem? (i := 574) rfl, rfl⟩
theorem w575 : Cond.methodLinkNest RX8 33 yX9_minuteOf "HourAgo" ∈ lw_tbl := List.mem_of_getElem? (i := 575) (by decide +kernel)
theorem w576 : Cond.methodLinkNest RX8 36 yX9_roomOf "HourAgo" ∈ lw_tbl := List.mem_of_getElem? (i := 576) (by decide +kernel)
theorem w577 : Cond.methodLink RL 71 yX9_count ∈ xBW := xBW_of ⟨List.mem_of_getElem? (i := 577) (by decide +kernel), rfl⟩
theorem w578 : Cond.instanceMethod yX9_count ∈ xBW := xBW_of ⟨List.mem_of_getElem? (i := 578) (by decide +kernel), rfl⟩
theorem w579 : Cond.selects RX9 yX9_count yX9_count ∈ xBW := xBW_of ⟨List.mem_of_getElem? (i := 579) (by decide +kernel), rfl⟩
set_option maxRecDepth 100000 in
theorem w580 : Cond.code yX9_count cX9_count 2 (some .int) ∈ xBW := xBW_of ⟨List.mem_of_getElem? (i := 580) rfl, rfl⟩
theorem w581 : Cond.methodLink RX9 270 yX1_sights ∈ xBW := xBW_of ⟨List.mem_of_getElem? (i := 581) (by decide +kernel), rfl⟩
theorem w582 : Cond.instanceMethod yX1_sights ∈ xBW := xBW_of ⟨List.mem_of_getElem? (i := 582) (by decide +kernel), rfl⟩
theorem w583 : Cond.selects RX1 yX1_sights yX1_sights ∈ xBW := xBW_of ⟨List.mem_of_getElem? (i := 583) (by decide +kernel), rfl⟩
set_option maxRecDepth 100000 in
theorem w584 : Cond.code yX1_sights cX1_sights 1 (some .int) ∈ xBW := xBW_of ⟨List.mem_of_getElem? (i := 584) rfl, rfl⟩
theorem w585 : Cond.methodLink RX9 214 yX7_size ∈ xBW := xBW_of ⟨List.mem_of_getElem? (i := 585) (by decide +kernel), rfl⟩
theorem w586 : Cond.instanceMethod yX7_size ∈ xBW := xBW_of ⟨List.mem_of_getElem? (i := 586) (by decide +kernel), rfl⟩
theorem w587 : Cond.selects RX7 yX7_size yX7_size ∈ xBW := xBW_of ⟨List.mem_of_getElem? (i := 587) (by decide +kernel), rfl⟩
set_option maxRecDepth 100000 in
theorem w588 : Cond.code yX7_size cX7_size 1 (some .int) ∈ xBW := xBW_of ⟨List.mem_of_getElem? (i := 588) rfl, rfl⟩
theorem w589 : Cond.methodLink RX9 235 yX0_size ∈ xBW := xBW_of ⟨List.mem_of_getElem? (i := 589) (by decide +kernel), rfl⟩
theorem w590 : Cond.instanceMethod yX0_size ∈ xBW := xBW_of ⟨List.mem_of_getElem? (i := 590) (by decide +kernel), rfl⟩
theorem w591 : Cond.selects RX0 yX0_size yX0_size ∈ xBW := xBW_of ⟨List.mem_of_getElem? (i := 591) (by decide +kernel), rfl⟩
set_option maxRecDepth 100000 in
theorem w592 : Cond.code yX0_size cX0_size 1 (some .int) ∈ xBW := xBW_of ⟨List.mem_of_getElem? (i := 592) rfl, rfl⟩
theorem w593 : Cond.methodLink RX9 273 yX1_back ∈ xBW := xBW_of ⟨List.mem_of_getElem? (i := 593) (by decide +kernel), rfl⟩
theorem w594 : Cond.instanceMethod yX1_back ∈ xBW := xBW_of ⟨List.mem_of_getElem? (i := 594) (by decide +kernel), rfl⟩
theorem w595 : Cond.selects RX1 yX1_back yX1_back ∈ xBW := xBW_of ⟨List.mem_of_getElem? (i := 595) (by decide +kernel), rfl⟩
set_option maxRecDepth 100000 in
theorem w596 : Cond.code yX1_back cX1_back 1 (some .int) ∈ xBW := xBW_of ⟨List.mem_of_getElem? (i := 596) rfl, rfl⟩
theorem w597 : Cond.methodLink RX9 276 yX1_lowRoom ∈ xBW := xBW_of ⟨List.mem_of_getElem? (i := 597) (by decide +kernel), rfl⟩
theorem w598 : Cond.instanceMethod yX1_lowRoom ∈ xBW := xBW_of ⟨List.mem_of_getElem? (i := 598) (by decide +kernel), rfl⟩
theorem w599 : Cond.selects RX1 yX1_lowRoom yX1_lowRoom ∈ xBW := xBW_of ⟨List.mem_of_getElem? (i := 599) (by decide +kernel), rfl⟩
set_option maxRecDepth 100000 in
theorem w600 : Cond.code yX1_lowRoom cX1_lowRoom 1 (some .int) ∈ xBW := xBW_of ⟨List.mem_of_getElem? (i := 600) rfl, rfl⟩
theorem w601 : Cond.methodLink RL 8 yL_cell ∈ xBW := xBW_of ⟨List.mem_of_getElem? (i := 601) (by decide +kernel), rfl⟩
theorem w602 : Cond.static yL_cell ∈ xBW := xBW_of ⟨List.mem_of_getElem? (i := 602) (by decide +kernel), rfl⟩
set_option maxRecDepth 100000 in
theorem w603 : Cond.code yL_cell cL_cell 2 (some .int) ∈ xBW := xBW_of ⟨List.mem_of_getElem? (i := 603) rfl, rfl⟩
theorem w604 : Cond.constant RL 7 (747796405) ∈ xBW := xBW_of ⟨List.mem_of_getElem? (i := 604) (by decide +kernel), rfl⟩
theorem w605 : Cond.methodLink RL 14 yL_at ∈ xBW := xBW_of ⟨List.mem_of_getElem? (i := 605) (by decide +kernel), rfl⟩
theorem w606 : Cond.static yL_at ∈ xBW := xBW_of ⟨List.mem_of_getElem? (i := 606) (by decide +kernel), rfl⟩
set_option maxRecDepth 100000 in
theorem w607 : Cond.code yL_at cL_at 2 (some .int) ∈ xBW := xBW_of ⟨List.mem_of_getElem? (i := 607) rfl, rfl⟩
theorem w608 : Cond.methodLink RL 75 yL_houseText ∈ xBW := xBW_of ⟨List.mem_of_getElem? (i := 608) (by decide +kernel), rfl⟩
theorem w609 : Cond.static yL_houseText ∈ xBW := xBW_of ⟨List.mem_of_getElem? (i := 609) (by decide +kernel), rfl⟩
set_option maxRecDepth 100000 in
theorem w610 : Cond.code yL_houseText cL_houseText 13 (some .int) ∈ xBW := xBW_of ⟨List.mem_of_getElem? (i := 610) rfl, rfl⟩
theorem w611 : Cond.methodLink RL 39 yL_write ∈ xBW := xBW_of ⟨List.mem_of_getElem? (i := 611) (by decide +kernel), rfl⟩
theorem w612 : Cond.static yL_write ∈ xBW := xBW_of ⟨List.mem_of_getElem? (i := 612) (by decide +kernel), rfl⟩
set_option maxRecDepth 100000 in
theorem w613 : Cond.code yL_write cL_write 4 (some .boolean) ∈ xBW := xBW_of ⟨List.mem_of_getElem? (i := 613) rfl, rfl⟩
theorem w614 : Cond.methodLink RL 18 yX9_letters ∈ xBW := xBW_of ⟨List.mem_of_getElem? (i := 614) (by decide +kernel), rfl⟩
theorem w615 : Cond.instanceMethod yX9_letters ∈ xBW := xBW_of ⟨List.mem_of_getElem? (i := 615) (by decide +kernel), rfl⟩
theorem w616 : Cond.selects RX9 yX9_letters yX9_letters ∈ xBW := xBW_of ⟨List.mem_of_getElem? (i := 616) (by decide +kernel), rfl⟩
set_option maxRecDepth 100000 in
theorem w617 : Cond.code yX9_letters cX9_letters 4 (some .int) ∈ xBW := xBW_of ⟨List.mem_of_getElem? (i := 617) rfl, rfl⟩
theorem w618 : Cond.methodLink RX9 75 yX4_lettersIn ∈ xBW := xBW_of ⟨List.mem_of_getElem? (i := 618) (by decide +kernel), rfl⟩
theorem w619 : Cond.static yX4_lettersIn ∈ xBW := xBW_of ⟨List.mem_of_getElem? (i := 619) (by decide +kernel), rfl⟩
set_option maxRecDepth 100000 in
theorem w620 : Cond.code yX4_lettersIn cX4_lettersIn 6 (some .int) ∈ xBW := xBW_of ⟨List.mem_of_getElem? (i := 620) rfl, rfl⟩
theorem w621 : Cond.methodLink RX4 15 yX4_byteOf ∈ xBW := xBW_of ⟨List.mem_of_getElem? (i := 621) (by decide +kernel), rfl⟩
theorem w622 : Cond.static yX4_byteOf ∈ xBW := xBW_of ⟨List.mem_of_getElem? (i := 622) (by decide +kernel), rfl⟩
set_option maxRecDepth 100000 in
theorem w623 : Cond.code yX4_byteOf cX4_byteOf 3 (some .int) ∈ xBW := xBW_of ⟨List.mem_of_getElem? (i := 623) rfl, rfl⟩
theorem w624 : Cond.constantLong RX4 19 (255) ∈ xBW := xBW_of ⟨List.mem_of_getElem? (i := 624) (by decide +kernel), rfl⟩
theorem w625 : Cond.methodLink RX9 83 yX4_addAll ∈ xBW := xBW_of ⟨List.mem_of_getElem? (i := 625) (by decide +kernel), rfl⟩
theorem w626 : Cond.instanceMethod yX4_addAll ∈ xBW := xBW_of ⟨List.mem_of_getElem? (i := 626) (by decide +kernel), rfl⟩
theorem w627 : Cond.selects RX4 yX4_addAll yX4_addAll ∈ xBW := xBW_of ⟨List.mem_of_getElem? (i := 627) (by decide +kernel), rfl⟩
set_option maxRecDepth 100000 in
theorem w628 : Cond.code yX4_addAll cX4_addAll 5 none ∈ xBW := xBW_of ⟨List.mem_of_getElem? (i := 628) rfl, rfl⟩
theorem w629 : Cond.methodLink RL 27 yL_step ∈ xBW := xBW_of ⟨List.mem_of_getElem? (i := 629) (by decide +kernel), rfl⟩
theorem w630 : Cond.static yL_step ∈ xBW := xBW_of ⟨List.mem_of_getElem? (i := 630) (by decide +kernel), rfl⟩
set_option maxRecDepth 100000 in
theorem w631 : Cond.code yL_step cL_step 6 (some .int) ∈ xBW := xBW_of ⟨List.mem_of_getElem? (i := 631) rfl, rfl⟩
theorem w632 : Cond.methodLink RL 24 yL_back ∈ xBW := xBW_of ⟨List.mem_of_getElem? (i := 632) (by decide +kernel), rfl⟩
theorem w633 : Cond.static yL_back ∈ xBW := xBW_of ⟨List.mem_of_getElem? (i := 633) (by decide +kernel), rfl⟩
set_option maxRecDepth 100000 in
theorem w634 : Cond.code yL_back cL_back 2 (some .int) ∈ xBW := xBW_of ⟨List.mem_of_getElem? (i := 634) rfl, rfl⟩
theorem w635 : Cond.methodLink RL 86 yL_people ∈ xBW := xBW_of ⟨List.mem_of_getElem? (i := 635) (by decide +kernel), rfl⟩
theorem w636 : Cond.static yL_people ∈ xBW := xBW_of ⟨List.mem_of_getElem? (i := 636) (by decide +kernel), rfl⟩
set_option maxRecDepth 100000 in
theorem w637 : Cond.code yL_people cL_people 13 (some .boolean) ∈ xBW := xBW_of ⟨List.mem_of_getElem? (i := 637) rfl, rfl⟩
theorem w638 : Cond.methodLink RL 35 yL_lifeText ∈ xBW := xBW_of ⟨List.mem_of_getElem? (i := 638) (by decide +kernel), rfl⟩
theorem w639 : Cond.static yL_lifeText ∈ xBW := xBW_of ⟨List.mem_of_getElem? (i := 639) (by decide +kernel), rfl⟩
set_option maxRecDepth 100000 in
theorem w640 : Cond.code yL_lifeText cL_lifeText 16 (some .int) ∈ xBW := xBW_of ⟨List.mem_of_getElem? (i := 640) rfl, rfl⟩
theorem w641 : Cond.methodLink RL 90 yL_stands ∈ xBW := xBW_of ⟨List.mem_of_getElem? (i := 641) (by decide +kernel), rfl⟩
theorem w642 : Cond.static yL_stands ∈ xBW := xBW_of ⟨List.mem_of_getElem? (i := 642) (by decide +kernel), rfl⟩
set_option maxRecDepth 100000 in
theorem w643 : Cond.code yL_stands cL_stands 13 (some .boolean) ∈ xBW := xBW_of ⟨List.mem_of_getElem? (i := 643) rfl, rfl⟩
theorem w644 : Cond.methodLink RL 56 yL_there ∈ xBW := xBW_of ⟨List.mem_of_getElem? (i := 644) (by decide +kernel), rfl⟩
theorem w645 : Cond.static yL_there ∈ xBW := xBW_of ⟨List.mem_of_getElem? (i := 645) (by decide +kernel), rfl⟩
set_option maxRecDepth 100000 in
theorem w646 : Cond.code yL_there cL_there 6 (some .int) ∈ xBW := xBW_of ⟨List.mem_of_getElem? (i := 646) rfl, rfl⟩
theorem w647 : Cond.methodLink RL 59 yL_met ∈ xBW := xBW_of ⟨List.mem_of_getElem? (i := 647) (by decide +kernel), rfl⟩
theorem w648 : Cond.static yL_met ∈ xBW := xBW_of ⟨List.mem_of_getElem? (i := 648) (by decide +kernel), rfl⟩
set_option maxRecDepth 100000 in
theorem w649 : Cond.code yL_met cL_met 4 (some .boolean) ∈ xBW := xBW_of ⟨List.mem_of_getElem? (i := 649) rfl, rfl⟩
theorem w650 : Cond.methodLink RL 97 yL_tasks ∈ xBW := xBW_of ⟨List.mem_of_getElem? (i := 650) (by decide +kernel), rfl⟩
theorem w651 : Cond.static yL_tasks ∈ xBW := xBW_of ⟨List.mem_of_getElem? (i := 651) (by decide +kernel), rfl⟩
set_option maxRecDepth 100000 in
theorem w652 : Cond.code yL_tasks cL_tasks 12 (some .boolean) ∈ xBW := xBW_of ⟨List.mem_of_getElem? (i := 652) rfl, rfl⟩
theorem w653 : Cond.methodLink RL 100 yL_glimpses ∈ xBW := xBW_of ⟨List.mem_of_getElem? (i := 653) (by decide +kernel), rfl⟩
theorem w654 : Cond.static yL_glimpses ∈ xBW := xBW_of ⟨List.mem_of_getElem? (i := 654) (by decide +kernel), rfl⟩
set_option maxRecDepth 100000 in
theorem w655 : Cond.code yL_glimpses cL_glimpses 13 (some .boolean) ∈ xBW := xBW_of ⟨List.mem_of_getElem? (i := 655) rfl, rfl⟩
theorem w656 : Cond.methodLink RL 128 yX9_pair ∈ xBW := xBW_of ⟨List.mem_of_getElem? (i := 656) (by decide +kernel), rfl⟩
theorem w657 : Cond.instanceMethod yX9_pair ∈ xBW := xBW_of ⟨List.mem_of_getElem? (i := 657) (by decide +kernel), rfl⟩
theorem w658 : Cond.selects RX9 yX9_pair yX9_pair ∈ xBW := xBW_of ⟨List.mem_of_getElem? (i := 658) (by decide +kernel), rfl⟩
set_option maxRecDepth 100000 in
theorem w659 : Cond.code yX9_pair cX9_pair 5 (some .int) ∈ xBW := xBW_of ⟨List.mem_of_getElem? (i := 659) rfl, rfl⟩
theorem w660 : Cond.methodLink RX9 240 yX0_waysBetween ∈ xBW := xBW_of ⟨List.mem_of_getElem? (i := 660) (by decide +kernel), rfl⟩
theorem w661 : Cond.instanceMethod yX0_waysBetween ∈ xBW := xBW_of ⟨List.mem_of_getElem? (i := 661) (by decide +kernel), rfl⟩
theorem w662 : Cond.selects RX0 yX0_waysBetween yX0_waysBetween ∈ xBW := xBW_of ⟨List.mem_of_getElem? (i := 662) (by decide +kernel), rfl⟩
set_option maxRecDepth 100000 in
theorem w663 : Cond.code yX0_waysBetween cX0_waysBetween 6 (some .int) ∈ xBW := xBW_of ⟨List.mem_of_getElem? (i := 663) rfl, rfl⟩
theorem w664 : Cond.methodLink RX0 26 yX3_selvesAt ∈ xBW := xBW_of ⟨List.mem_of_getElem? (i := 664) (by decide +kernel), rfl⟩
theorem w665 : Cond.methodLink RL 131 yX9_whose ∈ xBW := xBW_of ⟨List.mem_of_getElem? (i := 665) (by decide +kernel), rfl⟩
theorem w666 : Cond.instanceMethod yX9_whose ∈ xBW := xBW_of ⟨List.mem_of_getElem? (i := 666) (by decide +kernel), rfl⟩
theorem w667 : Cond.selects RX9 yX9_whose yX9_whose ∈ xBW := xBW_of ⟨List.mem_of_getElem? (i := 667) (by decide +kernel), rfl⟩
set_option maxRecDepth 100000 in
theorem w668 : Cond.code yX9_whose cX9_whose 4 (some .int) ∈ xBW := xBW_of ⟨List.mem_of_getElem? (i := 668) rfl, rfl⟩
theorem w669 : Cond.methodLink RX9 236 yX0_areAllOf ∈ xBW := xBW_of ⟨List.mem_of_getElem? (i := 669) (by decide +kernel), rfl⟩
theorem w670 : Cond.instanceMethod yX0_areAllOf ∈ xBW := xBW_of ⟨List.mem_of_getElem? (i := 670) (by decide +kernel), rfl⟩
theorem w671 : Cond.selects RX0 yX0_areAllOf yX0_areAllOf ∈ xBW := xBW_of ⟨List.mem_of_getElem? (i := 671) (by decide +kernel), rfl⟩
set_option maxRecDepth 100000 in
theorem w672 : Cond.code yX0_areAllOf cX0_areAllOf 3 (some .boolean) ∈ xBW := xBW_of ⟨List.mem_of_getElem? (i := 672) rfl, rfl⟩
theorem w673 : Cond.methodLink RL 134 yX9_forget ∈ xBW := xBW_of ⟨List.mem_of_getElem? (i := 673) (by decide +kernel), rfl⟩
theorem w674 : Cond.instanceMethod yX9_forget ∈ xBW := xBW_of ⟨List.mem_of_getElem? (i := 674) (by decide +kernel), rfl⟩
theorem w675 : Cond.selects RX9 yX9_forget yX9_forget ∈ xBW := xBW_of ⟨List.mem_of_getElem? (i := 675) (by decide +kernel), rfl⟩
set_option maxRecDepth 100000 in
theorem w676 : Cond.code yX9_forget cX9_forget 2 (some .int) ∈ xBW := xBW_of ⟨List.mem_of_getElem? (i := 676) rfl, rfl⟩
theorem w677 : Cond.methodLink RL 103 yL_doors ∈ xBW := xBW_of ⟨List.mem_of_getElem? (i := 677) (by decide +kernel), rfl⟩
theorem w678 : Cond.static yL_doors ∈ xBW := xBW_of ⟨List.mem_of_getElem? (i := 678) (by decide +kernel), rfl⟩
set_option maxRecDepth 100000 in
theorem w679 : Cond.code yL_doors cL_doors 11 (some .boolean) ∈ xBW := xBW_of ⟨List.mem_of_getElem? (i := 679) rfl, rfl⟩
theorem w680 : Cond.methodLink RL 137 yX9_meet ∈ xBW := xBW_of ⟨List.mem_of_getElem? (i := 680) (by decide +kernel), rfl⟩
theorem w681 : Cond.instanceMethod yX9_meet ∈ xBW := xBW_of ⟨List.mem_of_getElem? (i := 681) (by decide +kernel), rfl⟩
theorem w682 : Cond.selects RX9 yX9_meet yX9_meet ∈ xBW := xBW_of ⟨List.mem_of_getElem? (i := 682) (by decide +kernel), rfl⟩
set_option maxRecDepth 100000 in
theorem w683 : Cond.code yX9_meet cX9_meet 5 (some .int) ∈ xBW := xBW_of ⟨List.mem_of_getElem? (i := 683) rfl, rfl⟩
theorem w684 : Cond.methodLink RX9 200 yX3_firstMinuteWith ∈ xBW := xBW_of ⟨List.mem_of_getElem? (i := 684) (by decide +kernel), rfl⟩
theorem w685 : Cond.instanceMethod yX3_firstMinuteWith ∈ xBW := xBW_of ⟨List.mem_of_getElem? (i := 685) (by decide +kernel), rfl⟩
theorem w686 : Cond.selects RX3 yX3_firstMinuteWith yX3_firstMinuteWith ∈ xBW := xBW_of ⟨List.mem_of_getElem? (i := 686) (by decide +kernel), rfl⟩
set_option maxRecDepth 100000 in
theorem w687 : Cond.code yX3_firstMinuteWith cX3_firstMinuteWith 5 (some .int) ∈ xBW := xBW_of ⟨List.mem_of_getElem? (i := 687) rfl, rfl⟩
theorem w688 : Cond.methodLink RX3 91 yX3_selvesAt ∈ xBW := xBW_of ⟨List.mem_of_getElem? (i := 688) (by decide +kernel), rfl⟩
theorem w689 : Cond.methodLink RL 140 yX9_locked ∈ xBW := xBW_of ⟨List.mem_of_getElem? (i := 689) (by decide +kernel), rfl⟩
theorem w690 : Cond.instanceMethod yX9_locked ∈ xBW := xBW_of ⟨List.mem_of_getElem? (i := 690) (by decide +kernel), rfl⟩
theorem w691 : Cond.selects RX9 yX9_locked yX9_locked ∈ xBW := xBW_of ⟨List.mem_of_getElem? (i := 691) (by decide +kernel), rfl⟩
set_option maxRecDepth 100000 in
theorem w692 : Cond.code yX9_locked cX9_locked 5 (some .int) ∈ xBW := xBW_of ⟨List.mem_of_getElem? (i := 692) rfl, rfl⟩
theorem w693 : Cond.methodLink RX9 204 yX9_usersOf ∈ xBW := xBW_of ⟨List.mem_of_getElem? (i := 693) (by decide +kernel), rfl⟩
theorem w695 : Cond.instanceMethod yX9_usersOf ∈ xBW := xBW_of ⟨List.mem_of_getElem? (i := 695) (by decide +kernel), rfl⟩
set_option maxRecDepth 100000 in
theorem w696 : Cond.code yX9_usersOf cX9_usersOf 5 (some .int) ∈ xBW := xBW_of ⟨List.mem_of_getElem? (i := 696) rfl, rfl⟩
theorem w697 : Cond.methodLink RX9 331 yX3_usesDoor ∈ xBW := xBW_of ⟨List.mem_of_getElem? (i := 697) (by decide +kernel), rfl⟩
theorem w698 : Cond.instanceMethod yX3_usesDoor ∈ xBW := xBW_of ⟨List.mem_of_getElem? (i := 698) (by decide +kernel), rfl⟩
theorem w699 : Cond.selects RX3 yX3_usesDoor yX3_usesDoor ∈ xBW := xBW_of ⟨List.mem_of_getElem? (i := 699) (by decide +kernel), rfl⟩
set_option maxRecDepth 100000 in
theorem w700 : Cond.code yX3_usesDoor cX3_usesDoor 2 (some .boolean) ∈ xBW := xBW_of ⟨List.mem_of_getElem? (i := 700) rfl, rfl⟩
theorem w701 : Cond.constant RL 106 (2147483647) ∈ xBW := xBW_of ⟨List.mem_of_getElem? (i := 701) (by decide +kernel), rfl⟩
theorem w702 : Cond.constantLong RL 107 (1103515245) ∈ xBW := xBW_of ⟨List.mem_of_getElem? (i := 702) (by decide +kernel), rfl⟩
theorem w703 : Cond.constantLong RL 109 (12345) ∈ xBW := xBW_of ⟨List.mem_of_getElem? (i := 703) (by decide +kernel), rfl⟩
theorem w704 : Cond.constantLong RL 111 (2147483648) ∈ xBW := xBW_of ⟨List.mem_of_getElem? (i := 704) (by decide +kernel), rfl⟩
theorem w705 : Cond.constantLong RL 113 (65536) ∈ xBW := xBW_of ⟨List.mem_of_getElem? (i := 705) (by decide +kernel), rfl⟩
