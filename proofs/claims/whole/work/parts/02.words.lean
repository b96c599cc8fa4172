def gTB : List Cond := lw_tbl.filter goodWord
theorem win_L : Cond.initialized RL ∈ lw_tbl := List.mem_append_right _ (List.mem_of_getElem? (i := 0) rfl)
theorem win_X5 : Cond.initialized RX5 ∈ lw_tbl := List.mem_append_right _ (List.mem_of_getElem? (i := 1) rfl)
theorem win_X2 : Cond.initialized RX2 ∈ lw_tbl := List.mem_append_right _ (List.mem_of_getElem? (i := 2) rfl)
theorem win_X0 : Cond.initialized RX0 ∈ lw_tbl := List.mem_append_right _ (List.mem_of_getElem? (i := 3) rfl)
theorem win_X3 : Cond.initialized RX3 ∈ lw_tbl := List.mem_append_right _ (List.mem_of_getElem? (i := 4) rfl)
theorem win_X6 : Cond.initialized RX6 ∈ lw_tbl := List.mem_append_right _ (List.mem_of_getElem? (i := 5) rfl)
theorem win_X1 : Cond.initialized RX1 ∈ lw_tbl := List.mem_append_right _ (List.mem_of_getElem? (i := 6) rfl)
theorem win_J9 : Cond.initialized "java/lang/Math" ∈ lw_tbl := List.mem_append_right _ (List.mem_of_getElem? (i := 7) rfl)
theorem win_X4 : Cond.initialized RX4 ∈ lw_tbl := List.mem_append_right _ (List.mem_of_getElem? (i := 8) rfl)
theorem wcl_L_7 : Cond.classLink RL 7 RX5 ∈ lw_tbl := List.mem_append_right _ (List.mem_of_getElem? (i := 9) rfl)
theorem wis_X5 : Cond.instantiable RX5 14 ∈ lw_tbl := List.mem_append_right _ (List.mem_of_getElem? (i := 10) rfl)
theorem wml_L_9 : Cond.methodLink RL 9 yX5_init ∈ lw_tbl := List.mem_append_right _ (List.mem_of_getElem? (i := 11) rfl)
theorem wim_X5_init : Cond.instanceMethod yX5_init ∈ lw_tbl := List.mem_append_right _ (List.mem_of_getElem? (i := 12) rfl)
theorem wco_X5_init : Cond.code yX5_init cX5_init 1 none ∈ lw_tbl := List.mem_append_right _ (List.mem_of_getElem? (i := 13) rfl)
theorem wml_X5_1 : Cond.methodLink RX5 1 objectInit ∈ lw_tbl := List.mem_append_right _ (List.mem_of_getElem? (i := 14) rfl)
theorem wim_objectInit : Cond.instanceMethod objectInit ∈ lw_tbl := List.mem_append_right _ (List.mem_of_getElem? (i := 15) rfl)
theorem wco_objectInit : Cond.code objectInit ⟨#[0xb1]⟩ 1 none ∈ lw_tbl := List.mem_append_right _ (List.mem_of_getElem? (i := 16) rfl)
theorem wcl_X5_9 : Cond.classLink RX5 9 RX1 ∈ lw_tbl := List.mem_append_right _ (List.mem_of_getElem? (i := 17) rfl)
theorem wao_X1 : Cond.arrayOver (.object RX1) ∈ lw_tbl := List.mem_append_right _ (List.mem_of_getElem? (i := 18) rfl)
theorem wcl_X5_15 : Cond.classLink RX5 15 RX4 ∈ lw_tbl := List.mem_append_right _ (List.mem_of_getElem? (i := 19) rfl)
theorem wao_X4 : Cond.arrayOver (.object RX4) ∈ lw_tbl := List.mem_append_right _ (List.mem_of_getElem? (i := 20) rfl)
theorem wcl_X5_21 : Cond.classLink RX5 21 RX2 ∈ lw_tbl := List.mem_append_right _ (List.mem_of_getElem? (i := 21) rfl)
theorem wis_X2 : Cond.instantiable RX2 2 ∈ lw_tbl := List.mem_append_right _ (List.mem_of_getElem? (i := 22) rfl)
theorem wmn_X5_23 : Cond.methodLinkNest RX5 23 yX2_init "MilkBox" ∈ lw_tbl := List.mem_append_right _ (List.mem_of_getElem? (i := 23) rfl)
theorem wim_X2_init : Cond.instanceMethod yX2_init ∈ lw_tbl := List.mem_append_right _ (List.mem_of_getElem? (i := 24) rfl)
theorem wco_X2_init : Cond.code yX2_init cX2_init 1 none ∈ lw_tbl := List.mem_append_right _ (List.mem_of_getElem? (i := 25) rfl)
theorem wml_X2_3 : Cond.methodLink RX2 3 objectInit ∈ lw_tbl := List.mem_append_right _ (List.mem_of_getElem? (i := 26) rfl)
theorem wcl_X2_9 : Cond.classLink RX2 9 RX4 ∈ lw_tbl := List.mem_append_right _ (List.mem_of_getElem? (i := 27) rfl)
theorem wfl_X2_11 : Cond.fieldLink RX2 11 "MilkBox$Line" "places" "[LMilkBox$Visit;" ∈ lw_tbl := List.mem_append_right _ (List.mem_of_getElem? (i := 28) rfl)
theorem wfl_X2_17 : Cond.fieldLink RX2 17 "MilkBox$Line" "size" "I" ∈ lw_tbl := List.mem_append_right _ (List.mem_of_getElem? (i := 29) rfl)
theorem wfl_X5_190 : Cond.fieldLink RX5 190 "MilkBox$Line" "size" "I" ∈ lw_tbl := List.mem_append_right _ (List.mem_of_getElem? (i := 30) rfl)
theorem wcl_X5_28 : Cond.classLink RX5 28 RX0 ∈ lw_tbl := List.mem_append_right _ (List.mem_of_getElem? (i := 36) rfl)
theorem wis_X0 : Cond.instantiable RX0 5 ∈ lw_tbl := List.mem_append_right _ (List.mem_of_getElem? (i := 37) rfl)
theorem wmn_X5_30 : Cond.methodLinkNest RX5 30 yX0_init "MilkBox" ∈ lw_tbl := List.mem_append_right _ (List.mem_of_getElem? (i := 38) rfl)
theorem wim_X0_init : Cond.instanceMethod yX0_init ∈ lw_tbl := List.mem_append_right _ (List.mem_of_getElem? (i := 39) rfl)
theorem wco_X0_init : Cond.code yX0_init cX0_init 1 none ∈ lw_tbl := List.mem_append_right _ (List.mem_of_getElem? (i := 40) rfl)
theorem wml_X0_3 : Cond.methodLink RX0 3 objectInit ∈ lw_tbl := List.mem_append_right _ (List.mem_of_getElem? (i := 41) rfl)
theorem wfl_X0_9 : Cond.fieldLink RX0 9 "MilkBox$Arm" "current" "LMilkBox$Visit;" ∈ lw_tbl := List.mem_append_right _ (List.mem_of_getElem? (i := 42) rfl)
theorem wfl_X5_155 : Cond.fieldLink RX5 155 "MilkBox$Arm" "current" "LMilkBox$Visit;" ∈ lw_tbl := List.mem_append_right _ (List.mem_of_getElem? (i := 43) rfl)
theorem wfl_X0_27 : Cond.fieldLink RX0 27 "MilkBox$Arm" "milkThere" "I" ∈ lw_tbl := List.mem_append_right _ (List.mem_of_getElem? (i := 44) rfl)
theorem wfl_X5_261 : Cond.fieldLink RX5 261 "MilkBox$Arm" "milkThere" "I" ∈ lw_tbl := List.mem_append_right _ (List.mem_of_getElem? (i := 45) rfl)
theorem wfl_X0_30 : Cond.fieldLink RX0 30 "MilkBox$Arm" "milkDue" "I" ∈ lw_tbl := List.mem_append_right _ (List.mem_of_getElem? (i := 46) rfl)
theorem wfl_X5_239 : Cond.fieldLink RX5 239 "MilkBox$Arm" "milkDue" "I" ∈ lw_tbl := List.mem_append_right _ (List.mem_of_getElem? (i := 47) rfl)
theorem wfl_X0_33 : Cond.fieldLink RX0 33 "MilkBox$Arm" "flowsFrom" "I" ∈ lw_tbl := List.mem_append_right _ (List.mem_of_getElem? (i := 48) rfl)
theorem wfl_X0_49 : Cond.fieldLink RX0 49 "MilkBox$Arm" "endsAt" "I" ∈ lw_tbl := List.mem_append_right _ (List.mem_of_getElem? (i := 49) rfl)
theorem wfl_X5_116 : Cond.fieldLink RX5 116 "MilkBox$Arm" "endsAt" "I" ∈ lw_tbl := List.mem_append_right _ (List.mem_of_getElem? (i := 50) rfl)
theorem wcl_X5_35 : Cond.classLink RX5 35 RX3 ∈ lw_tbl := List.mem_append_right _ (List.mem_of_getElem? (i := 62) rfl)
theorem wis_X3 : Cond.instantiable RX3 5 ∈ lw_tbl := List.mem_append_right _ (List.mem_of_getElem? (i := 63) rfl)
theorem wmn_X5_37 : Cond.methodLinkNest RX5 37 yX3_init "MilkBox" ∈ lw_tbl := List.mem_append_right _ (List.mem_of_getElem? (i := 64) rfl)
theorem wim_X3_init : Cond.instanceMethod yX3_init ∈ lw_tbl := List.mem_append_right _ (List.mem_of_getElem? (i := 65) rfl)
theorem wco_X3_init : Cond.code yX3_init cX3_init 1 none ∈ lw_tbl := List.mem_append_right _ (List.mem_of_getElem? (i := 66) rfl)
theorem wml_X3_3 : Cond.methodLink RX3 3 objectInit ∈ lw_tbl := List.mem_append_right _ (List.mem_of_getElem? (i := 67) rfl)
theorem wfl_X3_9 : Cond.fieldLink RX3 9 "MilkBox$Store" "tankRoom" "I" ∈ lw_tbl := List.mem_append_right _ (List.mem_of_getElem? (i := 68) rfl)
theorem wfl_X5_169 : Cond.fieldLink RX5 169 "MilkBox$Store" "tankRoom" "I" ∈ lw_tbl := List.mem_append_right _ (List.mem_of_getElem? (i := 69) rfl)
theorem wfl_X3_18 : Cond.fieldLink RX3 18 "MilkBox$Store" "tank" "I" ∈ lw_tbl := List.mem_append_right _ (List.mem_of_getElem? (i := 70) rfl)
theorem wfl_X5_166 : Cond.fieldLink RX5 166 "MilkBox$Store" "tank" "I" ∈ lw_tbl := List.mem_append_right _ (List.mem_of_getElem? (i := 71) rfl)
theorem wfl_X3_15 : Cond.fieldLink RX3 15 "MilkBox$Store" "can" "I" ∈ lw_tbl := List.mem_append_right _ (List.mem_of_getElem? (i := 72) rfl)
theorem wfl_X5_175 : Cond.fieldLink RX5 175 "MilkBox$Store" "can" "I" ∈ lw_tbl := List.mem_append_right _ (List.mem_of_getElem? (i := 73) rfl)
theorem wfl_X3_21 : Cond.fieldLink RX3 21 "MilkBox$Store" "poured" "I" ∈ lw_tbl := List.mem_append_right _ (List.mem_of_getElem? (i := 74) rfl)
theorem wfl_X5_178 : Cond.fieldLink RX5 178 "MilkBox$Store" "poured" "I" ∈ lw_tbl := List.mem_append_right _ (List.mem_of_getElem? (i := 75) rfl)
theorem wfl_X3_30 : Cond.fieldLink RX3 30 "MilkBox$Store" "takenAway" "I" ∈ lw_tbl := List.mem_append_right _ (List.mem_of_getElem? (i := 76) rfl)
theorem wfl_X5_181 : Cond.fieldLink RX5 181 "MilkBox$Store" "takenAway" "I" ∈ lw_tbl := List.mem_append_right _ (List.mem_of_getElem? (i := 77) rfl)
theorem wfl_X5_11 : Cond.fieldLink RX5 11 "MilkBox" "cows" "[LMilkBox$Cow;" ∈ lw_tbl := List.mem_append_right _ (List.mem_of_getElem? (i := 89) rfl)
theorem wfl_X5_17 : Cond.fieldLink RX5 17 "MilkBox" "visits" "[LMilkBox$Visit;" ∈ lw_tbl := List.mem_append_right _ (List.mem_of_getElem? (i := 90) rfl)
theorem wfl_X5_24 : Cond.fieldLink RX5 24 "MilkBox" "line" "LMilkBox$Line;" ∈ lw_tbl := List.mem_append_right _ (List.mem_of_getElem? (i := 91) rfl)
theorem wfl_X5_31 : Cond.fieldLink RX5 31 "MilkBox" "arm" "LMilkBox$Arm;" ∈ lw_tbl := List.mem_append_right _ (List.mem_of_getElem? (i := 92) rfl)
theorem wfl_X5_38 : Cond.fieldLink RX5 38 "MilkBox" "store" "LMilkBox$Store;" ∈ lw_tbl := List.mem_append_right _ (List.mem_of_getElem? (i := 93) rfl)
theorem wfl_X5_50 : Cond.fieldLink RX5 50 "MilkBox" "cowCount" "I" ∈ lw_tbl := List.mem_append_right _ (List.mem_of_getElem? (i := 94) rfl)
theorem wfl_X5_129 : Cond.fieldLink RX5 129 "MilkBox" "visitCount" "I" ∈ lw_tbl := List.mem_append_right _ (List.mem_of_getElem? (i := 95) rfl)
theorem wfl_X5_54 : Cond.fieldLink RX5 54 "MilkBox" "clock" "I" ∈ lw_tbl := List.mem_append_right _ (List.mem_of_getElem? (i := 96) rfl)
theorem wfl_X5_42 : Cond.fieldLink RX5 42 "MilkBox" "powered" "Z" ∈ lw_tbl := List.mem_append_right _ (List.mem_of_getElem? (i := 97) rfl)
theorem wfl_X5_184 : Cond.fieldLink RX5 184 "MilkBox" "allMilk" "I" ∈ lw_tbl := List.mem_append_right _ (List.mem_of_getElem? (i := 98) rfl)
theorem wfl_X5_187 : Cond.fieldLink RX5 187 "MilkBox" "allFeed" "I" ∈ lw_tbl := List.mem_append_right _ (List.mem_of_getElem? (i := 99) rfl)
theorem wfl_X5_144 : Cond.fieldLink RX5 144 "MilkBox" "alarms" "I" ∈ lw_tbl := List.mem_append_right _ (List.mem_of_getElem? (i := 100) rfl)
theorem wfl_X5_152 : Cond.fieldLink RX5 152 "MilkBox" "refusals" "I" ∈ lw_tbl := List.mem_append_right _ (List.mem_of_getElem? (i := 101) rfl)
theorem wfl_X5_208 : Cond.fieldLink RX5 208 "MilkBox" "longestStay" "I" ∈ lw_tbl := List.mem_append_right _ (List.mem_of_getElem? (i := 102) rfl)
theorem wml_L_13 : Cond.methodLink RL 13 yX5_cow ∈ lw_tbl := List.mem_append_right _ (List.mem_of_getElem? (i := 132) rfl)
theorem wim_X5_cow : Cond.instanceMethod yX5_cow ∈ lw_tbl := List.mem_append_right _ (List.mem_of_getElem? (i := 133) rfl)
theorem wse_X5_cow : Cond.selects RX5 yX5_cow yX5_cow ∈ lw_tbl := List.mem_append_right _ (List.mem_of_getElem? (i := 134) rfl)
theorem wco_X5_cow : Cond.code yX5_cow cX5_cow 5 (some .int) ∈ lw_tbl := List.mem_append_right _ (List.mem_of_getElem? (i := 135) rfl)
theorem wml_X5_46 : Cond.methodLink RX5 46 yX5_within ∈ lw_tbl := List.mem_append_right _ (List.mem_of_getElem? (i := 136) rfl)
theorem wst_X5_within : Cond.static yX5_within ∈ lw_tbl := List.mem_append_right _ (List.mem_of_getElem? (i := 137) rfl)
theorem wco_X5_within : Cond.code yX5_within cX5_within 3 (some .boolean) ∈ lw_tbl := List.mem_append_right _ (List.mem_of_getElem? (i := 138) rfl)
theorem wis_X1 : Cond.instantiable RX1 14 ∈ lw_tbl := List.mem_append_right _ (List.mem_of_getElem? (i := 139) rfl)
theorem wml_X5_57 : Cond.methodLink RX5 57 yX1_init ∈ lw_tbl := List.mem_append_right _ (List.mem_of_getElem? (i := 140) rfl)
theorem wim_X1_init : Cond.instanceMethod yX1_init ∈ lw_tbl := List.mem_append_right _ (List.mem_of_getElem? (i := 141) rfl)
theorem wco_X1_init : Cond.code yX1_init cX1_init 6 none ∈ lw_tbl := List.mem_append_right _ (List.mem_of_getElem? (i := 142) rfl)
theorem wml_X1_3 : Cond.methodLink RX1 3 objectInit ∈ lw_tbl := List.mem_append_right _ (List.mem_of_getElem? (i := 143) rfl)
theorem wfl_X1_22 : Cond.fieldLink RX1 22 "MilkBox$Cow" "kind" "I" ∈ lw_tbl := List.mem_append_right _ (List.mem_of_getElem? (i := 144) rfl)
theorem wfl_X5_64 : Cond.fieldLink RX5 64 "MilkBox$Cow" "kind" "I" ∈ lw_tbl := List.mem_append_right _ (List.mem_of_getElem? (i := 145) rfl)
theorem wfl_X1_25 : Cond.fieldLink RX1 25 "MilkBox$Cow" "rate" "I" ∈ lw_tbl := List.mem_append_right _ (List.mem_of_getElem? (i := 146) rfl)
theorem wfl_X5_67 : Cond.fieldLink RX5 67 "MilkBox$Cow" "rate" "I" ∈ lw_tbl := List.mem_append_right _ (List.mem_of_getElem? (i := 147) rfl)
theorem wfl_X1_28 : Cond.fieldLink RX1 28 "MilkBox$Cow" "pause" "I" ∈ lw_tbl := List.mem_append_right _ (List.mem_of_getElem? (i := 148) rfl)
theorem wfl_X5_70 : Cond.fieldLink RX5 70 "MilkBox$Cow" "pause" "I" ∈ lw_tbl := List.mem_append_right _ (List.mem_of_getElem? (i := 149) rfl)
theorem wfl_X1_31 : Cond.fieldLink RX1 31 "MilkBox$Cow" "feedADay" "I" ∈ lw_tbl := List.mem_append_right _ (List.mem_of_getElem? (i := 150) rfl)
theorem wfl_X5_73 : Cond.fieldLink RX5 73 "MilkBox$Cow" "feedADay" "I" ∈ lw_tbl := List.mem_append_right _ (List.mem_of_getElem? (i := 151) rfl)
theorem wfl_X1_9 : Cond.fieldLink RX1 9 "MilkBox$Cow" "troubles" "[I" ∈ lw_tbl := List.mem_append_right _ (List.mem_of_getElem? (i := 152) rfl)
theorem wfl_X0_36 : Cond.fieldLink RX0 36 "MilkBox$Cow" "troubles" "[I" ∈ lw_tbl := List.mem_append_right _ (List.mem_of_getElem? (i := 153) rfl)
theorem wfl_X5_80 : Cond.fieldLink RX5 80 "MilkBox$Cow" "troubles" "[I" ∈ lw_tbl := List.mem_append_right _ (List.mem_of_getElem? (i := 154) rfl)
theorem wfl_X1_15 : Cond.fieldLink RX1 15 "MilkBox$Cow" "latest" "[I" ∈ lw_tbl := List.mem_append_right _ (List.mem_of_getElem? (i := 155) rfl)
theorem wfl_X5_108 : Cond.fieldLink RX5 108 "MilkBox$Cow" "readings" "I" ∈ lw_tbl := List.mem_append_right _ (List.mem_of_getElem? (i := 156) rfl)
theorem wfl_X1_62 : Cond.fieldLink RX1 62 "MilkBox$Cow" "readings" "I" ∈ lw_tbl := List.mem_append_right _ (List.mem_of_getElem? (i := 157) rfl)
theorem wfl_X5_77 : Cond.fieldLink RX5 77 "MilkBox$Cow" "withheldTo" "I" ∈ lw_tbl := List.mem_append_right _ (List.mem_of_getElem? (i := 158) rfl)
theorem wfl_X1_50 : Cond.fieldLink RX1 50 "MilkBox$Cow" "withheldTo" "I" ∈ lw_tbl := List.mem_append_right _ (List.mem_of_getElem? (i := 159) rfl)
theorem wfl_X1_34 : Cond.fieldLink RX1 34 "MilkBox$Cow" "growsFrom" "I" ∈ lw_tbl := List.mem_append_right _ (List.mem_of_getElem? (i := 160) rfl)
theorem wfl_X1_37 : Cond.fieldLink RX1 37 "MilkBox$Cow" "left" "I" ∈ lw_tbl := List.mem_append_right _ (List.mem_of_getElem? (i := 161) rfl)
theorem wfl_X5_264 : Cond.fieldLink RX5 264 "MilkBox$Cow" "left" "I" ∈ lw_tbl := List.mem_append_right _ (List.mem_of_getElem? (i := 162) rfl)
theorem wfl_X1_18 : Cond.fieldLink RX1 18 "MilkBox$Cow" "latestBegan" "I" ∈ lw_tbl := List.mem_append_right _ (List.mem_of_getElem? (i := 163) rfl)
theorem wfl_X5_88 : Cond.fieldLink RX5 88 "MilkBox$Cow" "latestBegan" "I" ∈ lw_tbl := List.mem_append_right _ (List.mem_of_getElem? (i := 164) rfl)
theorem wfl_X5_105 : Cond.fieldLink RX5 105 "MilkBox$Cow" "milkedInAll" "I" ∈ lw_tbl := List.mem_append_right _ (List.mem_of_getElem? (i := 165) rfl)
theorem wfl_X1_56 : Cond.fieldLink RX1 56 "MilkBox$Cow" "fed" "I" ∈ lw_tbl := List.mem_append_right _ (List.mem_of_getElem? (i := 166) rfl)
theorem wfl_X1_53 : Cond.fieldLink RX1 53 "MilkBox$Cow" "fedDay" "I" ∈ lw_tbl := List.mem_append_right _ (List.mem_of_getElem? (i := 167) rfl)
theorem wac_int : Cond.arrayClass .int ∈ lw_tbl := List.mem_append_right _ (List.mem_of_getElem? (i := 197) rfl)
theorem wml_L_18 : Cond.methodLink RL 18 yX5_taken ∈ lw_tbl := List.mem_append_right _ (List.mem_of_getElem? (i := 198) rfl)
theorem wim_X5_taken : Cond.instanceMethod yX5_taken ∈ lw_tbl := List.mem_append_right _ (List.mem_of_getElem? (i := 199) rfl)
theorem wse_X5_taken : Cond.selects RX5 yX5_taken yX5_taken ∈ lw_tbl := List.mem_append_right _ (List.mem_of_getElem? (i := 200) rfl)
theorem wco_X5_taken : Cond.code yX5_taken cX5_taken 5 (some .int) ∈ lw_tbl := List.mem_append_right _ (List.mem_of_getElem? (i := 201) rfl)
theorem wml_X5_60 : Cond.methodLink RX5 60 yX5_cowAt ∈ lw_tbl := List.mem_append_right _ (List.mem_of_getElem? (i := 202) rfl)
theorem wim_X5_cowAt : Cond.instanceMethod yX5_cowAt ∈ lw_tbl := List.mem_append_right _ (List.mem_of_getElem? (i := 204) rfl)
theorem wco_X5_cowAt : Cond.code yX5_cowAt cX5_cowAt 2 (some (.object "MilkBox$Cow")) ∈ lw_tbl := List.mem_append_right _ (List.mem_of_getElem? (i := 205) rfl)
theorem wml_L_23 : Cond.methodLink RL 23 yX5_withhold ∈ lw_tbl := List.mem_append_right _ (List.mem_of_getElem? (i := 206) rfl)
theorem wim_X5_withhold : Cond.instanceMethod yX5_withhold ∈ lw_tbl := List.mem_append_right _ (List.mem_of_getElem? (i := 207) rfl)
theorem wse_X5_withhold : Cond.selects RX5 yX5_withhold yX5_withhold ∈ lw_tbl := List.mem_append_right _ (List.mem_of_getElem? (i := 208) rfl)
theorem wco_X5_withhold : Cond.code yX5_withhold cX5_withhold 5 (some .int) ∈ lw_tbl := List.mem_append_right _ (List.mem_of_getElem? (i := 209) rfl)
theorem wk_X5_76 : Cond.constant RX5 76 (200000) ∈ lw_tbl := List.mem_append_right _ (List.mem_of_getElem? (i := 210) rfl)
theorem wml_L_28 : Cond.methodLink RL 28 yX5_trouble ∈ lw_tbl := List.mem_append_right _ (List.mem_of_getElem? (i := 211) rfl)
theorem wim_X5_trouble : Cond.instanceMethod yX5_trouble ∈ lw_tbl := List.mem_append_right _ (List.mem_of_getElem? (i := 212) rfl)
theorem wse_X5_trouble : Cond.selects RX5 yX5_trouble yX5_trouble ∈ lw_tbl := List.mem_append_right _ (List.mem_of_getElem? (i := 213) rfl)
theorem wco_X5_trouble : Cond.code yX5_trouble cX5_trouble 6 (some .int) ∈ lw_tbl := List.mem_append_right _ (List.mem_of_getElem? (i := 214) rfl)
theorem wml_L_32 : Cond.methodLink RL 32 yX5_about ∈ lw_tbl := List.mem_append_right _ (List.mem_of_getElem? (i := 215) rfl)
theorem wim_X5_about : Cond.instanceMethod yX5_about ∈ lw_tbl := List.mem_append_right _ (List.mem_of_getElem? (i := 216) rfl)
theorem wse_X5_about : Cond.selects RX5 yX5_about yX5_about ∈ lw_tbl := List.mem_append_right _ (List.mem_of_getElem? (i := 217) rfl)
theorem wco_X5_about : Cond.code yX5_about cX5_about 4 (some .int) ∈ lw_tbl := List.mem_append_right _ (List.mem_of_getElem? (i := 218) rfl)
theorem wml_X5_84 : Cond.methodLink RX5 84 yX1_milkAt ∈ lw_tbl := List.mem_append_right _ (List.mem_of_getElem? (i := 219) rfl)
theorem wim_X1_milkAt : Cond.instanceMethod yX1_milkAt ∈ lw_tbl := List.mem_append_right _ (List.mem_of_getElem? (i := 220) rfl)
theorem wse_X1_milkAt : Cond.selects RX1 yX1_milkAt yX1_milkAt ∈ lw_tbl := List.mem_append_right _ (List.mem_of_getElem? (i := 221) rfl)
theorem wco_X1_milkAt : Cond.code yX1_milkAt cX1_milkAt 2 (some .int) ∈ lw_tbl := List.mem_append_right _ (List.mem_of_getElem? (i := 222) rfl)
theorem wml_X1_40 : Cond.methodLink RX1 40 Lib.Math.min.name ∈ lw_tbl := List.mem_append_right _ (List.mem_of_getElem? (i := 223) rfl)
theorem wst_Lib_Math_min_name : Cond.static Lib.Math.min.name ∈ lw_tbl := List.mem_append_right _ (List.mem_of_getElem? (i := 224) rfl)
theorem wco_Lib_Math_min_name : Cond.code Lib.Math.min.name Lib.Math.min.code 2 (some .int) ∈ lw_tbl := List.mem_append_right _ (List.mem_of_getElem? (i := 225) rfl)
theorem wml_X5_91 : Cond.methodLink RX5 91 yX1_hasRightAt ∈ lw_tbl := List.mem_append_right _ (List.mem_of_getElem? (i := 226) rfl)
theorem wim_X1_hasRightAt : Cond.instanceMethod yX1_hasRightAt ∈ lw_tbl := List.mem_append_right _ (List.mem_of_getElem? (i := 227) rfl)
theorem wse_X1_hasRightAt : Cond.selects RX1 yX1_hasRightAt yX1_hasRightAt ∈ lw_tbl := List.mem_append_right _ (List.mem_of_getElem? (i := 228) rfl)
theorem wco_X1_hasRightAt : Cond.code yX1_hasRightAt cX1_hasRightAt 2 (some .boolean) ∈ lw_tbl := List.mem_append_right _ (List.mem_of_getElem? (i := 229) rfl)
theorem wml_X5_95 : Cond.methodLink RX5 95 yX5_asNumber ∈ lw_tbl := List.mem_append_right _ (List.mem_of_getElem? (i := 230) rfl)
theorem wst_X5_asNumber : Cond.static yX5_asNumber ∈ lw_tbl := List.mem_append_right _ (List.mem_of_getElem? (i := 231) rfl)
theorem wco_X5_asNumber : Cond.code yX5_asNumber cX5_asNumber 1 (some .int) ∈ lw_tbl := List.mem_append_right _ (List.mem_of_getElem? (i := 232) rfl)
theorem wml_X5_99 : Cond.methodLink RX5 99 yX1_fedOn ∈ lw_tbl := List.mem_append_right _ (List.mem_of_getElem? (i := 233) rfl)
theorem wim_X1_fedOn : Cond.instanceMethod yX1_fedOn ∈ lw_tbl := List.mem_append_right _ (List.mem_of_getElem? (i := 234) rfl)
theorem wse_X1_fedOn : Cond.selects RX1 yX1_fedOn yX1_fedOn ∈ lw_tbl := List.mem_append_right _ (List.mem_of_getElem? (i := 235) rfl)
theorem wco_X1_fedOn : Cond.code yX1_fedOn cX1_fedOn 2 (some .int) ∈ lw_tbl := List.mem_append_right _ (List.mem_of_getElem? (i := 236) rfl)
theorem wml_X5_102 : Cond.methodLink RX5 102 yX2_placeOf ∈ lw_tbl := List.mem_append_right _ (List.mem_of_getElem? (i := 237) rfl)
theorem wim_X2_placeOf : Cond.instanceMethod yX2_placeOf ∈ lw_tbl := List.mem_append_right _ (List.mem_of_getElem? (i := 238) rfl)
theorem wse_X2_placeOf : Cond.selects RX2 yX2_placeOf yX2_placeOf ∈ lw_tbl := List.mem_append_right _ (List.mem_of_getElem? (i := 239) rfl)
theorem wco_X2_placeOf : Cond.code yX2_placeOf cX2_placeOf 4 (some .int) ∈ lw_tbl := List.mem_append_right _ (List.mem_of_getElem? (i := 240) rfl)
theorem wml_X2_21 : Cond.methodLink RX2 21 yX2_at ∈ lw_tbl := List.mem_append_right _ (List.mem_of_getElem? (i := 241) rfl)
theorem wim_X2_at : Cond.instanceMethod yX2_at ∈ lw_tbl := List.mem_append_right _ (List.mem_of_getElem? (i := 242) rfl)
theorem wse_X2_at : Cond.selects RX2 yX2_at yX2_at ∈ lw_tbl := List.mem_append_right _ (List.mem_of_getElem? (i := 243) rfl)
theorem wco_X2_at : Cond.code yX2_at cX2_at 2 (some (.object "MilkBox$Visit")) ∈ lw_tbl := List.mem_append_right _ (List.mem_of_getElem? (i := 244) rfl)
theorem wml_L_36 : Cond.methodLink RL 36 yX5_pass ∈ lw_tbl := List.mem_append_right _ (List.mem_of_getElem? (i := 245) rfl)
theorem wim_X5_pass : Cond.instanceMethod yX5_pass ∈ lw_tbl := List.mem_append_right _ (List.mem_of_getElem? (i := 246) rfl)
theorem wse_X5_pass : Cond.selects RX5 yX5_pass yX5_pass ∈ lw_tbl := List.mem_append_right _ (List.mem_of_getElem? (i := 247) rfl)
theorem wco_X5_pass : Cond.code yX5_pass cX5_pass 4 (some .int) ∈ lw_tbl := List.mem_append_right _ (List.mem_of_getElem? (i := 248) rfl)
theorem wk_X5_111 : Cond.constant RX5 111 (100000) ∈ lw_tbl := List.mem_append_right _ (List.mem_of_getElem? (i := 249) rfl)
theorem wml_X5_112 : Cond.methodLink RX5 112 yX0_isBusy ∈ lw_tbl := List.mem_append_right _ (List.mem_of_getElem? (i := 250) rfl)
theorem wim_X0_isBusy : Cond.instanceMethod yX0_isBusy ∈ lw_tbl := List.mem_append_right _ (List.mem_of_getElem? (i := 251) rfl)
theorem wse_X0_isBusy : Cond.selects RX0 yX0_isBusy yX0_isBusy ∈ lw_tbl := List.mem_append_right _ (List.mem_of_getElem? (i := 252) rfl)
theorem wco_X0_isBusy : Cond.code yX0_isBusy cX0_isBusy 1 (some .boolean) ∈ lw_tbl := List.mem_append_right _ (List.mem_of_getElem? (i := 253) rfl)
theorem wml_X5_119 : Cond.methodLink RX5 119 yX5_finishMilking ∈ lw_tbl := List.mem_append_right _ (List.mem_of_getElem? (i := 254) rfl)
theorem wim_X5_finishMilking : Cond.instanceMethod yX5_finishMilking ∈ lw_tbl := List.mem_append_right _ (List.mem_of_getElem? (i := 256) rfl)
theorem wco_X5_finishMilking : Cond.code yX5_finishMilking cX5_finishMilking 5 none ∈ lw_tbl := List.mem_append_right _ (List.mem_of_getElem? (i := 257) rfl)
theorem wml_X5_236 : Cond.methodLink RX5 236 yX0_milkedBy ∈ lw_tbl := List.mem_append_right _ (List.mem_of_getElem? (i := 258) rfl)
theorem wim_X0_milkedBy : Cond.instanceMethod yX0_milkedBy ∈ lw_tbl := List.mem_append_right _ (List.mem_of_getElem? (i := 259) rfl)
theorem wse_X0_milkedBy : Cond.selects RX0 yX0_milkedBy yX0_milkedBy ∈ lw_tbl := List.mem_append_right _ (List.mem_of_getElem? (i := 260) rfl)
theorem wco_X0_milkedBy : Cond.code yX0_milkedBy cX0_milkedBy 2 (some .int) ∈ lw_tbl := List.mem_append_right _ (List.mem_of_getElem? (i := 261) rfl)
theorem wml_X0_58 : Cond.methodLink RX0 58 Lib.Math.max.name ∈ lw_tbl := List.mem_append_right _ (List.mem_of_getElem? (i := 262) rfl)
theorem wst_Lib_Math_max_name : Cond.static Lib.Math.max.name ∈ lw_tbl := List.mem_append_right _ (List.mem_of_getElem? (i := 263) rfl)
theorem wco_Lib_Math_max_name : Cond.code Lib.Math.max.name Lib.Math.max.code 2 (some .int) ∈ lw_tbl := List.mem_append_right _ (List.mem_of_getElem? (i := 264) rfl)
theorem wml_X0_40 : Cond.methodLink RX0 40 Lib.Math.min.name ∈ lw_tbl := List.mem_append_right _ (List.mem_of_getElem? (i := 265) rfl)
theorem wml_X5_245 : Cond.methodLink RX5 245 yX1_isWithheldAt ∈ lw_tbl := List.mem_append_right _ (List.mem_of_getElem? (i := 266) rfl)
theorem wim_X1_isWithheldAt : Cond.instanceMethod yX1_isWithheldAt ∈ lw_tbl := List.mem_append_right _ (List.mem_of_getElem? (i := 267) rfl)
theorem wse_X1_isWithheldAt : Cond.selects RX1 yX1_isWithheldAt yX1_isWithheldAt ∈ lw_tbl := List.mem_append_right _ (List.mem_of_getElem? (i := 268) rfl)
theorem wco_X1_isWithheldAt : Cond.code yX1_isWithheldAt cX1_isWithheldAt 2 (some .boolean) ∈ lw_tbl := List.mem_append_right _ (List.mem_of_getElem? (i := 269) rfl)
theorem wml_X5_248 : Cond.methodLink RX5 248 yX3_put ∈ lw_tbl := List.mem_append_right _ (List.mem_of_getElem? (i := 270) rfl)
theorem wim_X3_put : Cond.instanceMethod yX3_put ∈ lw_tbl := List.mem_append_right _ (List.mem_of_getElem? (i := 271) rfl)
theorem wse_X3_put : Cond.selects RX3 yX3_put yX3_put ∈ lw_tbl := List.mem_append_right _ (List.mem_of_getElem? (i := 272) rfl)
theorem wco_X3_put : Cond.code yX3_put cX3_put 3 (some .int) ∈ lw_tbl := List.mem_append_right _ (List.mem_of_getElem? (i := 273) rfl)
theorem wml_X5_255 : Cond.methodLink RX5 255 yX1_feedFor ∈ lw_tbl := List.mem_append_right _ (List.mem_of_getElem? (i := 274) rfl)
theorem wim_X1_feedFor : Cond.instanceMethod yX1_feedFor ∈ lw_tbl := List.mem_append_right _ (List.mem_of_getElem? (i := 275) rfl)
theorem wse_X1_feedFor : Cond.selects RX1 yX1_feedFor yX1_feedFor ∈ lw_tbl := List.mem_append_right _ (List.mem_of_getElem? (i := 276) rfl)
theorem wco_X1_feedFor : Cond.code yX1_feedFor cX1_feedFor 5 (some .int) ∈ lw_tbl := List.mem_append_right _ (List.mem_of_getElem? (i := 277) rfl)
theorem wml_X1_59 : Cond.methodLink RX1 59 yX1_fedOn ∈ lw_tbl := List.mem_append_right _ (List.mem_of_getElem? (i := 278) rfl)
theorem wml_X5_123 : Cond.methodLink RX5 123 yX5_fillBox ∈ lw_tbl := List.mem_append_right _ (List.mem_of_getElem? (i := 279) rfl)
theorem wim_X5_fillBox : Cond.instanceMethod yX5_fillBox ∈ lw_tbl := List.mem_append_right _ (List.mem_of_getElem? (i := 281) rfl)
theorem wco_X5_fillBox : Cond.code yX5_fillBox cX5_fillBox 3 none ∈ lw_tbl := List.mem_append_right _ (List.mem_of_getElem? (i := 282) rfl)
theorem wml_X5_218 : Cond.methodLink RX5 218 yX2_takeNext ∈ lw_tbl := List.mem_append_right _ (List.mem_of_getElem? (i := 283) rfl)
theorem wim_X2_takeNext : Cond.instanceMethod yX2_takeNext ∈ lw_tbl := List.mem_append_right _ (List.mem_of_getElem? (i := 284) rfl)
theorem wse_X2_takeNext : Cond.selects RX2 yX2_takeNext yX2_takeNext ∈ lw_tbl := List.mem_append_right _ (List.mem_of_getElem? (i := 285) rfl)
theorem wco_X2_takeNext : Cond.code yX2_takeNext cX2_takeNext 4 (some (.object "MilkBox$Visit")) ∈ lw_tbl := List.mem_append_right _ (List.mem_of_getElem? (i := 286) rfl)
theorem wml_X2_28 : Cond.methodLink RX2 28 yX2_choose ∈ lw_tbl := List.mem_append_right _ (List.mem_of_getElem? (i := 287) rfl)
theorem wim_X2_choose : Cond.instanceMethod yX2_choose ∈ lw_tbl := List.mem_append_right _ (List.mem_of_getElem? (i := 289) rfl)
theorem wco_X2_choose : Cond.code yX2_choose cX2_choose 4 (some .int) ∈ lw_tbl := List.mem_append_right _ (List.mem_of_getElem? (i := 290) rfl)
theorem wml_X2_32 : Cond.methodLink RX2 32 yX2_closeUp ∈ lw_tbl := List.mem_append_right _ (List.mem_of_getElem? (i := 291) rfl)
theorem wim_X2_closeUp : Cond.instanceMethod yX2_closeUp ∈ lw_tbl := List.mem_append_right _ (List.mem_of_getElem? (i := 293) rfl)
theorem wco_X2_closeUp : Cond.code yX2_closeUp cX2_closeUp 3 none ∈ lw_tbl := List.mem_append_right _ (List.mem_of_getElem? (i := 294) rfl)
theorem wml_X2_43 : Cond.methodLink RX2 43 Lib.Math.max.name ∈ lw_tbl := List.mem_append_right _ (List.mem_of_getElem? (i := 295) rfl)
theorem wml_X5_224 : Cond.methodLink RX5 224 Lib.Math.max.name ∈ lw_tbl := List.mem_append_right _ (List.mem_of_getElem? (i := 296) rfl)
theorem wml_X5_229 : Cond.methodLink RX5 229 yX0_begin ∈ lw_tbl := List.mem_append_right _ (List.mem_of_getElem? (i := 297) rfl)
theorem wim_X0_begin : Cond.instanceMethod yX0_begin ∈ lw_tbl := List.mem_append_right _ (List.mem_of_getElem? (i := 298) rfl)
theorem wse_X0_begin : Cond.selects RX0 yX0_begin yX0_begin ∈ lw_tbl := List.mem_append_right _ (List.mem_of_getElem? (i := 299) rfl)
theorem wco_X0_begin : Cond.code yX0_begin cX0_begin 7 none ∈ lw_tbl := List.mem_append_right _ (List.mem_of_getElem? (i := 300) rfl)
set_option maxRecDepth 20000 in
theorem wml_X0_21 : Cond.methodLink RX0 21 yX1_milkAt ∈ lw_tbl := List.mem_append_right _ (List.mem_of_getElem? (i := 301) rfl)
set_option maxRecDepth 20000 in
theorem wml_X0_46 : Cond.methodLink RX0 46 yX0_milkOfTeat ∈ lw_tbl := List.mem_append_right _ (List.mem_of_getElem? (i := 302) rfl)
set_option maxRecDepth 20000 in
theorem wim_X0_milkOfTeat : Cond.instanceMethod yX0_milkOfTeat ∈ lw_tbl := List.mem_append_right _ (List.mem_of_getElem? (i := 304) rfl)
set_option maxRecDepth 20000 in
theorem wco_X0_milkOfTeat : Cond.code yX0_milkOfTeat cX0_milkOfTeat 3 (some .int) ∈ lw_tbl := List.mem_append_right _ (List.mem_of_getElem? (i := 305) rfl)
set_option maxRecDepth 20000 in
theorem wml_X5_233 : Cond.methodLink RX5 233 yX1_beginMilking ∈ lw_tbl := List.mem_append_right _ (List.mem_of_getElem? (i := 306) rfl)
set_option maxRecDepth 20000 in
theorem wim_X1_beginMilking : Cond.instanceMethod yX1_beginMilking ∈ lw_tbl := List.mem_append_right _ (List.mem_of_getElem? (i := 307) rfl)
set_option maxRecDepth 20000 in
theorem wse_X1_beginMilking : Cond.selects RX1 yX1_beginMilking yX1_beginMilking ∈ lw_tbl := List.mem_append_right _ (List.mem_of_getElem? (i := 308) rfl)
set_option maxRecDepth 20000 in
theorem wco_X1_beginMilking : Cond.code yX1_beginMilking cX1_beginMilking 3 none ∈ lw_tbl := List.mem_append_right _ (List.mem_of_getElem? (i := 309) rfl)
set_option maxRecDepth 20000 in
theorem wml_L_41 : Cond.methodLink RL 41 yX5_come ∈ lw_tbl := List.mem_append_right _ (List.mem_of_getElem? (i := 310) rfl)
set_option maxRecDepth 20000 in
theorem wim_X5_come : Cond.instanceMethod yX5_come ∈ lw_tbl := List.mem_append_right _ (List.mem_of_getElem? (i := 311) rfl)
set_option maxRecDepth 20000 in
theorem wse_X5_come : Cond.selects RX5 yX5_come yX5_come ∈ lw_tbl := List.mem_append_right _ (List.mem_of_getElem? (i := 312) rfl)
set_option maxRecDepth 20000 in
theorem wco_X5_come : Cond.code yX5_come cX5_come 6 (some .int) ∈ lw_tbl := List.mem_append_right _ (List.mem_of_getElem? (i := 313) rfl)
set_option maxRecDepth 20000 in
theorem wml_X5_126 : Cond.methodLink RX5 126 yX0_holds ∈ lw_tbl := List.mem_append_right _ (List.mem_of_getElem? (i := 314) rfl)
set_option maxRecDepth 20000 in
theorem wim_X0_holds : Cond.instanceMethod yX0_holds ∈ lw_tbl := List.mem_append_right _ (List.mem_of_getElem? (i := 315) rfl)
set_option maxRecDepth 20000 in
theorem wse_X0_holds : Cond.selects RX0 yX0_holds yX0_holds ∈ lw_tbl := List.mem_append_right _ (List.mem_of_getElem? (i := 316) rfl)
set_option maxRecDepth 20000 in
theorem wco_X0_holds : Cond.code yX0_holds cX0_holds 3 (some .boolean) ∈ lw_tbl := List.mem_append_right _ (List.mem_of_getElem? (i := 317) rfl)
set_option maxRecDepth 20000 in
theorem wis_X4 : Cond.instantiable RX4 12 ∈ lw_tbl := List.mem_append_right _ (List.mem_of_getElem? (i := 318) rfl)
set_option maxRecDepth 20000 in
theorem wml_X5_132 : Cond.methodLink RX5 132 yX1_isAlarming ∈ lw_tbl := List.mem_append_right _ (List.mem_of_getElem? (i := 319) rfl)
set_option maxRecDepth 20000 in
theorem wim_X1_isAlarming : Cond.instanceMethod yX1_isAlarming ∈ lw_tbl := List.mem_append_right _ (List.mem_of_getElem? (i := 320) rfl)
set_option maxRecDepth 20000 in
theorem wse_X1_isAlarming : Cond.selects RX1 yX1_isAlarming yX1_isAlarming ∈ lw_tbl := List.mem_append_right _ (List.mem_of_getElem? (i := 321) rfl)
set_option maxRecDepth 20000 in
theorem wco_X1_isAlarming : Cond.code yX1_isAlarming cX1_isAlarming 4 (some .boolean) ∈ lw_tbl := List.mem_append_right _ (List.mem_of_getElem? (i := 322) rfl)
set_option maxRecDepth 20000 in
theorem wml_X5_135 : Cond.methodLink RX5 135 yX4_init ∈ lw_tbl := List.mem_append_right _ (List.mem_of_getElem? (i := 323) rfl)
set_option maxRecDepth 20000 in
theorem wim_X4_init : Cond.instanceMethod yX4_init ∈ lw_tbl := List.mem_append_right _ (List.mem_of_getElem? (i := 324) rfl)
set_option maxRecDepth 20000 in
theorem wco_X4_init : Cond.code yX4_init cX4_init 6 none ∈ lw_tbl := List.mem_append_right _ (List.mem_of_getElem? (i := 325) rfl)
set_option maxRecDepth 20000 in
theorem wml_X4_3 : Cond.methodLink RX4 3 objectInit ∈ lw_tbl := List.mem_append_right _ (List.mem_of_getElem? (i := 326) rfl)
set_option maxRecDepth 20000 in
theorem wfl_X4_33 : Cond.fieldLink RX4 33 "MilkBox$Visit" "cow" "I" ∈ lw_tbl := List.mem_append_right _ (List.mem_of_getElem? (i := 327) rfl)
set_option maxRecDepth 20000 in
theorem wfl_X0_15 : Cond.fieldLink RX0 15 "MilkBox$Visit" "cow" "I" ∈ lw_tbl := List.mem_append_right _ (List.mem_of_getElem? (i := 328) rfl)
set_option maxRecDepth 20000 in
theorem wfl_X2_25 : Cond.fieldLink RX2 25 "MilkBox$Visit" "cow" "I" ∈ lw_tbl := List.mem_append_right _ (List.mem_of_getElem? (i := 329) rfl)
set_option maxRecDepth 20000 in
theorem wfl_X5_159 : Cond.fieldLink RX5 159 "MilkBox$Visit" "cow" "I" ∈ lw_tbl := List.mem_append_right _ (List.mem_of_getElem? (i := 330) rfl)
set_option maxRecDepth 20000 in
theorem wfl_X4_36 : Cond.fieldLink RX4 36 "MilkBox$Visit" "shy" "Z" ∈ lw_tbl := List.mem_append_right _ (List.mem_of_getElem? (i := 331) rfl)
set_option maxRecDepth 20000 in
theorem wfl_X2_36 : Cond.fieldLink RX2 36 "MilkBox$Visit" "shy" "Z" ∈ lw_tbl := List.mem_append_right _ (List.mem_of_getElem? (i := 332) rfl)
set_option maxRecDepth 20000 in
theorem wfl_X4_40 : Cond.fieldLink RX4 40 "MilkBox$Visit" "minute" "I" ∈ lw_tbl := List.mem_append_right _ (List.mem_of_getElem? (i := 333) rfl)
set_option maxRecDepth 20000 in
theorem wfl_X2_40 : Cond.fieldLink RX2 40 "MilkBox$Visit" "minute" "I" ∈ lw_tbl := List.mem_append_right _ (List.mem_of_getElem? (i := 334) rfl)
set_option maxRecDepth 20000 in
theorem wfl_X5_221 : Cond.fieldLink RX5 221 "MilkBox$Visit" "minute" "I" ∈ lw_tbl := List.mem_append_right _ (List.mem_of_getElem? (i := 335) rfl)
set_option maxRecDepth 20000 in
theorem wfl_X4_43 : Cond.fieldLink RX4 43 "MilkBox$Visit" "reading" "I" ∈ lw_tbl := List.mem_append_right _ (List.mem_of_getElem? (i := 336) rfl)
set_option maxRecDepth 20000 in
theorem wfl_X4_46 : Cond.fieldLink RX4 46 "MilkBox$Visit" "alarm" "Z" ∈ lw_tbl := List.mem_append_right _ (List.mem_of_getElem? (i := 337) rfl)
set_option maxRecDepth 20000 in
theorem wfl_X5_141 : Cond.fieldLink RX5 141 "MilkBox$Visit" "alarm" "Z" ∈ lw_tbl := List.mem_append_right _ (List.mem_of_getElem? (i := 338) rfl)
set_option maxRecDepth 20000 in
theorem wfl_X4_9 : Cond.fieldLink RX4 9 "MilkBox$Visit" "kind" "I" ∈ lw_tbl := List.mem_append_right _ (List.mem_of_getElem? (i := 339) rfl)
set_option maxRecDepth 20000 in
theorem wfl_X5_151 : Cond.fieldLink RX5 151 "MilkBox$Visit" "kind" "I" ∈ lw_tbl := List.mem_append_right _ (List.mem_of_getElem? (i := 340) rfl)
set_option maxRecDepth 20000 in
theorem wfl_X4_15 : Cond.fieldLink RX4 15 "MilkBox$Visit" "began" "I" ∈ lw_tbl := List.mem_append_right _ (List.mem_of_getElem? (i := 341) rfl)
set_option maxRecDepth 20000 in
theorem wfl_X0_52 : Cond.fieldLink RX0 52 "MilkBox$Visit" "began" "I" ∈ lw_tbl := List.mem_append_right _ (List.mem_of_getElem? (i := 342) rfl)
set_option maxRecDepth 20000 in
theorem wfl_X4_18 : Cond.fieldLink RX4 18 "MilkBox$Visit" "ended" "I" ∈ lw_tbl := List.mem_append_right _ (List.mem_of_getElem? (i := 343) rfl)
set_option maxRecDepth 20000 in
theorem wfl_X5_242 : Cond.fieldLink RX5 242 "MilkBox$Visit" "ended" "I" ∈ lw_tbl := List.mem_append_right _ (List.mem_of_getElem? (i := 344) rfl)
set_option maxRecDepth 20000 in
theorem wfl_X4_21 : Cond.fieldLink RX4 21 "MilkBox$Visit" "milked" "I" ∈ lw_tbl := List.mem_append_right _ (List.mem_of_getElem? (i := 345) rfl)
set_option maxRecDepth 20000 in
theorem wfl_X5_205 : Cond.fieldLink RX5 205 "MilkBox$Visit" "milked" "I" ∈ lw_tbl := List.mem_append_right _ (List.mem_of_getElem? (i := 346) rfl)
set_option maxRecDepth 20000 in
theorem wfl_X4_24 : Cond.fieldLink RX4 24 "MilkBox$Visit" "went" "I" ∈ lw_tbl := List.mem_append_right _ (List.mem_of_getElem? (i := 347) rfl)
set_option maxRecDepth 20000 in
theorem wfl_X5_252 : Cond.fieldLink RX5 252 "MilkBox$Visit" "went" "I" ∈ lw_tbl := List.mem_append_right _ (List.mem_of_getElem? (i := 348) rfl)
set_option maxRecDepth 20000 in
theorem wfl_X4_27 : Cond.fieldLink RX4 27 "MilkBox$Visit" "lost" "I" ∈ lw_tbl := List.mem_append_right _ (List.mem_of_getElem? (i := 349) rfl)
set_option maxRecDepth 20000 in
theorem wfl_X0_55 : Cond.fieldLink RX0 55 "MilkBox$Visit" "lost" "I" ∈ lw_tbl := List.mem_append_right _ (List.mem_of_getElem? (i := 350) rfl)
set_option maxRecDepth 20000 in
theorem wfl_X4_30 : Cond.fieldLink RX4 30 "MilkBox$Visit" "feed" "I" ∈ lw_tbl := List.mem_append_right _ (List.mem_of_getElem? (i := 351) rfl)
set_option maxRecDepth 20000 in
theorem wfl_X5_258 : Cond.fieldLink RX5 258 "MilkBox$Visit" "feed" "I" ∈ lw_tbl := List.mem_append_right _ (List.mem_of_getElem? (i := 352) rfl)
set_option maxRecDepth 20000 in
theorem wml_X5_138 : Cond.methodLink RX5 138 yX1_keepReading ∈ lw_tbl := List.mem_append_right _ (List.mem_of_getElem? (i := 378) rfl)
set_option maxRecDepth 20000 in
theorem wim_X1_keepReading : Cond.instanceMethod yX1_keepReading ∈ lw_tbl := List.mem_append_right _ (List.mem_of_getElem? (i := 379) rfl)
set_option maxRecDepth 20000 in
theorem wse_X1_keepReading : Cond.selects RX1 yX1_keepReading yX1_keepReading ∈ lw_tbl := List.mem_append_right _ (List.mem_of_getElem? (i := 380) rfl)
set_option maxRecDepth 20000 in
theorem wco_X1_keepReading : Cond.code yX1_keepReading cX1_keepReading 3 none ∈ lw_tbl := List.mem_append_right _ (List.mem_of_getElem? (i := 381) rfl)
set_option maxRecDepth 20000 in
theorem wml_X5_147 : Cond.methodLink RX5 147 yX2_addLast ∈ lw_tbl := List.mem_append_right _ (List.mem_of_getElem? (i := 382) rfl)
set_option maxRecDepth 20000 in
theorem wim_X2_addLast : Cond.instanceMethod yX2_addLast ∈ lw_tbl := List.mem_append_right _ (List.mem_of_getElem? (i := 383) rfl)
set_option maxRecDepth 20000 in
theorem wse_X2_addLast : Cond.selects RX2 yX2_addLast yX2_addLast ∈ lw_tbl := List.mem_append_right _ (List.mem_of_getElem? (i := 384) rfl)
set_option maxRecDepth 20000 in
theorem wco_X2_addLast : Cond.code yX2_addLast cX2_addLast 2 none ∈ lw_tbl := List.mem_append_right _ (List.mem_of_getElem? (i := 385) rfl)
set_option maxRecDepth 20000 in
theorem wml_L_45 : Cond.methodLink RL 45 yX5_power ∈ lw_tbl := List.mem_append_right _ (List.mem_of_getElem? (i := 386) rfl)
set_option maxRecDepth 20000 in
theorem wim_X5_power : Cond.instanceMethod yX5_power ∈ lw_tbl := List.mem_append_right _ (List.mem_of_getElem? (i := 387) rfl)
set_option maxRecDepth 20000 in
theorem wse_X5_power : Cond.selects RX5 yX5_power yX5_power ∈ lw_tbl := List.mem_append_right _ (List.mem_of_getElem? (i := 388) rfl)
set_option maxRecDepth 20000 in
theorem wco_X5_power : Cond.code yX5_power cX5_power 3 (some .int) ∈ lw_tbl := List.mem_append_right _ (List.mem_of_getElem? (i := 389) rfl)
set_option maxRecDepth 20000 in
theorem wml_L_50 : Cond.methodLink RL 50 yX5_box ∈ lw_tbl := List.mem_append_right _ (List.mem_of_getElem? (i := 390) rfl)
set_option maxRecDepth 20000 in
theorem wim_X5_box : Cond.instanceMethod yX5_box ∈ lw_tbl := List.mem_append_right _ (List.mem_of_getElem? (i := 391) rfl)
set_option maxRecDepth 20000 in
theorem wse_X5_box : Cond.selects RX5 yX5_box yX5_box ∈ lw_tbl := List.mem_append_right _ (List.mem_of_getElem? (i := 392) rfl)
set_option maxRecDepth 20000 in
theorem wco_X5_box : Cond.code yX5_box cX5_box 2 (some .int) ∈ lw_tbl := List.mem_append_right _ (List.mem_of_getElem? (i := 393) rfl)
set_option maxRecDepth 20000 in
theorem wml_L_55 : Cond.methodLink RL 55 yX5_queue ∈ lw_tbl := List.mem_append_right _ (List.mem_of_getElem? (i := 394) rfl)
set_option maxRecDepth 20000 in
theorem wim_X5_queue : Cond.instanceMethod yX5_queue ∈ lw_tbl := List.mem_append_right _ (List.mem_of_getElem? (i := 395) rfl)
set_option maxRecDepth 20000 in
theorem wse_X5_queue : Cond.selects RX5 yX5_queue yX5_queue ∈ lw_tbl := List.mem_append_right _ (List.mem_of_getElem? (i := 396) rfl)
set_option maxRecDepth 20000 in
theorem wco_X5_queue : Cond.code yX5_queue cX5_queue 3 (some .int) ∈ lw_tbl := List.mem_append_right _ (List.mem_of_getElem? (i := 397) rfl)
set_option maxRecDepth 20000 in
theorem wml_X5_162 : Cond.methodLink RX5 162 yX2_at ∈ lw_tbl := List.mem_append_right _ (List.mem_of_getElem? (i := 398) rfl)
set_option maxRecDepth 20000 in
theorem wml_L_59 : Cond.methodLink RL 59 yX5_ends ∈ lw_tbl := List.mem_append_right _ (List.mem_of_getElem? (i := 399) rfl)
set_option maxRecDepth 20000 in
theorem wim_X5_ends : Cond.instanceMethod yX5_ends ∈ lw_tbl := List.mem_append_right _ (List.mem_of_getElem? (i := 400) rfl)
set_option maxRecDepth 20000 in
theorem wse_X5_ends : Cond.selects RX5 yX5_ends yX5_ends ∈ lw_tbl := List.mem_append_right _ (List.mem_of_getElem? (i := 401) rfl)
set_option maxRecDepth 20000 in
theorem wco_X5_ends : Cond.code yX5_ends cX5_ends 1 (some .int) ∈ lw_tbl := List.mem_append_right _ (List.mem_of_getElem? (i := 402) rfl)
set_option maxRecDepth 20000 in
theorem wml_L_63 : Cond.methodLink RL 63 yX5_room ∈ lw_tbl := List.mem_append_right _ (List.mem_of_getElem? (i := 403) rfl)
set_option maxRecDepth 20000 in
theorem wim_X5_room : Cond.instanceMethod yX5_room ∈ lw_tbl := List.mem_append_right _ (List.mem_of_getElem? (i := 404) rfl)
set_option maxRecDepth 20000 in
theorem wse_X5_room : Cond.selects RX5 yX5_room yX5_room ∈ lw_tbl := List.mem_append_right _ (List.mem_of_getElem? (i := 405) rfl)
set_option maxRecDepth 20000 in
theorem wco_X5_room : Cond.code yX5_room cX5_room 3 (some .int) ∈ lw_tbl := List.mem_append_right _ (List.mem_of_getElem? (i := 406) rfl)
set_option maxRecDepth 20000 in
theorem wml_L_67 : Cond.methodLink RL 67 yX5_pick ∈ lw_tbl := List.mem_append_right _ (List.mem_of_getElem? (i := 407) rfl)
set_option maxRecDepth 20000 in
theorem wim_X5_pick : Cond.instanceMethod yX5_pick ∈ lw_tbl := List.mem_append_right _ (List.mem_of_getElem? (i := 408) rfl)
set_option maxRecDepth 20000 in
theorem wse_X5_pick : Cond.selects RX5 yX5_pick yX5_pick ∈ lw_tbl := List.mem_append_right _ (List.mem_of_getElem? (i := 409) rfl)
set_option maxRecDepth 20000 in
theorem wco_X5_pick : Cond.code yX5_pick cX5_pick 2 (some .int) ∈ lw_tbl := List.mem_append_right _ (List.mem_of_getElem? (i := 410) rfl)
set_option maxRecDepth 20000 in
theorem wml_X5_172 : Cond.methodLink RX5 172 yX3_takeAway ∈ lw_tbl := List.mem_append_right _ (List.mem_of_getElem? (i := 411) rfl)
set_option maxRecDepth 20000 in
theorem wim_X3_takeAway : Cond.instanceMethod yX3_takeAway ∈ lw_tbl := List.mem_append_right _ (List.mem_of_getElem? (i := 412) rfl)
set_option maxRecDepth 20000 in
theorem wse_X3_takeAway : Cond.selects RX3 yX3_takeAway yX3_takeAway ∈ lw_tbl := List.mem_append_right _ (List.mem_of_getElem? (i := 413) rfl)
set_option maxRecDepth 20000 in
theorem wco_X3_takeAway : Cond.code yX3_takeAway cX3_takeAway 3 (some .int) ∈ lw_tbl := List.mem_append_right _ (List.mem_of_getElem? (i := 414) rfl)
set_option maxRecDepth 20000 in
theorem wml_X3_24 : Cond.methodLink RX3 24 Lib.Math.min.name ∈ lw_tbl := List.mem_append_right _ (List.mem_of_getElem? (i := 415) rfl)
set_option maxRecDepth 20000 in
theorem wml_L_71 : Cond.methodLink RL 71 yX5_total ∈ lw_tbl := List.mem_append_right _ (List.mem_of_getElem? (i := 416) rfl)
set_option maxRecDepth 20000 in
theorem wim_X5_total : Cond.instanceMethod yX5_total ∈ lw_tbl := List.mem_append_right _ (List.mem_of_getElem? (i := 417) rfl)
set_option maxRecDepth 20000 in
theorem wse_X5_total : Cond.selects RX5 yX5_total yX5_total ∈ lw_tbl := List.mem_append_right _ (List.mem_of_getElem? (i := 418) rfl)
set_option maxRecDepth 20000 in
theorem wco_X5_total : Cond.code yX5_total cX5_total 2 (some .int) ∈ lw_tbl := List.mem_append_right _ (List.mem_of_getElem? (i := 419) rfl)
set_option maxRecDepth 20000 in
theorem wml_L_75 : Cond.methodLink RL 75 yX5_visit ∈ lw_tbl := List.mem_append_right _ (List.mem_of_getElem? (i := 420) rfl)
set_option maxRecDepth 20000 in
theorem wim_X5_visit : Cond.instanceMethod yX5_visit ∈ lw_tbl := List.mem_append_right _ (List.mem_of_getElem? (i := 421) rfl)
set_option maxRecDepth 20000 in
theorem wse_X5_visit : Cond.selects RX5 yX5_visit yX5_visit ∈ lw_tbl := List.mem_append_right _ (List.mem_of_getElem? (i := 422) rfl)
set_option maxRecDepth 20000 in
theorem wco_X5_visit : Cond.code yX5_visit cX5_visit 5 (some .int) ∈ lw_tbl := List.mem_append_right _ (List.mem_of_getElem? (i := 423) rfl)
set_option maxRecDepth 20000 in
theorem wml_X5_193 : Cond.methodLink RX5 193 yX5_visitAt ∈ lw_tbl := List.mem_append_right _ (List.mem_of_getElem? (i := 424) rfl)
set_option maxRecDepth 20000 in
theorem wim_X5_visitAt : Cond.instanceMethod yX5_visitAt ∈ lw_tbl := List.mem_append_right _ (List.mem_of_getElem? (i := 426) rfl)
set_option maxRecDepth 20000 in
theorem wco_X5_visitAt : Cond.code yX5_visitAt cX5_visitAt 2 (some (.object "MilkBox$Visit")) ∈ lw_tbl := List.mem_append_right _ (List.mem_of_getElem? (i := 427) rfl)
set_option maxRecDepth 20000 in
theorem wml_X5_196 : Cond.methodLink RX5 196 yX4_isOfKind ∈ lw_tbl := List.mem_append_right _ (List.mem_of_getElem? (i := 428) rfl)
set_option maxRecDepth 20000 in
theorem wim_X4_isOfKind : Cond.instanceMethod yX4_isOfKind ∈ lw_tbl := List.mem_append_right _ (List.mem_of_getElem? (i := 429) rfl)
set_option maxRecDepth 20000 in
theorem wse_X4_isOfKind : Cond.selects RX4 yX4_isOfKind yX4_isOfKind ∈ lw_tbl := List.mem_append_right _ (List.mem_of_getElem? (i := 430) rfl)
set_option maxRecDepth 20000 in
theorem wco_X4_isOfKind : Cond.code yX4_isOfKind cX4_isOfKind 2 (some .boolean) ∈ lw_tbl := List.mem_append_right _ (List.mem_of_getElem? (i := 431) rfl)
set_option maxRecDepth 20000 in
theorem wml_X5_199 : Cond.methodLink RX5 199 yX4_tell ∈ lw_tbl := List.mem_append_right _ (List.mem_of_getElem? (i := 432) rfl)
set_option maxRecDepth 20000 in
theorem wim_X4_tell : Cond.instanceMethod yX4_tell ∈ lw_tbl := List.mem_append_right _ (List.mem_of_getElem? (i := 433) rfl)
set_option maxRecDepth 20000 in
theorem wse_X4_tell : Cond.selects RX4 yX4_tell yX4_tell ∈ lw_tbl := List.mem_append_right _ (List.mem_of_getElem? (i := 434) rfl)
set_option maxRecDepth 20000 in
theorem wco_X4_tell : Cond.code yX4_tell cX4_tell 2 (some .int) ∈ lw_tbl := List.mem_append_right _ (List.mem_of_getElem? (i := 435) rfl)
set_option maxRecDepth 20000 in
theorem wmn_X4_49 : Cond.methodLinkNest RX4 49 yX5_asNumber "MilkBox" ∈ lw_tbl := List.mem_append_right _ (List.mem_of_getElem? (i := 436) rfl)
set_option maxRecDepth 20000 in
theorem wml_L_79 : Cond.methodLink RL 79 yX5_visitOf ∈ lw_tbl := List.mem_append_right _ (List.mem_of_getElem? (i := 437) rfl)
set_option maxRecDepth 20000 in
theorem wim_X5_visitOf : Cond.instanceMethod yX5_visitOf ∈ lw_tbl := List.mem_append_right _ (List.mem_of_getElem? (i := 438) rfl)
set_option maxRecDepth 20000 in
theorem wse_X5_visitOf : Cond.selects RX5 yX5_visitOf yX5_visitOf ∈ lw_tbl := List.mem_append_right _ (List.mem_of_getElem? (i := 439) rfl)
set_option maxRecDepth 20000 in
theorem wco_X5_visitOf : Cond.code yX5_visitOf cX5_visitOf 6 (some .int) ∈ lw_tbl := List.mem_append_right _ (List.mem_of_getElem? (i := 440) rfl)
set_option maxRecDepth 20000 in
theorem wml_L_83 : Cond.methodLink RL 83 yX5_gave ∈ lw_tbl := List.mem_append_right _ (List.mem_of_getElem? (i := 441) rfl)
set_option maxRecDepth 20000 in
theorem wim_X5_gave : Cond.instanceMethod yX5_gave ∈ lw_tbl := List.mem_append_right _ (List.mem_of_getElem? (i := 442) rfl)
set_option maxRecDepth 20000 in
theorem wse_X5_gave : Cond.selects RX5 yX5_gave yX5_gave ∈ lw_tbl := List.mem_append_right _ (List.mem_of_getElem? (i := 443) rfl)
set_option maxRecDepth 20000 in
theorem wco_X5_gave : Cond.code yX5_gave cX5_gave 6 (some .int) ∈ lw_tbl := List.mem_append_right _ (List.mem_of_getElem? (i := 444) rfl)
set_option maxRecDepth 20000 in
theorem wml_X5_202 : Cond.methodLink RX5 202 yX4_endedOn ∈ lw_tbl := List.mem_append_right _ (List.mem_of_getElem? (i := 445) rfl)
set_option maxRecDepth 20000 in
theorem wim_X4_endedOn : Cond.instanceMethod yX4_endedOn ∈ lw_tbl := List.mem_append_right _ (List.mem_of_getElem? (i := 446) rfl)
set_option maxRecDepth 20000 in
theorem wse_X4_endedOn : Cond.selects RX4 yX4_endedOn yX4_endedOn ∈ lw_tbl := List.mem_append_right _ (List.mem_of_getElem? (i := 447) rfl)
set_option maxRecDepth 20000 in
theorem wco_X4_endedOn : Cond.code yX4_endedOn cX4_endedOn 2 (some .boolean) ∈ lw_tbl := List.mem_append_right _ (List.mem_of_getElem? (i := 448) rfl)
set_option maxRecDepth 20000 in
theorem wml_L_87 : Cond.methodLink RL 87 yX5_longest ∈ lw_tbl := List.mem_append_right _ (List.mem_of_getElem? (i := 449) rfl)
set_option maxRecDepth 20000 in
theorem wim_X5_longest : Cond.instanceMethod yX5_longest ∈ lw_tbl := List.mem_append_right _ (List.mem_of_getElem? (i := 450) rfl)
set_option maxRecDepth 20000 in
theorem wse_X5_longest : Cond.selects RX5 yX5_longest yX5_longest ∈ lw_tbl := List.mem_append_right _ (List.mem_of_getElem? (i := 451) rfl)
set_option maxRecDepth 20000 in
theorem wco_X5_longest : Cond.code yX5_longest cX5_longest 1 (some .int) ∈ lw_tbl := List.mem_append_right _ (List.mem_of_getElem? (i := 452) rfl)
set_option maxRecDepth 20000 in
theorem wml_L_91 : Cond.methodLink RL 91 yX5_rank ∈ lw_tbl := List.mem_append_right _ (List.mem_of_getElem? (i := 453) rfl)
set_option maxRecDepth 20000 in
theorem wim_X5_rank : Cond.instanceMethod yX5_rank ∈ lw_tbl := List.mem_append_right _ (List.mem_of_getElem? (i := 454) rfl)
set_option maxRecDepth 20000 in
theorem wse_X5_rank : Cond.selects RX5 yX5_rank yX5_rank ∈ lw_tbl := List.mem_append_right _ (List.mem_of_getElem? (i := 455) rfl)
set_option maxRecDepth 20000 in
theorem wco_X5_rank : Cond.code yX5_rank cX5_rank 3 (some .int) ∈ lw_tbl := List.mem_append_right _ (List.mem_of_getElem? (i := 456) rfl)
set_option maxRecDepth 20000 in
theorem wml_X5_211 : Cond.methodLink RX5 211 yX5_countAhead ∈ lw_tbl := List.mem_append_right _ (List.mem_of_getElem? (i := 457) rfl)
set_option maxRecDepth 20000 in
theorem wim_X5_countAhead : Cond.instanceMethod yX5_countAhead ∈ lw_tbl := List.mem_append_right _ (List.mem_of_getElem? (i := 459) rfl)
set_option maxRecDepth 20000 in
theorem wco_X5_countAhead : Cond.code yX5_countAhead cX5_countAhead 7 (some .int) ∈ lw_tbl := List.mem_append_right _ (List.mem_of_getElem? (i := 460) rfl)
set_option maxRecDepth 20000 in
theorem wml_L_95 : Cond.methodLink RL 95 yX5_until ∈ lw_tbl := List.mem_append_right _ (List.mem_of_getElem? (i := 461) rfl)
set_option maxRecDepth 20000 in
theorem wim_X5_until : Cond.instanceMethod yX5_until ∈ lw_tbl := List.mem_append_right _ (List.mem_of_getElem? (i := 462) rfl)
set_option maxRecDepth 20000 in
theorem wse_X5_until : Cond.selects RX5 yX5_until yX5_until ∈ lw_tbl := List.mem_append_right _ (List.mem_of_getElem? (i := 463) rfl)
set_option maxRecDepth 20000 in
theorem wco_X5_until : Cond.code yX5_until cX5_until 4 (some .int) ∈ lw_tbl := List.mem_append_right _ (List.mem_of_getElem? (i := 464) rfl)
set_option maxRecDepth 20000 in
theorem wml_X5_214 : Cond.methodLink RX5 214 yX1_minutesTo ∈ lw_tbl := List.mem_append_right _ (List.mem_of_getElem? (i := 465) rfl)
set_option maxRecDepth 20000 in
theorem wim_X1_minutesTo : Cond.instanceMethod yX1_minutesTo ∈ lw_tbl := List.mem_append_right _ (List.mem_of_getElem? (i := 466) rfl)
set_option maxRecDepth 20000 in
theorem wse_X1_minutesTo : Cond.selects RX1 yX1_minutesTo yX1_minutesTo ∈ lw_tbl := List.mem_append_right _ (List.mem_of_getElem? (i := 467) rfl)
set_option maxRecDepth 20000 in
theorem wco_X1_minutesTo : Cond.code yX1_minutesTo cX1_minutesTo 4 (some .int) ∈ lw_tbl := List.mem_append_right _ (List.mem_of_getElem? (i := 468) rfl)
set_option maxRecDepth 20000 in
theorem wml_X1_46 : Cond.methodLink RX1 46 yX1_milkAt ∈ lw_tbl := List.mem_append_right _ (List.mem_of_getElem? (i := 469) rfl)
set_option maxRecDepth 20000 in
theorem wcl_L_10 : Cond.classLink RL 10 RX6 ∈ lw_tbl := List.mem_append_right _ (List.mem_of_getElem? (i := 470) rfl)
set_option maxRecDepth 20000 in
theorem wis_X6 : Cond.instantiable RX6 43 ∈ lw_tbl := List.mem_append_right _ (List.mem_of_getElem? (i := 471) rfl)
set_option maxRecDepth 20000 in
theorem wml_L_12 : Cond.methodLink RL 12 yX6_init ∈ lw_tbl := List.mem_append_right _ (List.mem_of_getElem? (i := 472) rfl)
set_option maxRecDepth 20000 in
theorem wim_X6_init : Cond.instanceMethod yX6_init ∈ lw_tbl := List.mem_append_right _ (List.mem_of_getElem? (i := 473) rfl)
set_option maxRecDepth 20000 in
theorem wco_X6_init : Cond.code yX6_init cX6_init 1 none ∈ lw_tbl := List.mem_append_right _ (List.mem_of_getElem? (i := 474) rfl)
set_option maxRecDepth 20000 in
theorem wml_X6_1 : Cond.methodLink RX6 1 objectInit ∈ lw_tbl := List.mem_append_right _ (List.mem_of_getElem? (i := 475) rfl)
set_option maxRecDepth 20000 in
theorem wfl_X6_97 : Cond.fieldLink RX6 97 "MilkBoxModel" "thrown" "I" ∈ lw_tbl := List.mem_append_right _ (List.mem_of_getElem? (i := 476) rfl)
set_option maxRecDepth 20000 in
theorem wfl_X6_107 : Cond.fieldLink RX6 107 "MilkBoxModel" "clock" "I" ∈ lw_tbl := List.mem_append_right _ (List.mem_of_getElem? (i := 477) rfl)
set_option maxRecDepth 20000 in
theorem wfl_X6_7 : Cond.fieldLink RX6 7 "MilkBoxModel" "isOn" "Z" ∈ lw_tbl := List.mem_append_right _ (List.mem_of_getElem? (i := 478) rfl)
set_option maxRecDepth 20000 in
theorem wfl_X6_100 : Cond.fieldLink RX6 100 "MilkBoxModel" "cows" "I" ∈ lw_tbl := List.mem_append_right _ (List.mem_of_getElem? (i := 479) rfl)
set_option maxRecDepth 20000 in
theorem wfl_X6_13 : Cond.fieldLink RX6 13 "MilkBoxModel" "kind" "[I" ∈ lw_tbl := List.mem_append_right _ (List.mem_of_getElem? (i := 480) rfl)
set_option maxRecDepth 20000 in
theorem wfl_X6_17 : Cond.fieldLink RX6 17 "MilkBoxModel" "rate" "[I" ∈ lw_tbl := List.mem_append_right _ (List.mem_of_getElem? (i := 481) rfl)
set_option maxRecDepth 20000 in
theorem wfl_X6_20 : Cond.fieldLink RX6 20 "MilkBoxModel" "wait" "[I" ∈ lw_tbl := List.mem_append_right _ (List.mem_of_getElem? (i := 482) rfl)
set_option maxRecDepth 20000 in
theorem wfl_X6_23 : Cond.fieldLink RX6 23 "MilkBoxModel" "feed" "[I" ∈ lw_tbl := List.mem_append_right _ (List.mem_of_getElem? (i := 483) rfl)
set_option maxRecDepth 20000 in
theorem wfl_X6_26 : Cond.fieldLink RX6 26 "MilkBoxModel" "from" "[I" ∈ lw_tbl := List.mem_append_right _ (List.mem_of_getElem? (i := 484) rfl)
set_option maxRecDepth 20000 in
theorem wfl_X6_29 : Cond.fieldLink RX6 29 "MilkBoxModel" "left" "[I" ∈ lw_tbl := List.mem_append_right _ (List.mem_of_getElem? (i := 485) rfl)
set_option maxRecDepth 20000 in
theorem wfl_X6_32 : Cond.fieldLink RX6 32 "MilkBoxModel" "began" "[I" ∈ lw_tbl := List.mem_append_right _ (List.mem_of_getElem? (i := 486) rfl)
set_option maxRecDepth 20000 in
theorem wfl_X6_35 : Cond.fieldLink RX6 35 "MilkBoxModel" "withheld" "[I" ∈ lw_tbl := List.mem_append_right _ (List.mem_of_getElem? (i := 487) rfl)
set_option maxRecDepth 20000 in
theorem wfl_X6_38 : Cond.fieldLink RX6 38 "MilkBoxModel" "trouble" "[I" ∈ lw_tbl := List.mem_append_right _ (List.mem_of_getElem? (i := 488) rfl)
set_option maxRecDepth 20000 in
theorem wfl_X6_41 : Cond.fieldLink RX6 41 "MilkBoxModel" "fedDay" "[I" ∈ lw_tbl := List.mem_append_right _ (List.mem_of_getElem? (i := 489) rfl)
set_option maxRecDepth 20000 in
theorem wfl_X6_44 : Cond.fieldLink RX6 44 "MilkBoxModel" "fed" "[I" ∈ lw_tbl := List.mem_append_right _ (List.mem_of_getElem? (i := 490) rfl)
set_option maxRecDepth 20000 in
theorem wfl_X6_47 : Cond.fieldLink RX6 47 "MilkBoxModel" "gaveAll" "[I" ∈ lw_tbl := List.mem_append_right _ (List.mem_of_getElem? (i := 491) rfl)
set_option maxRecDepth 20000 in
theorem wfl_X6_50 : Cond.fieldLink RX6 50 "MilkBoxModel" "readings" "[I" ∈ lw_tbl := List.mem_append_right _ (List.mem_of_getElem? (i := 492) rfl)
set_option maxRecDepth 20000 in
theorem wfl_X6_184 : Cond.fieldLink RX6 184 "MilkBoxModel" "visits" "I" ∈ lw_tbl := List.mem_append_right _ (List.mem_of_getElem? (i := 493) rfl)
set_option maxRecDepth 20000 in
theorem wfl_X6_53 : Cond.fieldLink RX6 53 "MilkBoxModel" "visitKind" "[I" ∈ lw_tbl := List.mem_append_right _ (List.mem_of_getElem? (i := 494) rfl)
set_option maxRecDepth 20000 in
theorem wfl_X6_56 : Cond.fieldLink RX6 56 "MilkBoxModel" "visitCow" "[I" ∈ lw_tbl := List.mem_append_right _ (List.mem_of_getElem? (i := 495) rfl)
set_option maxRecDepth 20000 in
theorem wfl_X6_59 : Cond.fieldLink RX6 59 "MilkBoxModel" "visitMinute" "[I" ∈ lw_tbl := List.mem_append_right _ (List.mem_of_getElem? (i := 496) rfl)
set_option maxRecDepth 20000 in
theorem wfl_X6_62 : Cond.fieldLink RX6 62 "MilkBoxModel" "visitReading" "[I" ∈ lw_tbl := List.mem_append_right _ (List.mem_of_getElem? (i := 497) rfl)
set_option maxRecDepth 20000 in
theorem wfl_X6_65 : Cond.fieldLink RX6 65 "MilkBoxModel" "visitAlarm" "[Z" ∈ lw_tbl := List.mem_append_right _ (List.mem_of_getElem? (i := 498) rfl)
set_option maxRecDepth 20000 in
theorem wfl_X6_69 : Cond.fieldLink RX6 69 "MilkBoxModel" "visitBegan" "[I" ∈ lw_tbl := List.mem_append_right _ (List.mem_of_getElem? (i := 499) rfl)
set_option maxRecDepth 20000 in
theorem wfl_X6_72 : Cond.fieldLink RX6 72 "MilkBoxModel" "visitEnded" "[I" ∈ lw_tbl := List.mem_append_right _ (List.mem_of_getElem? (i := 500) rfl)
set_option maxRecDepth 20000 in
theorem wfl_X6_75 : Cond.fieldLink RX6 75 "MilkBoxModel" "visitMilk" "[I" ∈ lw_tbl := List.mem_append_right _ (List.mem_of_getElem? (i := 501) rfl)
set_option maxRecDepth 20000 in
theorem wfl_X6_78 : Cond.fieldLink RX6 78 "MilkBoxModel" "visitWhere" "[I" ∈ lw_tbl := List.mem_append_right _ (List.mem_of_getElem? (i := 502) rfl)
set_option maxRecDepth 20000 in
theorem wfl_X6_81 : Cond.fieldLink RX6 81 "MilkBoxModel" "visitLost" "[I" ∈ lw_tbl := List.mem_append_right _ (List.mem_of_getElem? (i := 503) rfl)
set_option maxRecDepth 20000 in
theorem wfl_X6_84 : Cond.fieldLink RX6 84 "MilkBoxModel" "visitFeed" "[I" ∈ lw_tbl := List.mem_append_right _ (List.mem_of_getElem? (i := 504) rfl)
set_option maxRecDepth 20000 in
theorem wfl_X6_110 : Cond.fieldLink RX6 110 "MilkBoxModel" "waiting" "I" ∈ lw_tbl := List.mem_append_right _ (List.mem_of_getElem? (i := 505) rfl)
set_option maxRecDepth 20000 in
theorem wfl_X6_87 : Cond.fieldLink RX6 87 "MilkBoxModel" "queue" "[I" ∈ lw_tbl := List.mem_append_right _ (List.mem_of_getElem? (i := 506) rfl)
set_option maxRecDepth 20000 in
theorem wfl_X6_90 : Cond.fieldLink RX6 90 "MilkBoxModel" "inBox" "I" ∈ lw_tbl := List.mem_append_right _ (List.mem_of_getElem? (i := 507) rfl)
set_option maxRecDepth 20000 in
theorem wfl_X6_121 : Cond.fieldLink RX6 121 "MilkBoxModel" "had" "I" ∈ lw_tbl := List.mem_append_right _ (List.mem_of_getElem? (i := 508) rfl)
set_option maxRecDepth 20000 in
theorem wfl_X6_124 : Cond.fieldLink RX6 124 "MilkBoxModel" "due" "I" ∈ lw_tbl := List.mem_append_right _ (List.mem_of_getElem? (i := 509) rfl)
set_option maxRecDepth 20000 in
theorem wfl_X6_127 : Cond.fieldLink RX6 127 "MilkBoxModel" "ahead" "I" ∈ lw_tbl := List.mem_append_right _ (List.mem_of_getElem? (i := 510) rfl)
set_option maxRecDepth 20000 in
theorem wfl_X6_130 : Cond.fieldLink RX6 130 "MilkBoxModel" "end" "I" ∈ lw_tbl := List.mem_append_right _ (List.mem_of_getElem? (i := 511) rfl)
set_option maxRecDepth 20000 in
theorem wfl_X6_133 : Cond.fieldLink RX6 133 "MilkBoxModel" "tank" "I" ∈ lw_tbl := List.mem_append_right _ (List.mem_of_getElem? (i := 512) rfl)
set_option maxRecDepth 20000 in
theorem wfl_X6_94 : Cond.fieldLink RX6 94 "MilkBoxModel" "room" "I" ∈ lw_tbl := List.mem_append_right _ (List.mem_of_getElem? (i := 513) rfl)
set_option maxRecDepth 20000 in
theorem wfl_X6_136 : Cond.fieldLink RX6 136 "MilkBoxModel" "can" "I" ∈ lw_tbl := List.mem_append_right _ (List.mem_of_getElem? (i := 514) rfl)
set_option maxRecDepth 20000 in
theorem wfl_X6_139 : Cond.fieldLink RX6 139 "MilkBoxModel" "poured" "I" ∈ lw_tbl := List.mem_append_right _ (List.mem_of_getElem? (i := 515) rfl)
set_option maxRecDepth 20000 in
theorem wfl_X6_199 : Cond.fieldLink RX6 199 "MilkBoxModel" "taken" "I" ∈ lw_tbl := List.mem_append_right _ (List.mem_of_getElem? (i := 516) rfl)
set_option maxRecDepth 20000 in
theorem wfl_X6_148 : Cond.fieldLink RX6 148 "MilkBoxModel" "milked" "I" ∈ lw_tbl := List.mem_append_right _ (List.mem_of_getElem? (i := 517) rfl)
set_option maxRecDepth 20000 in
theorem wfl_X6_145 : Cond.fieldLink RX6 145 "MilkBoxModel" "fedAll" "I" ∈ lw_tbl := List.mem_append_right _ (List.mem_of_getElem? (i := 518) rfl)
set_option maxRecDepth 20000 in
theorem wac_boolean : Cond.arrayClass .boolean ∈ lw_tbl := List.mem_append_right _ (List.mem_of_getElem? (i := 606) rfl)
set_option maxRecDepth 20000 in
theorem wml_L_17 : Cond.methodLink RL 17 yX6_cow ∈ lw_tbl := List.mem_append_right _ (List.mem_of_getElem? (i := 607) rfl)
set_option maxRecDepth 20000 in
theorem wim_X6_cow : Cond.instanceMethod yX6_cow ∈ lw_tbl := List.mem_append_right _ (List.mem_of_getElem? (i := 608) rfl)
set_option maxRecDepth 20000 in
theorem wse_X6_cow : Cond.selects RX6 yX6_cow yX6_cow ∈ lw_tbl := List.mem_append_right _ (List.mem_of_getElem? (i := 609) rfl)
set_option maxRecDepth 20000 in
theorem wco_X6_cow : Cond.code yX6_cow cX6_cow 5 (some .int) ∈ lw_tbl := List.mem_append_right _ (List.mem_of_getElem? (i := 610) rfl)
set_option maxRecDepth 20000 in
theorem wk_X6_151 : Cond.constantLong RX6 151 (2) ∈ lw_tbl := List.mem_append_right _ (List.mem_of_getElem? (i := 611) rfl)
set_option maxRecDepth 20000 in
theorem wml_X6_103 : Cond.methodLink RX6 103 yX6_in ∈ lw_tbl := List.mem_append_right _ (List.mem_of_getElem? (i := 612) rfl)
set_option maxRecDepth 20000 in
theorem wst_X6_in : Cond.static yX6_in ∈ lw_tbl := List.mem_append_right _ (List.mem_of_getElem? (i := 613) rfl)
set_option maxRecDepth 20000 in
theorem wco_X6_in : Cond.code yX6_in cX6_in 6 (some .boolean) ∈ lw_tbl := List.mem_append_right _ (List.mem_of_getElem? (i := 614) rfl)
set_option maxRecDepth 20000 in
theorem wk_X6_153 : Cond.constantLong RX6 153 (30) ∈ lw_tbl := List.mem_append_right _ (List.mem_of_getElem? (i := 615) rfl)
set_option maxRecDepth 20000 in
theorem wk_X6_155 : Cond.constantLong RX6 155 (1440) ∈ lw_tbl := List.mem_append_right _ (List.mem_of_getElem? (i := 616) rfl)
set_option maxRecDepth 20000 in
theorem wk_X6_157 : Cond.constantLong RX6 157 (5000) ∈ lw_tbl := List.mem_append_right _ (List.mem_of_getElem? (i := 617) rfl)
set_option maxRecDepth 20000 in
theorem wml_L_22 : Cond.methodLink RL 22 yX6_taken ∈ lw_tbl := List.mem_append_right _ (List.mem_of_getElem? (i := 618) rfl)
set_option maxRecDepth 20000 in
theorem wim_X6_taken : Cond.instanceMethod yX6_taken ∈ lw_tbl := List.mem_append_right _ (List.mem_of_getElem? (i := 619) rfl)
set_option maxRecDepth 20000 in
theorem wse_X6_taken : Cond.selects RX6 yX6_taken yX6_taken ∈ lw_tbl := List.mem_append_right _ (List.mem_of_getElem? (i := 620) rfl)
set_option maxRecDepth 20000 in
theorem wco_X6_taken : Cond.code yX6_taken cX6_taken 4 (some .int) ∈ lw_tbl := List.mem_append_right _ (List.mem_of_getElem? (i := 621) rfl)
set_option maxRecDepth 20000 in
theorem wml_X6_159 : Cond.methodLink RX6 159 yX6_noCow ∈ lw_tbl := List.mem_append_right _ (List.mem_of_getElem? (i := 622) rfl)
set_option maxRecDepth 20000 in
theorem wim_X6_noCow : Cond.instanceMethod yX6_noCow ∈ lw_tbl := List.mem_append_right _ (List.mem_of_getElem? (i := 624) rfl)
set_option maxRecDepth 20000 in
theorem wco_X6_noCow : Cond.code yX6_noCow cX6_noCow 2 (some .boolean) ∈ lw_tbl := List.mem_append_right _ (List.mem_of_getElem? (i := 625) rfl)
set_option maxRecDepth 20000 in
theorem wk_X6_163 : Cond.constantLong RX6 163 (3) ∈ lw_tbl := List.mem_append_right _ (List.mem_of_getElem? (i := 626) rfl)
set_option maxRecDepth 20000 in
theorem wml_L_27 : Cond.methodLink RL 27 yX6_withhold ∈ lw_tbl := List.mem_append_right _ (List.mem_of_getElem? (i := 627) rfl)
set_option maxRecDepth 20000 in
theorem wim_X6_withhold : Cond.instanceMethod yX6_withhold ∈ lw_tbl := List.mem_append_right _ (List.mem_of_getElem? (i := 628) rfl)
set_option maxRecDepth 20000 in
theorem wse_X6_withhold : Cond.selects RX6 yX6_withhold yX6_withhold ∈ lw_tbl := List.mem_append_right _ (List.mem_of_getElem? (i := 629) rfl)
set_option maxRecDepth 20000 in
theorem wco_X6_withhold : Cond.code yX6_withhold cX6_withhold 4 (some .int) ∈ lw_tbl := List.mem_append_right _ (List.mem_of_getElem? (i := 630) rfl)
set_option maxRecDepth 20000 in
theorem wk_X6_165 : Cond.constantLong RX6 165 (200000) ∈ lw_tbl := List.mem_append_right _ (List.mem_of_getElem? (i := 631) rfl)
set_option maxRecDepth 20000 in
theorem wml_L_31 : Cond.methodLink RL 31 yX6_trouble ∈ lw_tbl := List.mem_append_right _ (List.mem_of_getElem? (i := 632) rfl)
set_option maxRecDepth 20000 in
theorem wim_X6_trouble : Cond.instanceMethod yX6_trouble ∈ lw_tbl := List.mem_append_right _ (List.mem_of_getElem? (i := 633) rfl)
set_option maxRecDepth 20000 in
theorem wse_X6_trouble : Cond.selects RX6 yX6_trouble yX6_trouble ∈ lw_tbl := List.mem_append_right _ (List.mem_of_getElem? (i := 634) rfl)
set_option maxRecDepth 20000 in
theorem wco_X6_trouble : Cond.code yX6_trouble cX6_trouble 5 (some .int) ∈ lw_tbl := List.mem_append_right _ (List.mem_of_getElem? (i := 635) rfl)
set_option maxRecDepth 20000 in
theorem wk_X6_167 : Cond.constantLong RX6 167 (9) ∈ lw_tbl := List.mem_append_right _ (List.mem_of_getElem? (i := 636) rfl)
set_option maxRecDepth 20000 in
theorem wml_L_35 : Cond.methodLink RL 35 yX6_about ∈ lw_tbl := List.mem_append_right _ (List.mem_of_getElem? (i := 637) rfl)
set_option maxRecDepth 20000 in
theorem wim_X6_about : Cond.instanceMethod yX6_about ∈ lw_tbl := List.mem_append_right _ (List.mem_of_getElem? (i := 638) rfl)
set_option maxRecDepth 20000 in
theorem wse_X6_about : Cond.selects RX6 yX6_about yX6_about ∈ lw_tbl := List.mem_append_right _ (List.mem_of_getElem? (i := 639) rfl)
set_option maxRecDepth 20000 in
theorem wco_X6_about : Cond.code yX6_about cX6_about 3 (some .int) ∈ lw_tbl := List.mem_append_right _ (List.mem_of_getElem? (i := 640) rfl)
set_option maxRecDepth 20000 in
theorem wml_X6_117 : Cond.methodLink RX6 117 yX6_has ∈ lw_tbl := List.mem_append_right _ (List.mem_of_getElem? (i := 641) rfl)
set_option maxRecDepth 20000 in
theorem wim_X6_has : Cond.instanceMethod yX6_has ∈ lw_tbl := List.mem_append_right _ (List.mem_of_getElem? (i := 643) rfl)
set_option maxRecDepth 20000 in
theorem wco_X6_has : Cond.code yX6_has cX6_has 3 (some .int) ∈ lw_tbl := List.mem_append_right _ (List.mem_of_getElem? (i := 644) rfl)
set_option maxRecDepth 20000 in
theorem wml_X6_169 : Cond.methodLink RX6 169 yX6_hasRight ∈ lw_tbl := List.mem_append_right _ (List.mem_of_getElem? (i := 645) rfl)
set_option maxRecDepth 20000 in
theorem wim_X6_hasRight : Cond.instanceMethod yX6_hasRight ∈ lw_tbl := List.mem_append_right _ (List.mem_of_getElem? (i := 647) rfl)
set_option maxRecDepth 20000 in
theorem wco_X6_hasRight : Cond.code yX6_hasRight cX6_hasRight 2 (some .boolean) ∈ lw_tbl := List.mem_append_right _ (List.mem_of_getElem? (i := 648) rfl)
set_option maxRecDepth 20000 in
theorem wml_X6_142 : Cond.methodLink RX6 142 yX6_fedToday ∈ lw_tbl := List.mem_append_right _ (List.mem_of_getElem? (i := 649) rfl)
set_option maxRecDepth 20000 in
theorem wim_X6_fedToday : Cond.instanceMethod yX6_fedToday ∈ lw_tbl := List.mem_append_right _ (List.mem_of_getElem? (i := 651) rfl)
set_option maxRecDepth 20000 in
theorem wco_X6_fedToday : Cond.code yX6_fedToday cX6_fedToday 2 (some .int) ∈ lw_tbl := List.mem_append_right _ (List.mem_of_getElem? (i := 652) rfl)
set_option maxRecDepth 20000 in
theorem wml_X6_172 : Cond.methodLink RX6 172 yX6_placeOf ∈ lw_tbl := List.mem_append_right _ (List.mem_of_getElem? (i := 653) rfl)
set_option maxRecDepth 20000 in
theorem wim_X6_placeOf : Cond.instanceMethod yX6_placeOf ∈ lw_tbl := List.mem_append_right _ (List.mem_of_getElem? (i := 655) rfl)
set_option maxRecDepth 20000 in
theorem wco_X6_placeOf : Cond.code yX6_placeOf cX6_placeOf 3 (some .int) ∈ lw_tbl := List.mem_append_right _ (List.mem_of_getElem? (i := 656) rfl)
set_option maxRecDepth 20000 in
theorem wml_L_40 : Cond.methodLink RL 40 yX6_pass ∈ lw_tbl := List.mem_append_right _ (List.mem_of_getElem? (i := 657) rfl)
set_option maxRecDepth 20000 in
theorem wim_X6_pass : Cond.instanceMethod yX6_pass ∈ lw_tbl := List.mem_append_right _ (List.mem_of_getElem? (i := 658) rfl)
set_option maxRecDepth 20000 in
theorem wse_X6_pass : Cond.selects RX6 yX6_pass yX6_pass ∈ lw_tbl := List.mem_append_right _ (List.mem_of_getElem? (i := 659) rfl)
set_option maxRecDepth 20000 in
theorem wco_X6_pass : Cond.code yX6_pass cX6_pass 3 (some .int) ∈ lw_tbl := List.mem_append_right _ (List.mem_of_getElem? (i := 660) rfl)
set_option maxRecDepth 20000 in
theorem wk_X6_175 : Cond.constantLong RX6 175 (20000) ∈ lw_tbl := List.mem_append_right _ (List.mem_of_getElem? (i := 661) rfl)
set_option maxRecDepth 20000 in
theorem wk_X6_177 : Cond.constant RX6 177 (100000) ∈ lw_tbl := List.mem_append_right _ (List.mem_of_getElem? (i := 662) rfl)
set_option maxRecDepth 20000 in
theorem wml_X6_178 : Cond.methodLink RX6 178 yX6_finish ∈ lw_tbl := List.mem_append_right _ (List.mem_of_getElem? (i := 663) rfl)
set_option maxRecDepth 20000 in
theorem wim_X6_finish : Cond.instanceMethod yX6_finish ∈ lw_tbl := List.mem_append_right _ (List.mem_of_getElem? (i := 665) rfl)
set_option maxRecDepth 20000 in
theorem wco_X6_finish : Cond.code yX6_finish cX6_finish 7 none ∈ lw_tbl := List.mem_append_right _ (List.mem_of_getElem? (i := 666) rfl)
set_option maxRecDepth 20000 in
theorem wml_X6_181 : Cond.methodLink RX6 181 yX6_enter ∈ lw_tbl := List.mem_append_right _ (List.mem_of_getElem? (i := 667) rfl)
set_option maxRecDepth 20000 in
theorem wim_X6_enter : Cond.instanceMethod yX6_enter ∈ lw_tbl := List.mem_append_right _ (List.mem_of_getElem? (i := 669) rfl)
set_option maxRecDepth 20000 in
theorem wco_X6_enter : Cond.code yX6_enter cX6_enter 5 none ∈ lw_tbl := List.mem_append_right _ (List.mem_of_getElem? (i := 670) rfl)
set_option maxRecDepth 20000 in
theorem wml_X6_113 : Cond.methodLink RX6 113 yX6_begin ∈ lw_tbl := List.mem_append_right _ (List.mem_of_getElem? (i := 671) rfl)
set_option maxRecDepth 20000 in
theorem wim_X6_begin : Cond.instanceMethod yX6_begin ∈ lw_tbl := List.mem_append_right _ (List.mem_of_getElem? (i := 673) rfl)
set_option maxRecDepth 20000 in
theorem wco_X6_begin : Cond.code yX6_begin cX6_begin 7 none ∈ lw_tbl := List.mem_append_right _ (List.mem_of_getElem? (i := 674) rfl)
set_option maxRecDepth 20000 in
theorem wml_L_44 : Cond.methodLink RL 44 yX6_come ∈ lw_tbl := List.mem_append_right _ (List.mem_of_getElem? (i := 675) rfl)
set_option maxRecDepth 20000 in
theorem wim_X6_come : Cond.instanceMethod yX6_come ∈ lw_tbl := List.mem_append_right _ (List.mem_of_getElem? (i := 676) rfl)
set_option maxRecDepth 20000 in
theorem wse_X6_come : Cond.selects RX6 yX6_come yX6_come ∈ lw_tbl := List.mem_append_right _ (List.mem_of_getElem? (i := 677) rfl)
set_option maxRecDepth 20000 in
theorem wco_X6_come : Cond.code yX6_come cX6_come 4 (some .int) ∈ lw_tbl := List.mem_append_right _ (List.mem_of_getElem? (i := 678) rfl)
set_option maxRecDepth 20000 in
theorem wk_X6_187 : Cond.constantLong RX6 187 (1000) ∈ lw_tbl := List.mem_append_right _ (List.mem_of_getElem? (i := 679) rfl)
set_option maxRecDepth 20000 in
theorem wml_X6_189 : Cond.methodLink RX6 189 yX6_cowInBox ∈ lw_tbl := List.mem_append_right _ (List.mem_of_getElem? (i := 680) rfl)
set_option maxRecDepth 20000 in
theorem wim_X6_cowInBox : Cond.instanceMethod yX6_cowInBox ∈ lw_tbl := List.mem_append_right _ (List.mem_of_getElem? (i := 682) rfl)
set_option maxRecDepth 20000 in
theorem wco_X6_cowInBox : Cond.code yX6_cowInBox cX6_cowInBox 1 (some .int) ∈ lw_tbl := List.mem_append_right _ (List.mem_of_getElem? (i := 683) rfl)
set_option maxRecDepth 20000 in
theorem wml_X6_193 : Cond.methodLink RX6 193 yX6_isAlarm ∈ lw_tbl := List.mem_append_right _ (List.mem_of_getElem? (i := 684) rfl)
set_option maxRecDepth 20000 in
theorem wim_X6_isAlarm : Cond.instanceMethod yX6_isAlarm ∈ lw_tbl := List.mem_append_right _ (List.mem_of_getElem? (i := 686) rfl)
set_option maxRecDepth 20000 in
theorem wco_X6_isAlarm : Cond.code yX6_isAlarm cX6_isAlarm 6 (some .boolean) ∈ lw_tbl := List.mem_append_right _ (List.mem_of_getElem? (i := 687) rfl)
set_option maxRecDepth 20000 in
theorem wml_L_49 : Cond.methodLink RL 49 yX6_power ∈ lw_tbl := List.mem_append_right _ (List.mem_of_getElem? (i := 688) rfl)
set_option maxRecDepth 20000 in
theorem wim_X6_power : Cond.instanceMethod yX6_power ∈ lw_tbl := List.mem_append_right _ (List.mem_of_getElem? (i := 689) rfl)
set_option maxRecDepth 20000 in
theorem wse_X6_power : Cond.selects RX6 yX6_power yX6_power ∈ lw_tbl := List.mem_append_right _ (List.mem_of_getElem? (i := 690) rfl)
set_option maxRecDepth 20000 in
theorem wco_X6_power : Cond.code yX6_power cX6_power 5 (some .int) ∈ lw_tbl := List.mem_append_right _ (List.mem_of_getElem? (i := 691) rfl)
set_option maxRecDepth 20000 in
theorem wml_L_54 : Cond.methodLink RL 54 yX6_box ∈ lw_tbl := List.mem_append_right _ (List.mem_of_getElem? (i := 692) rfl)
set_option maxRecDepth 20000 in
theorem wim_X6_box : Cond.instanceMethod yX6_box ∈ lw_tbl := List.mem_append_right _ (List.mem_of_getElem? (i := 693) rfl)
set_option maxRecDepth 20000 in
theorem wse_X6_box : Cond.selects RX6 yX6_box yX6_box ∈ lw_tbl := List.mem_append_right _ (List.mem_of_getElem? (i := 694) rfl)
set_option maxRecDepth 20000 in
theorem wco_X6_box : Cond.code yX6_box cX6_box 1 (some .int) ∈ lw_tbl := List.mem_append_right _ (List.mem_of_getElem? (i := 695) rfl)
set_option maxRecDepth 20000 in
theorem wml_L_58 : Cond.methodLink RL 58 yX6_queue ∈ lw_tbl := List.mem_append_right _ (List.mem_of_getElem? (i := 696) rfl)
set_option maxRecDepth 20000 in
theorem wim_X6_queue : Cond.instanceMethod yX6_queue ∈ lw_tbl := List.mem_append_right _ (List.mem_of_getElem? (i := 697) rfl)
set_option maxRecDepth 20000 in
theorem wse_X6_queue : Cond.selects RX6 yX6_queue yX6_queue ∈ lw_tbl := List.mem_append_right _ (List.mem_of_getElem? (i := 698) rfl)
set_option maxRecDepth 20000 in
theorem wco_X6_queue : Cond.code yX6_queue cX6_queue 2 (some .int) ∈ lw_tbl := List.mem_append_right _ (List.mem_of_getElem? (i := 699) rfl)
set_option maxRecDepth 20000 in
theorem wml_L_62 : Cond.methodLink RL 62 yX6_ends ∈ lw_tbl := List.mem_append_right _ (List.mem_of_getElem? (i := 700) rfl)
set_option maxRecDepth 20000 in
theorem wim_X6_ends : Cond.instanceMethod yX6_ends ∈ lw_tbl := List.mem_append_right _ (List.mem_of_getElem? (i := 701) rfl)
set_option maxRecDepth 20000 in
theorem wse_X6_ends : Cond.selects RX6 yX6_ends yX6_ends ∈ lw_tbl := List.mem_append_right _ (List.mem_of_getElem? (i := 702) rfl)
set_option maxRecDepth 20000 in
theorem wco_X6_ends : Cond.code yX6_ends cX6_ends 1 (some .int) ∈ lw_tbl := List.mem_append_right _ (List.mem_of_getElem? (i := 703) rfl)
set_option maxRecDepth 20000 in
theorem wml_L_66 : Cond.methodLink RL 66 yX6_room ∈ lw_tbl := List.mem_append_right _ (List.mem_of_getElem? (i := 704) rfl)
set_option maxRecDepth 20000 in
theorem wim_X6_room : Cond.instanceMethod yX6_room ∈ lw_tbl := List.mem_append_right _ (List.mem_of_getElem? (i := 705) rfl)
set_option maxRecDepth 20000 in
theorem wse_X6_room : Cond.selects RX6 yX6_room yX6_room ∈ lw_tbl := List.mem_append_right _ (List.mem_of_getElem? (i := 706) rfl)
set_option maxRecDepth 20000 in
theorem wco_X6_room : Cond.code yX6_room cX6_room 3 (some .int) ∈ lw_tbl := List.mem_append_right _ (List.mem_of_getElem? (i := 707) rfl)
set_option maxRecDepth 20000 in
theorem wk_X6_197 : Cond.constantLong RX6 197 (100000) ∈ lw_tbl := List.mem_append_right _ (List.mem_of_getElem? (i := 708) rfl)
set_option maxRecDepth 20000 in
theorem wml_L_70 : Cond.methodLink RL 70 yX6_pick ∈ lw_tbl := List.mem_append_right _ (List.mem_of_getElem? (i := 709) rfl)
set_option maxRecDepth 20000 in
theorem wim_X6_pick : Cond.instanceMethod yX6_pick ∈ lw_tbl := List.mem_append_right _ (List.mem_of_getElem? (i := 710) rfl)
set_option maxRecDepth 20000 in
theorem wse_X6_pick : Cond.selects RX6 yX6_pick yX6_pick ∈ lw_tbl := List.mem_append_right _ (List.mem_of_getElem? (i := 711) rfl)
set_option maxRecDepth 20000 in
theorem wco_X6_pick : Cond.code yX6_pick cX6_pick 3 (some .int) ∈ lw_tbl := List.mem_append_right _ (List.mem_of_getElem? (i := 712) rfl)
set_option maxRecDepth 20000 in
theorem wml_L_74 : Cond.methodLink RL 74 yX6_total ∈ lw_tbl := List.mem_append_right _ (List.mem_of_getElem? (i := 713) rfl)
set_option maxRecDepth 20000 in
theorem wim_X6_total : Cond.instanceMethod yX6_total ∈ lw_tbl := List.mem_append_right _ (List.mem_of_getElem? (i := 714) rfl)
set_option maxRecDepth 20000 in
theorem wse_X6_total : Cond.selects RX6 yX6_total yX6_total ∈ lw_tbl := List.mem_append_right _ (List.mem_of_getElem? (i := 715) rfl)
set_option maxRecDepth 20000 in
theorem wco_X6_total : Cond.code yX6_total cX6_total 4 (some .int) ∈ lw_tbl := List.mem_append_right _ (List.mem_of_getElem? (i := 716) rfl)
set_option maxRecDepth 20000 in
theorem wml_L_78 : Cond.methodLink RL 78 yX6_visit ∈ lw_tbl := List.mem_append_right _ (List.mem_of_getElem? (i := 717) rfl)
set_option maxRecDepth 20000 in
theorem wim_X6_visit : Cond.instanceMethod yX6_visit ∈ lw_tbl := List.mem_append_right _ (List.mem_of_getElem? (i := 718) rfl)
set_option maxRecDepth 20000 in
theorem wse_X6_visit : Cond.selects RX6 yX6_visit yX6_visit ∈ lw_tbl := List.mem_append_right _ (List.mem_of_getElem? (i := 719) rfl)
set_option maxRecDepth 20000 in
theorem wco_X6_visit : Cond.code yX6_visit cX6_visit 4 (some .int) ∈ lw_tbl := List.mem_append_right _ (List.mem_of_getElem? (i := 720) rfl)
set_option maxRecDepth 20000 in
theorem wk_X6_202 : Cond.constantLong RX6 202 (10) ∈ lw_tbl := List.mem_append_right _ (List.mem_of_getElem? (i := 721) rfl)
set_option maxRecDepth 20000 in
theorem wml_L_82 : Cond.methodLink RL 82 yX6_visitOf ∈ lw_tbl := List.mem_append_right _ (List.mem_of_getElem? (i := 722) rfl)
set_option maxRecDepth 20000 in
theorem wim_X6_visitOf : Cond.instanceMethod yX6_visitOf ∈ lw_tbl := List.mem_append_right _ (List.mem_of_getElem? (i := 723) rfl)
set_option maxRecDepth 20000 in
theorem wse_X6_visitOf : Cond.selects RX6 yX6_visitOf yX6_visitOf ∈ lw_tbl := List.mem_append_right _ (List.mem_of_getElem? (i := 724) rfl)
set_option maxRecDepth 20000 in
theorem wco_X6_visitOf : Cond.code yX6_visitOf cX6_visitOf 5 (some .int) ∈ lw_tbl := List.mem_append_right _ (List.mem_of_getElem? (i := 725) rfl)
set_option maxRecDepth 20000 in
theorem wml_L_86 : Cond.methodLink RL 86 yX6_gave ∈ lw_tbl := List.mem_append_right _ (List.mem_of_getElem? (i := 726) rfl)
set_option maxRecDepth 20000 in
theorem wim_X6_gave : Cond.instanceMethod yX6_gave ∈ lw_tbl := List.mem_append_right _ (List.mem_of_getElem? (i := 727) rfl)
set_option maxRecDepth 20000 in
theorem wse_X6_gave : Cond.selects RX6 yX6_gave yX6_gave ∈ lw_tbl := List.mem_append_right _ (List.mem_of_getElem? (i := 728) rfl)
set_option maxRecDepth 20000 in
theorem wco_X6_gave : Cond.code yX6_gave cX6_gave 5 (some .int) ∈ lw_tbl := List.mem_append_right _ (List.mem_of_getElem? (i := 729) rfl)
set_option maxRecDepth 20000 in
theorem wml_L_90 : Cond.methodLink RL 90 yX6_longest ∈ lw_tbl := List.mem_append_right _ (List.mem_of_getElem? (i := 730) rfl)
set_option maxRecDepth 20000 in
theorem wim_X6_longest : Cond.instanceMethod yX6_longest ∈ lw_tbl := List.mem_append_right _ (List.mem_of_getElem? (i := 731) rfl)
set_option maxRecDepth 20000 in
theorem wse_X6_longest : Cond.selects RX6 yX6_longest yX6_longest ∈ lw_tbl := List.mem_append_right _ (List.mem_of_getElem? (i := 732) rfl)
set_option maxRecDepth 20000 in
theorem wco_X6_longest : Cond.code yX6_longest cX6_longest 4 (some .int) ∈ lw_tbl := List.mem_append_right _ (List.mem_of_getElem? (i := 733) rfl)
set_option maxRecDepth 20000 in
theorem wml_L_94 : Cond.methodLink RL 94 yX6_rank ∈ lw_tbl := List.mem_append_right _ (List.mem_of_getElem? (i := 734) rfl)
set_option maxRecDepth 20000 in
theorem wim_X6_rank : Cond.instanceMethod yX6_rank ∈ lw_tbl := List.mem_append_right _ (List.mem_of_getElem? (i := 735) rfl)
set_option maxRecDepth 20000 in
theorem wse_X6_rank : Cond.selects RX6 yX6_rank yX6_rank ∈ lw_tbl := List.mem_append_right _ (List.mem_of_getElem? (i := 736) rfl)
set_option maxRecDepth 20000 in
theorem wco_X6_rank : Cond.code yX6_rank cX6_rank 5 (some .int) ∈ lw_tbl := List.mem_append_right _ (List.mem_of_getElem? (i := 737) rfl)
set_option maxRecDepth 20000 in
theorem wml_L_98 : Cond.methodLink RL 98 yX6_until ∈ lw_tbl := List.mem_append_right _ (List.mem_of_getElem? (i := 738) rfl)
set_option maxRecDepth 20000 in
theorem wim_X6_until : Cond.instanceMethod yX6_until ∈ lw_tbl := List.mem_append_right _ (List.mem_of_getElem? (i := 739) rfl)
set_option maxRecDepth 20000 in
theorem wse_X6_until : Cond.selects RX6 yX6_until yX6_until ∈ lw_tbl := List.mem_append_right _ (List.mem_of_getElem? (i := 740) rfl)
set_option maxRecDepth 20000 in
theorem wco_X6_until : Cond.code yX6_until cX6_until 6 (some .int) ∈ lw_tbl := List.mem_append_right _ (List.mem_of_getElem? (i := 741) rfl)
set_option maxRecDepth 20000 in
theorem wk_X6_204 : Cond.constantLong RX6 204 (400) ∈ lw_tbl := List.mem_append_right _ (List.mem_of_getElem? (i := 742) rfl)
theorem wse_X5_cowAt : Cond.selects RX5 yX5_cowAt yX5_cowAt ∈ lw_tbl := List.mem_append_left _ (List.mem_of_getElem? (i := 0) rfl)
theorem wse_X5_finishMilking : Cond.selects RX5 yX5_finishMilking yX5_finishMilking ∈ lw_tbl := List.mem_append_left _ (List.mem_of_getElem? (i := 1) rfl)
theorem wse_X5_fillBox : Cond.selects RX5 yX5_fillBox yX5_fillBox ∈ lw_tbl := List.mem_append_left _ (List.mem_of_getElem? (i := 2) rfl)
theorem wse_X2_choose : Cond.selects RX2 yX2_choose yX2_choose ∈ lw_tbl := List.mem_append_left _ (List.mem_of_getElem? (i := 3) rfl)
theorem wse_X2_closeUp : Cond.selects RX2 yX2_closeUp yX2_closeUp ∈ lw_tbl := List.mem_append_left _ (List.mem_of_getElem? (i := 4) rfl)
theorem wse_X0_milkOfTeat : Cond.selects RX0 yX0_milkOfTeat yX0_milkOfTeat ∈ lw_tbl := List.mem_append_left _ (List.mem_of_getElem? (i := 5) rfl)
theorem wse_X5_visitAt : Cond.selects RX5 yX5_visitAt yX5_visitAt ∈ lw_tbl := List.mem_append_left _ (List.mem_of_getElem? (i := 6) rfl)
theorem wse_X5_countAhead : Cond.selects RX5 yX5_countAhead yX5_countAhead ∈ lw_tbl := List.mem_append_left _ (List.mem_of_getElem? (i := 7) rfl)
theorem wse_X6_noCow : Cond.selects RX6 yX6_noCow yX6_noCow ∈ lw_tbl := List.mem_append_left _ (List.mem_of_getElem? (i := 8) rfl)
theorem wse_X6_has : Cond.selects RX6 yX6_has yX6_has ∈ lw_tbl := List.mem_append_left _ (List.mem_of_getElem? (i := 9) rfl)
theorem wse_X6_hasRight : Cond.selects RX6 yX6_hasRight yX6_hasRight ∈ lw_tbl := List.mem_append_left _ (List.mem_of_getElem? (i := 10) rfl)
theorem wse_X6_fedToday : Cond.selects RX6 yX6_fedToday yX6_fedToday ∈ lw_tbl := List.mem_append_left _ (List.mem_of_getElem? (i := 11) rfl)
theorem wse_X6_placeOf : Cond.selects RX6 yX6_placeOf yX6_placeOf ∈ lw_tbl := List.mem_append_left _ (List.mem_of_getElem? (i := 12) rfl)
theorem wse_X6_finish : Cond.selects RX6 yX6_finish yX6_finish ∈ lw_tbl := List.mem_append_left _ (List.mem_of_getElem? (i := 13) rfl)
theorem wse_X6_enter : Cond.selects RX6 yX6_enter yX6_enter ∈ lw_tbl := List.mem_append_left _ (List.mem_of_getElem? (i := 14) rfl)
theorem wse_X6_begin : Cond.selects RX6 yX6_begin yX6_begin ∈ lw_tbl := List.mem_append_left _ (List.mem_of_getElem? (i := 15) rfl)
theorem wse_X6_cowInBox : Cond.selects RX6 yX6_cowInBox yX6_cowInBox ∈ lw_tbl := List.mem_append_left _ (List.mem_of_getElem? (i := 16) rfl)
theorem wse_X6_isAlarm : Cond.selects RX6 yX6_isAlarm yX6_isAlarm ∈ lw_tbl := List.mem_append_left _ (List.mem_of_getElem? (i := 17) rfl)
set_option maxRecDepth 20000 in
theorem inX0 : ∀ w ∈ u_ws RX0 TX0 5, w ∈ lw_tbl := by
  have h : u_ws RX0 TX0 5 = [51, 53, 55, 57, 59].filterMap (fun i => tables_1[i]?) := rfl
  intro w hw
  rw [h] at hw
  obtain ⟨i, -, hi⟩ := List.mem_filterMap.mp hw
  exact List.mem_append_right _ (List.mem_of_getElem? hi)
set_option maxRecDepth 20000 in
theorem inX1 : ∀ w ∈ u_ws RX1 TX1 14, w ∈ lw_tbl := by
  have h : u_ws RX1 TX1 14 = [168, 170, 172, 174, 176, 178, 180, 182, 184, 186, 188, 190, 192, 194].filterMap (fun i => tables_1[i]?) := rfl
  intro w hw
  rw [h] at hw
  obtain ⟨i, -, hi⟩ := List.mem_filterMap.mp hw
  exact List.mem_append_right _ (List.mem_of_getElem? hi)
set_option maxRecDepth 20000 in
theorem inX2 : ∀ w ∈ u_ws RX2 TX2 2, w ∈ lw_tbl := by
  have h : u_ws RX2 TX2 2 = [31, 33].filterMap (fun i => tables_1[i]?) := rfl
  intro w hw
  rw [h] at hw
  obtain ⟨i, -, hi⟩ := List.mem_filterMap.mp hw
  exact List.mem_append_right _ (List.mem_of_getElem? hi)
set_option maxRecDepth 20000 in
theorem inX3 : ∀ w ∈ u_ws RX3 TX3 5, w ∈ lw_tbl := by
  have h : u_ws RX3 TX3 5 = [78, 80, 82, 84, 86].filterMap (fun i => tables_1[i]?) := rfl
  intro w hw
  rw [h] at hw
  obtain ⟨i, -, hi⟩ := List.mem_filterMap.mp hw
  exact List.mem_append_right _ (List.mem_of_getElem? hi)
set_option maxRecDepth 20000 in
theorem inX4 : ∀ w ∈ u_ws RX4 TX4 12, w ∈ lw_tbl := by
  have h : u_ws RX4 TX4 12 = [353, 355, 357, 359, 361, 363, 365, 367, 369, 371, 373, 375].filterMap (fun i => tables_1[i]?) := rfl
  intro w hw
  rw [h] at hw
  obtain ⟨i, -, hi⟩ := List.mem_filterMap.mp hw
  exact List.mem_append_right _ (List.mem_of_getElem? hi)
set_option maxRecDepth 20000 in
theorem inX5 : ∀ w ∈ u_ws RX5 TX5 14, w ∈ lw_tbl := by
  have h : u_ws RX5 TX5 14 = [103, 105, 107, 109, 111, 113, 115, 117, 119, 121, 123, 125, 127, 129].filterMap (fun i => tables_1[i]?) := rfl
  intro w hw
  rw [h] at hw
  obtain ⟨i, -, hi⟩ := List.mem_filterMap.mp hw
  exact List.mem_append_right _ (List.mem_of_getElem? hi)
set_option maxRecDepth 20000 in
theorem inX6 : ∀ w ∈ u_ws RX6 TX6 43, w ∈ lw_tbl := by
  have h : u_ws RX6 TX6 43 = [519, 521, 523, 525, 527, 529, 531, 533, 535, 537, 539, 541, 543, 545, 547, 549, 551, 553, 555, 557, 559, 561, 563, 565, 567, 569, 571, 573, 575, 577, 579, 581, 583, 585, 587, 589, 591, 593, 595, 597, 599, 601, 603].filterMap (fun i => tables_1[i]?) := rfl
  intro w hw
  rw [h] at hw
  obtain ⟨i, -, hi⟩ := List.mem_filterMap.mp hw
  exact List.mem_append_right _ (List.mem_of_getElem? hi)
def gNs (U : State) : Prop := va_Nw (.methodLinkNest RX5 23 yX2_init "MilkBox") U ∧ va_Nw (.methodLinkNest RX5 30 yX0_init "MilkBox") U ∧ va_Nw (.methodLinkNest RX5 37 yX3_init "MilkBox") U ∧ va_Nw (.methodLinkNest RX4 49 yX5_asNumber "MilkBox") U
