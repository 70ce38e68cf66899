theorem tbs {i : Nat} {w : Cond} (h : (k2_sels lw_privs)[i]? = some w) (g : goodWord w = true) : w ∈ T0 := T0_mem (List.mem_append_left _ (List.mem_of_getElem? h)) g
theorem tb1 {i : Nat} {w : Cond} (h : tables_1_1[i]? = some w) (g : goodWord w = true) : w ∈ T0 := T0_mem (List.mem_append_right _ (List.mem_append_left _ (List.mem_of_getElem? h))) g
theorem tb2 {i : Nat} {w : Cond} (h : tables_1_2[i]? = some w) (g : goodWord w = true) : w ∈ T0 := T0_mem (List.mem_append_right _ (List.mem_append_right _ (List.mem_append_left _ (List.mem_of_getElem? h)))) g
theorem tb3 {i : Nat} {w : Cond} (h : tables_1_3[i]? = some w) (g : goodWord w = true) : w ∈ T0 := T0_mem (List.mem_append_right _ (List.mem_append_right _ (List.mem_append_right _ (List.mem_append_left _ (List.mem_of_getElem? h))))) g
theorem tb4 {i : Nat} {w : Cond} (h : tables_1_4[i]? = some w) (g : goodWord w = true) : w ∈ T0 := T0_mem (List.mem_append_right _ (List.mem_append_right _ (List.mem_append_right _ (List.mem_append_right _ (List.mem_append_left _ (List.mem_of_getElem? h)))))) g
theorem tb5 {i : Nat} {w : Cond} (h : tables_1_5[i]? = some w) (g : goodWord w = true) : w ∈ T0 := T0_mem (List.mem_append_right _ (List.mem_append_right _ (List.mem_append_right _ (List.mem_append_right _ (List.mem_append_right _ (List.mem_append_left _ (List.mem_of_getElem? h))))))) g
theorem tb6 {i : Nat} {w : Cond} (h : tables_1_6[i]? = some w) (g : goodWord w = true) : w ∈ T0 := T0_mem (List.mem_append_right _ (List.mem_append_right _ (List.mem_append_right _ (List.mem_append_right _ (List.mem_append_right _ (List.mem_append_right _ (List.mem_append_left _ (List.mem_of_getElem? h)))))))) g
theorem tb7 {i : Nat} {w : Cond} (h : tables_1_7[i]? = some w) (g : goodWord w = true) : w ∈ T0 := T0_mem (List.mem_append_right _ (List.mem_append_right _ (List.mem_append_right _ (List.mem_append_right _ (List.mem_append_right _ (List.mem_append_right _ (List.mem_append_right _ (List.mem_of_getElem? h)))))))) g
theorem lk_L_9 : Cond.methodLink RL 9 yX9_init ∈ T0 := tb1 (i := 21) (by decide +kernel) rfl
theorem lk_X9_1 : Cond.methodLink RX9 1 objectInit ∈ T0 := tb1 (i := 24) (by decide +kernel) rfl
theorem lk_X9_9 : Cond.methodLink RX9 9 yX0_init ∈ T0 := tb1 (i := 29) (by decide +kernel) rfl
theorem lk_X0_3 : Cond.methodLink RX0 3 objectInit ∈ T0 := tb1 (i := 32) (by decide +kernel) rfl
theorem ln_X0_11 : Cond.methodLinkNest RX0 11 yX2_init "ReleaseTerms" ∈ ca_nest := List.mem_of_getElem? (i := 0) (by decide +kernel)
theorem lk_X2_3 : Cond.methodLink RX2 3 objectInit ∈ T0 := tb1 (i := 38) (by decide +kernel) rfl
theorem lf_X2_9 : Cond.fieldLink RX2 9 "ReleaseTerms$Places" "neighbours" "[I" ∈ T0 := tb1 (i := 39) (by decide +kernel) rfl
theorem ln_X0_20 : Cond.methodLinkNest RX0 20 yX5_init "ReleaseTerms" ∈ ca_nest := List.mem_of_getElem? (i := 1) (by decide +kernel)
theorem lk_X5_3 : Cond.methodLink RX5 3 objectInit ∈ T0 := tb1 (i := 49) (by decide +kernel) rfl
theorem lf_X5_11 : Cond.fieldLink RX5 11 "ReleaseTerms$Sightings" "rows" "[I" ∈ T0 := tb1 (i := 50) (by decide +kernel) rfl
theorem lf_X5_15 : Cond.fieldLink RX5 15 "ReleaseTerms$Sightings" "size" "I" ∈ T0 := tb1 (i := 51) (by decide +kernel) rfl
theorem ln_X0_27 : Cond.methodLinkNest RX0 27 yX7_init "ReleaseTerms" ∈ ca_nest := List.mem_of_getElem? (i := 2) (by decide +kernel)
theorem lk_X7_3 : Cond.methodLink RX7 3 objectInit ∈ T0 := tb1 (i := 62) (by decide +kernel) rfl
theorem lf_X7_11 : Cond.fieldLink RX7 11 "ReleaseTerms$Terms" "rows" "[I" ∈ T0 := tb1 (i := 63) (by decide +kernel) rfl
theorem lf_X7_15 : Cond.fieldLink RX7 15 "ReleaseTerms$Terms" "size" "I" ∈ T0 := tb1 (i := 64) (by decide +kernel) rfl
theorem ln_X0_34 : Cond.methodLinkNest RX0 34 yX6_init "ReleaseTerms" ∈ ca_nest := List.mem_of_getElem? (i := 3) (by decide +kernel)
theorem lk_X6_3 : Cond.methodLink RX6 3 objectInit ∈ T0 := tb1 (i := 75) (by decide +kernel) rfl
theorem lf_X6_9 : Cond.fieldLink RX6 9 "ReleaseTerms$Sureties" "rooms" "[I" ∈ T0 := tb1 (i := 76) (by decide +kernel) rfl
theorem lf_X6_15 : Cond.fieldLink RX6 15 "ReleaseTerms$Sureties" "backed" "[I" ∈ T0 := tb1 (i := 77) (by decide +kernel) rfl
theorem lf_X6_18 : Cond.fieldLink RX6 18 "ReleaseTerms$Sureties" "given" "[I" ∈ T0 := tb1 (i := 78) (by decide +kernel) rfl
theorem lf_X6_21 : Cond.fieldLink RX6 21 "ReleaseTerms$Sureties" "bails" "[I" ∈ T0 := tb1 (i := 79) (by decide +kernel) rfl
theorem lf_X0_12 : Cond.fieldLink RX0 12 "ReleaseTerms$Book" "places" "LReleaseTerms$Places;" ∈ T0 := tb1 (i := 89) (by decide +kernel) rfl
theorem lf_X9_62 : Cond.fieldLink RX9 62 "ReleaseTerms$Book" "places" "LReleaseTerms$Places;" ∈ T0 := tb1 (i := 90) (by decide +kernel) rfl
theorem lf_X1_49 : Cond.fieldLink RX1 49 "ReleaseTerms$Book" "places" "LReleaseTerms$Places;" ∈ T0 := tb1 (i := 91) (by decide +kernel) rfl
theorem lf_X8_55 : Cond.fieldLink RX8 55 "ReleaseTerms$Book" "places" "LReleaseTerms$Places;" ∈ T0 := tb1 (i := 92) (by decide +kernel) rfl
theorem lf_X0_21 : Cond.fieldLink RX0 21 "ReleaseTerms$Book" "sightings" "LReleaseTerms$Sightings;" ∈ T0 := tb1 (i := 93) (by decide +kernel) rfl
theorem lf_X1_37 : Cond.fieldLink RX1 37 "ReleaseTerms$Book" "sightings" "LReleaseTerms$Sightings;" ∈ T0 := tb1 (i := 94) (by decide +kernel) rfl
theorem lf_X8_18 : Cond.fieldLink RX8 18 "ReleaseTerms$Book" "sightings" "LReleaseTerms$Sightings;" ∈ T0 := tb1 (i := 95) (by decide +kernel) rfl
theorem lf_X9_89 : Cond.fieldLink RX9 89 "ReleaseTerms$Book" "sightings" "LReleaseTerms$Sightings;" ∈ T0 := tb1 (i := 96) (by decide +kernel) rfl
theorem lf_X0_28 : Cond.fieldLink RX0 28 "ReleaseTerms$Book" "terms" "LReleaseTerms$Terms;" ∈ T0 := tb1 (i := 97) (by decide +kernel) rfl
theorem lf_X8_24 : Cond.fieldLink RX8 24 "ReleaseTerms$Book" "terms" "LReleaseTerms$Terms;" ∈ T0 := tb1 (i := 98) (by decide +kernel) rfl
theorem lf_X1_77 : Cond.fieldLink RX1 77 "ReleaseTerms$Book" "terms" "LReleaseTerms$Terms;" ∈ T0 := tb1 (i := 99) (by decide +kernel) rfl
theorem lf_X9_137 : Cond.fieldLink RX9 137 "ReleaseTerms$Book" "terms" "LReleaseTerms$Terms;" ∈ T0 := tb1 (i := 100) (by decide +kernel) rfl
theorem lf_X0_35 : Cond.fieldLink RX0 35 "ReleaseTerms$Book" "sureties" "LReleaseTerms$Sureties;" ∈ T0 := tb1 (i := 101) (by decide +kernel) rfl
theorem lf_X9_224 : Cond.fieldLink RX9 224 "ReleaseTerms$Book" "sureties" "LReleaseTerms$Sureties;" ∈ T0 := tb1 (i := 102) (by decide +kernel) rfl
theorem lf_X0_39 : Cond.fieldLink RX0 39 "ReleaseTerms$Book" "hearings" "[I" ∈ T0 := tb1 (i := 103) (by decide +kernel) rfl
theorem lf_X9_263 : Cond.fieldLink RX9 263 "ReleaseTerms$Book" "hearings" "[I" ∈ T0 := tb1 (i := 104) (by decide +kernel) rfl
theorem lf_X0_43 : Cond.fieldLink RX0 43 "ReleaseTerms$Book" "spots" "[I" ∈ T0 := tb1 (i := 105) (by decide +kernel) rfl
theorem lf_X9_294 : Cond.fieldLink RX9 294 "ReleaseTerms$Book" "spots" "[I" ∈ T0 := tb1 (i := 106) (by decide +kernel) rfl
theorem lf_X0_46 : Cond.fieldLink RX0 46 "ReleaseTerms$Book" "z" "I" ∈ T0 := tb1 (i := 107) (by decide +kernel) rfl
theorem lf_X9_266 : Cond.fieldLink RX9 266 "ReleaseTerms$Book" "z" "I" ∈ T0 := tb1 (i := 108) (by decide +kernel) rfl
theorem ln_X9_25 : Cond.methodLinkNest RX9 25 yX3_init "ReleaseTerms" ∈ ca_nest := List.mem_of_getElem? (i := 4) (by decide +kernel)
theorem lk_X3_5 : Cond.methodLink RX3 5 objectInit ∈ T0 := tb1 (i := 129) (by decide +kernel) rfl
theorem lf_X3_11 : Cond.fieldLink RX3 11 "ReleaseTerms$Reader" "tape" "[I" ∈ T0 := tb1 (i := 130) (by decide +kernel) rfl
theorem lf_X3_21 : Cond.fieldLink RX3 21 "ReleaseTerms$Reader" "size" "I" ∈ T0 := tb1 (i := 131) (by decide +kernel) rfl
theorem lf_X3_15 : Cond.fieldLink RX3 15 "ReleaseTerms$Reader" "items" "[I" ∈ T0 := tb1 (i := 132) (by decide +kernel) rfl
theorem lf_X3_25 : Cond.fieldLink RX3 25 "ReleaseTerms$Reader" "itemCount" "I" ∈ T0 := tb1 (i := 133) (by decide +kernel) rfl
theorem lf_X3_40 : Cond.fieldLink RX3 40 "ReleaseTerms$Reader" "fault" "I" ∈ T0 := tb1 (i := 134) (by decide +kernel) rfl
theorem lf_X3_52 : Cond.fieldLink RX3 52 "ReleaseTerms$Reader" "sort" "I" ∈ T0 := tb1 (i := 135) (by decide +kernel) rfl
theorem lf_X3_114 : Cond.fieldLink RX3 114 "ReleaseTerms$Reader" "begin" "I" ∈ T0 := tb1 (i := 136) (by decide +kernel) rfl
theorem lf_X3_43 : Cond.fieldLink RX3 43 "ReleaseTerms$Reader" "behind" "I" ∈ T0 := tb1 (i := 137) (by decide +kernel) rfl
theorem lf_X3_68 : Cond.fieldLink RX3 68 "ReleaseTerms$Reader" "value" "I" ∈ T0 := tb1 (i := 138) (by decide +kernel) rfl
theorem lf_X3_33 : Cond.fieldLink RX3 33 "ReleaseTerms$Reader" "terms" "I" ∈ T0 := tb1 (i := 139) (by decide +kernel) rfl
theorem lf_X3_18 : Cond.fieldLink RX3 18 "ReleaseTerms$Reader" "termsOf" "[I" ∈ T0 := tb1 (i := 140) (by decide +kernel) rfl
theorem ln_X9_32 : Cond.methodLinkNest RX9 32 yX4_init "ReleaseTerms" ∈ ca_nest := List.mem_of_getElem? (i := 5) (by decide +kernel)
theorem lk_X4_1 : Cond.methodLink RX4 1 objectInit ∈ T0 := tb1 (i := 169) (by decide +kernel) rfl
theorem lf_X4_9 : Cond.fieldLink RX4 9 "ReleaseTerms$Sheets" "bits" "[I" ∈ T0 := tb1 (i := 170) (by decide +kernel) rfl
theorem lf_X4_13 : Cond.fieldLink RX4 13 "ReleaseTerms$Sheets" "sizes" "[I" ∈ T0 := tb1 (i := 171) (by decide +kernel) rfl
theorem lf_X4_16 : Cond.fieldLink RX4 16 "ReleaseTerms$Sheets" "numbers" "[I" ∈ T0 := tb1 (i := 172) (by decide +kernel) rfl
theorem ln_X9_39 : Cond.methodLinkNest RX9 39 yX1_init "ReleaseTerms" ∈ ca_nest := List.mem_of_getElem? (i := 6) (by decide +kernel)
theorem lk_X1_3 : Cond.methodLink RX1 3 objectInit ∈ T0 := tb1 (i := 185) (by decide +kernel) rfl
theorem lf_X1_9 : Cond.fieldLink RX1 9 "ReleaseTerms$DayWays" "allowed" "[I" ∈ T0 := tb1 (i := 186) (by decide +kernel) rfl
theorem lf_X1_15 : Cond.fieldLink RX1 15 "ReleaseTerms$DayWays" "steps" "[I" ∈ T0 := tb1 (i := 187) (by decide +kernel) rfl
theorem lf_X1_18 : Cond.fieldLink RX1 18 "ReleaseTerms$DayWays" "payments" "[I" ∈ T0 := tb1 (i := 188) (by decide +kernel) rfl
theorem lf_X1_21 : Cond.fieldLink RX1 21 "ReleaseTerms$DayWays" "reached" "[I" ∈ T0 := tb1 (i := 189) (by decide +kernel) rfl
theorem lf_X1_24 : Cond.fieldLink RX1 24 "ReleaseTerms$DayWays" "toGo" "[J" ∈ T0 := tb1 (i := 190) (by decide +kernel) rfl
theorem lf_X1_28 : Cond.fieldLink RX1 28 "ReleaseTerms$DayWays" "leading" "[I" ∈ T0 := tb1 (i := 191) (by decide +kernel) rfl
theorem lf_X1_31 : Cond.fieldLink RX1 31 "ReleaseTerms$DayWays" "leadingNext" "[I" ∈ T0 := tb1 (i := 192) (by decide +kernel) rfl
theorem lf_X1_34 : Cond.fieldLink RX1 34 "ReleaseTerms$DayWays" "ahead" "[I" ∈ T0 := tb1 (i := 193) (by decide +kernel) rfl
theorem lf_X1_59 : Cond.fieldLink RX1 59 "ReleaseTerms$DayWays" "firstDebt" "I" ∈ T0 := tb1 (i := 194) (by decide +kernel) rfl
theorem lf_X1_63 : Cond.fieldLink RX1 63 "ReleaseTerms$DayWays" "asking" "I" ∈ T0 := tb1 (i := 195) (by decide +kernel) rfl
theorem ln_X9_46 : Cond.methodLinkNest RX9 46 yX8_init "ReleaseTerms" ∈ ca_nest := List.mem_of_getElem? (i := 7) (by decide +kernel)
theorem lk_X8_3 : Cond.methodLink RX8 3 objectInit ∈ T0 := tb1 (i := 223) (by decide +kernel) rfl
theorem lf_X8_9 : Cond.fieldLink RX8 9 "ReleaseTerms$Trial" "open" "[I" ∈ T0 := tb1 (i := 224) (by decide +kernel) rfl
theorem lf_X8_15 : Cond.fieldLink RX8 15 "ReleaseTerms$Trial" "clean" "[I" ∈ T0 := tb1 (i := 225) (by decide +kernel) rfl
theorem lf_X8_44 : Cond.fieldLink RX8 44 "ReleaseTerms$Trial" "fouled" "I" ∈ T0 := tb1 (i := 226) (by decide +kernel) rfl
theorem lf_X9_10 : Cond.fieldLink RX9 10 "ReleaseTerms" "book" "LReleaseTerms$Book;" ∈ T0 := tb1 (i := 234) (by decide +kernel) rfl
theorem lf_X9_16 : Cond.fieldLink RX9 16 "ReleaseTerms" "keptBook" "LReleaseTerms$Book;" ∈ T0 := tb1 (i := 235) (by decide +kernel) rfl
theorem lf_X9_344 : Cond.fieldLink RX9 344 "ReleaseTerms" "isImageKept" "Z" ∈ T0 := tb1 (i := 236) (by decide +kernel) rfl
theorem lf_X9_19 : Cond.fieldLink RX9 19 "ReleaseTerms" "found" "[I" ∈ T0 := tb1 (i := 237) (by decide +kernel) rfl
theorem lf_X9_26 : Cond.fieldLink RX9 26 "ReleaseTerms" "reader" "LReleaseTerms$Reader;" ∈ T0 := tb1 (i := 238) (by decide +kernel) rfl
theorem lf_X9_33 : Cond.fieldLink RX9 33 "ReleaseTerms" "sheets" "LReleaseTerms$Sheets;" ∈ T0 := tb1 (i := 239) (by decide +kernel) rfl
theorem lf_X9_40 : Cond.fieldLink RX9 40 "ReleaseTerms" "dayWays" "LReleaseTerms$DayWays;" ∈ T0 := tb2 (i := 0) (by decide +kernel) rfl
theorem lf_X9_47 : Cond.fieldLink RX9 47 "ReleaseTerms" "trial" "LReleaseTerms$Trial;" ∈ T0 := tb2 (i := 1) (by decide +kernel) rfl
theorem lf_X9_51 : Cond.fieldLink RX9 51 "ReleaseTerms" "told" "[I" ∈ T0 := tb2 (i := 2) (by decide +kernel) rfl
theorem lf_X9_187 : Cond.fieldLink RX9 187 "ReleaseTerms" "isWayTold" "Z" ∈ T0 := tb2 (i := 3) (by decide +kernel) rfl
theorem lk_L_13 : Cond.methodLink RL 13 yX9_road ∈ T0 := tb2 (i := 25) (by decide +kernel) rfl
theorem lk_X9_54 : Cond.methodLink RX9 54 yX9_isPlace ∈ T0 := tb2 (i := 29) (by decide +kernel) rfl
theorem lk_X9_58 : Cond.methodLink RX9 58 yX9_finding ∈ T0 := tb2 (i := 32) (by decide +kernel) rfl
theorem lc_X9_357 : Cond.constant RX9 357 (-1000001) ∈ T0 := tb2 (i := 36) (by decide +kernel) rfl
theorem lk_X9_66 : Cond.methodLink RX9 66 yX2_areJoined ∈ T0 := tb2 (i := 37) (by decide +kernel) rfl
theorem ln_X2_15 : Cond.methodLinkNest RX2 15 yX9_has "ReleaseTerms" ∈ ca_nest := List.mem_of_getElem? (i := 8) (by decide +kernel)
theorem lk_X9_72 : Cond.methodLink RX9 72 yX2_join ∈ T0 := tb2 (i := 44) (by decide +kernel) rfl
theorem lk_L_18 : Cond.methodLink RL 18 yX9_roads ∈ T0 := tb2 (i := 48) (by decide +kernel) rfl
theorem lk_X9_76 : Cond.methodLink RX9 76 yX2_neighboursOf ∈ T0 := tb2 (i := 52) (by decide +kernel) rfl
theorem lk_L_23 : Cond.methodLink RL 23 yX9_far ∈ T0 := tb2 (i := 56) (by decide +kernel) rfl
theorem lk_X9_79 : Cond.methodLink RX9 79 yX2_fewestMoves ∈ T0 := tb2 (i := 60) (by decide +kernel) rfl
theorem lk_X2_19 : Cond.methodLink RX2 19 yX2_stepFrom ∈ T0 := tb2 (i := 64) (by decide +kernel) rfl
theorem lk_L_28 : Cond.methodLink RL 28 yX9_seen ∈ T0 := tb2 (i := 68) (by decide +kernel) rfl
theorem lk_X9_83 : Cond.methodLink RX9 83 yX9_isPerson ∈ T0 := tb2 (i := 72) (by decide +kernel) rfl
theorem lk_X9_86 : Cond.methodLink RX9 86 yX9_isWhen ∈ T0 := tb2 (i := 75) (by decide +kernel) rfl
theorem lk_X9_99 : Cond.methodLink RX9 99 yX9_dayOf ∈ T0 := tb2 (i := 78) (by decide +kernel) rfl
theorem lk_X9_102 : Cond.methodLink RX9 102 yX9_hourOf ∈ T0 := tb2 (i := 81) (by decide +kernel) rfl
theorem lk_X9_93 : Cond.methodLink RX9 93 yX5_hasRoom ∈ T0 := tb2 (i := 84) (by decide +kernel) rfl
theorem lk_X9_105 : Cond.methodLink RX9 105 yX5_add ∈ T0 := tb2 (i := 88) (by decide +kernel) rfl
theorem lk_L_33 : Cond.methodLink RL 33 yX9_seenOf ∈ T0 := tb2 (i := 92) (by decide +kernel) rfl
theorem lk_X9_109 : Cond.methodLink RX9 109 yX5_size ∈ T0 := tb2 (i := 96) (by decide +kernel) rfl
theorem lk_X9_113 : Cond.methodLink RX9 113 yX5_counts ∈ T0 := tb2 (i := 100) (by decide +kernel) rfl
theorem lk_X5_23 : Cond.methodLink RX5 23 yX5_field ∈ T0 := tb2 (i := 104) (by decide +kernel) rfl
theorem lk_X5_27 : Cond.methodLink RX5 27 yX5_latest ∈ T0 := tb2 (i := 108) (by decide +kernel) rfl
theorem lk_X5_19 : Cond.methodLink RX5 19 yX5_isOf ∈ T0 := tb2 (i := 112) (by decide +kernel) rfl
theorem lk_X9_116 : Cond.methodLink RX9 116 yX5_field ∈ T0 := tb2 (i := 116) (by decide +kernel) rfl
theorem lk_L_37 : Cond.methodLink RL 37 yX9_where ∈ T0 := tb2 (i := 117) (by decide +kernel) rfl
theorem lk_X9_119 : Cond.methodLink RX9 119 yX5_latest ∈ T0 := tb2 (i := 121) (by decide +kernel) rfl
theorem lk_L_41 : Cond.methodLink RL 41 yX9_could ∈ T0 := tb2 (i := 122) (by decide +kernel) rfl
theorem lk_X9_123 : Cond.methodLink RX9 123 yX9_placesOfWays ∈ T0 := tb2 (i := 126) (by decide +kernel) rfl
theorem lk_X9_330 : Cond.methodLink RX9 330 yX1_prepare ∈ T0 := tb2 (i := 130) (by decide +kernel) rfl
theorem lk_X1_43 : Cond.methodLink RX1 43 yX5_pin ∈ T0 := tb2 (i := 134) (by decide +kernel) rfl
theorem lk_X1_53 : Cond.methodLink RX1 53 yX2_stepFrom ∈ T0 := tb2 (i := 138) (by decide +kernel) rfl
theorem ln_X1_66 : Cond.methodLinkNest RX1 66 yX9_has "ReleaseTerms" ∈ ca_nest := List.mem_of_getElem? (i := 9) (by decide +kernel)
theorem lk_X1_70 : Cond.methodLink RX1 70 yX1_obey ∈ T0 := tb2 (i := 140) (by decide +kernel) rfl
theorem lk_X1_74 : Cond.methodLink RX1 74 yX0_badPlaces ∈ T0 := tb2 (i := 144) (by decide +kernel) rfl
theorem lk_X0_51 : Cond.methodLink RX0 51 yX7_field ∈ T0 := tb2 (i := 148) (by decide +kernel) rfl
theorem lk_X0_55 : Cond.methodLink RX0 55 yX2_neighboursOf ∈ T0 := tb2 (i := 152) (by decide +kernel) rfl
theorem lk_X1_81 : Cond.methodLink RX1 81 yX7_asked ∈ T0 := tb2 (i := 153) (by decide +kernel) rfl
theorem lf_X7_34 : Cond.fieldLink RX7 34 "ReleaseTerms$Terms" "ASKED" "[I" ∈ T0 := tb2 (i := 157) (by decide +kernel) rfl
theorem lk_X7_19 : Cond.methodLink RX7 19 yX7_field ∈ T0 := tb2 (i := 159) (by decide +kernel) rfl
theorem lk_X1_86 : Cond.methodLink RX1 86 yX7_field ∈ T0 := tb2 (i := 160) (by decide +kernel) rfl
theorem lk_X9_358 : Cond.methodLink RX9 358 yX1_exploreForth ∈ T0 := tb2 (i := 161) (by decide +kernel) rfl
theorem lk_X1_90 : Cond.methodLink RX1 90 yX1_row ∈ T0 := tb2 (i := 165) (by decide +kernel) rfl
theorem lk_X1_93 : Cond.methodLink RX1 93 yX1_arrive ∈ T0 := tb2 (i := 169) (by decide +kernel) rfl
theorem lk_X1_98 : Cond.methodLink RX1 98 yX1_pay ∈ T0 := tb2 (i := 173) (by decide +kernel) rfl
theorem lk_X1_97 : Cond.methodLink RX1 97 yX1_stepFrom ∈ T0 := tb2 (i := 177) (by decide +kernel) rfl
theorem lk_X9_184 : Cond.methodLink RX9 184 yX1_exploreBack ∈ T0 := tb2 (i := 181) (by decide +kernel) rfl
theorem lc_X1_102 : Cond.constantLong RX1 102 (-1) ∈ T0 := tb2 (i := 185) (by decide +kernel) rfl
theorem lk_X1_104 : Cond.methodLink RX1 104 yX1_setCost ∈ T0 := tb2 (i := 186) (by decide +kernel) rfl
theorem lc_X1_120 : Cond.constantLong RX1 120 (255) ∈ T0 := tb2 (i := 190) (by decide +kernel) rfl
theorem lk_X1_107 : Cond.methodLink RX1 107 yX1_weigh ∈ T0 := tb2 (i := 191) (by decide +kernel) rfl
theorem lk_X1_111 : Cond.methodLink RX1 111 yX1_lookAhead ∈ T0 := tb2 (i := 195) (by decide +kernel) rfl
theorem lk_X1_117 : Cond.methodLink RX1 117 yX1_cost ∈ T0 := tb2 (i := 199) (by decide +kernel) rfl
theorem lk_X1_114 : Cond.methodLink RX1 114 yX1_leastCost ∈ T0 := tb2 (i := 203) (by decide +kernel) rfl
theorem lk_X9_361 : Cond.methodLink RX9 361 yX1_placesIn ∈ T0 := tb2 (i := 207) (by decide +kernel) rfl
theorem lk_L_45 : Cond.methodLink RL 45 yX9_drift ∈ T0 := tb2 (i := 211) (by decide +kernel) rfl
theorem lk_X9_126 : Cond.methodLink RX9 126 yX9_isDay ∈ T0 := tb2 (i := 215) (by decide +kernel) rfl
theorem lk_X9_129 : Cond.methodLink RX9 129 yX0_draw ∈ T0 := tb2 (i := 218) (by decide +kernel) rfl
theorem lc_X0_50 : Cond.constant RX0 50 (1103515245) ∈ T0 := tb2 (i := 222) (by decide +kernel) rfl
theorem lk_L_49 : Cond.methodLink RL 49 yX9_term ∈ T0 := tb2 (i := 223) (by decide +kernel) rfl
theorem lk_X9_132 : Cond.methodLink RX9 132 yX7_isKind ∈ T0 := tb2 (i := 227) (by decide +kernel) rfl
theorem lk_X9_141 : Cond.methodLink RX9 141 yX7_hasRoomFor ∈ T0 := tb2 (i := 230) (by decide +kernel) rfl
theorem lk_X7_23 : Cond.methodLink RX7 23 yX7_howManyOf ∈ T0 := tb2 (i := 234) (by decide +kernel) rfl
theorem lk_X9_144 : Cond.methodLink RX9 144 yX7_add ∈ T0 := tb2 (i := 238) (by decide +kernel) rfl
theorem lk_X7_27 : Cond.methodLink RX7 27 yX7_setHours ∈ T0 := tb3 (i := 2) (by decide +kernel) rfl
theorem lk_X7_31 : Cond.methodLink RX7 31 yX7_setDays ∈ T0 := tb3 (i := 6) (by decide +kernel) rfl
theorem lk_L_53 : Cond.methodLink RL 53 yX9_termOf ∈ T0 := tb3 (i := 10) (by decide +kernel) rfl
theorem lk_X9_146 : Cond.methodLink RX9 146 yX7_isTerm ∈ T0 := tb3 (i := 14) (by decide +kernel) rfl
theorem lk_X9_149 : Cond.methodLink RX9 149 yX7_asked ∈ T0 := tb3 (i := 18) (by decide +kernel) rfl
theorem lk_X9_152 : Cond.methodLink RX9 152 yX7_field ∈ T0 := tb3 (i := 19) (by decide +kernel) rfl
theorem lk_L_57 : Cond.methodLink RL 57 yX9_span ∈ T0 := tb3 (i := 20) (by decide +kernel) rfl
theorem lk_X9_153 : Cond.methodLink RX9 153 yX7_setHours ∈ T0 := tb3 (i := 24) (by decide +kernel) rfl
theorem lk_X9_157 : Cond.methodLink RX9 157 yX7_setDays ∈ T0 := tb3 (i := 25) (by decide +kernel) rfl
theorem lk_L_62 : Cond.methodLink RL 62 yX9_turn ∈ T0 := tb3 (i := 26) (by decide +kernel) rfl
theorem lk_X9_160 : Cond.methodLink RX9 160 yX7_setKind ∈ T0 := tb3 (i := 30) (by decide +kernel) rfl
theorem lk_L_66 : Cond.methodLink RL 66 yX9_change ∈ T0 := tb3 (i := 34) (by decide +kernel) rfl
theorem lk_L_70 : Cond.methodLink RL 70 yX9_bad ∈ T0 := tb3 (i := 38) (by decide +kernel) rfl
theorem lk_X9_164 : Cond.methodLink RX9 164 yX0_badPlaces ∈ T0 := tb3 (i := 42) (by decide +kernel) rfl
theorem lk_L_74 : Cond.methodLink RL 74 yX9_inForce ∈ T0 := tb3 (i := 43) (by decide +kernel) rfl
theorem lk_X9_167 : Cond.methodLink RX9 167 yX7_binding ∈ T0 := tb3 (i := 47) (by decide +kernel) rfl
theorem lk_X7_40 : Cond.methodLink RX7 40 yX7_isBinding ∈ T0 := tb3 (i := 51) (by decide +kernel) rfl
theorem lk_L_78 : Cond.methodLink RL 78 yX9_kept ∈ T0 := tb3 (i := 55) (by decide +kernel) rfl
theorem lk_X9_170 : Cond.methodLink RX9 170 yX7_isBinding ∈ T0 := tb3 (i := 59) (by decide +kernel) rfl
theorem lk_X9_173 : Cond.methodLink RX9 173 yX8_verdict ∈ T0 := tb3 (i := 60) (by decide +kernel) rfl
theorem lk_X8_30 : Cond.methodLink RX8 30 yX7_field ∈ T0 := tb3 (i := 64) (by decide +kernel) rfl
theorem lk_X8_34 : Cond.methodLink RX8 34 yX5_pin ∈ T0 := tb3 (i := 65) (by decide +kernel) rfl
theorem lk_X8_40 : Cond.methodLink RX8 40 yX7_asked ∈ T0 := tb3 (i := 66) (by decide +kernel) rfl
theorem lk_X8_48 : Cond.methodLink RX8 48 yX8_goThrough ∈ T0 := tb3 (i := 67) (by decide +kernel) rfl
theorem lk_X8_52 : Cond.methodLink RX8 52 yX0_badPlaces ∈ T0 := tb3 (i := 71) (by decide +kernel) rfl
theorem lk_X8_59 : Cond.methodLink RX8 59 yX2_stepFrom ∈ T0 := tb3 (i := 72) (by decide +kernel) rfl
theorem lk_L_82 : Cond.methodLink RL 82 yX9_count ∈ T0 := tb3 (i := 73) (by decide +kernel) rfl
theorem lk_L_86 : Cond.methodLink RL 86 yX9_breach ∈ T0 := tb3 (i := 77) (by decide +kernel) rfl
theorem lk_X9_177 : Cond.methodLink RX9 177 yX9_isSomeTermBroken ∈ T0 := tb3 (i := 81) (by decide +kernel) rfl
theorem lk_X9_198 : Cond.methodLink RX9 198 yX9_has ∈ T0 := tb3 (i := 85) (by decide +kernel) rfl
theorem lk_L_90 : Cond.methodLink RL 90 yX9_way ∈ T0 := tb3 (i := 86) (by decide +kernel) rfl
theorem lk_X9_180 : Cond.methodLink RX9 180 yX9_isThereAWay ∈ T0 := tb3 (i := 90) (by decide +kernel) rfl
theorem lk_X9_364 : Cond.methodLink RX9 364 yX1_isThereOne ∈ T0 := tb3 (i := 94) (by decide +kernel) rfl
theorem lk_X9_191 : Cond.methodLink RX9 191 yX1_tellBest ∈ T0 := tb3 (i := 98) (by decide +kernel) rfl
theorem lk_X1_122 : Cond.methodLink RX1 122 yX1_bestNext ∈ T0 := tb3 (i := 102) (by decide +kernel) rfl
theorem lk_L_94 : Cond.methodLink RL 94 yX9_at ∈ T0 := tb3 (i := 106) (by decide +kernel) rfl
theorem lk_L_98 : Cond.methodLink RL 98 yX9_may ∈ T0 := tb3 (i := 110) (by decide +kernel) rfl
theorem lk_L_102 : Cond.methodLink RL 102 yX9_ways ∈ T0 := tb3 (i := 114) (by decide +kernel) rfl
theorem lk_X9_195 : Cond.methodLink RX9 195 yX1_howMany ∈ T0 := tb3 (i := 118) (by decide +kernel) rfl
theorem lk_X1_125 : Cond.methodLink RX1 125 yX1_clearNext ∈ T0 := tb3 (i := 122) (by decide +kernel) rfl
theorem lk_X1_129 : Cond.methodLink RX1 129 yX1_isAllowed ∈ T0 := tb3 (i := 126) (by decide +kernel) rfl
theorem lk_X1_132 : Cond.methodLink RX1 132 arraycopyName ∈ T0 := tb3 (i := 130) (by decide +kernel) rfl
theorem lk_X1_138 : Cond.methodLink RX1 138 yX1_leadOn ∈ T0 := tb3 (i := 133) (by decide +kernel) rfl
theorem lk_X1_147 : Cond.methodLink RX1 147 yX1_leadingTo ∈ T0 := tb3 (i := 137) (by decide +kernel) rfl
theorem lc_X1_141 : Cond.constant RX1 141 (1000000) ∈ T0 := tb3 (i := 141) (by decide +kernel) rfl
theorem lk_X1_142 : Cond.methodLink RX1 142 Lib.Math.min.name ∈ T0 := tb3 (i := 142) (by decide +kernel) rfl
theorem lk_L_106 : Cond.methodLink RL 106 yX9_bars ∈ T0 := tb3 (i := 145) (by decide +kernel) rfl
theorem lk_L_110 : Cond.methodLink RL 110 yX9_risk ∈ T0 := tb3 (i := 149) (by decide +kernel) rfl
theorem lk_X9_201 : Cond.methodLink RX9 201 yX9_areRiskBounds ∈ T0 := tb3 (i := 153) (by decide +kernel) rfl
theorem lk_X9_204 : Cond.methodLink RX9 204 yX9_riskAbove ∈ T0 := tb3 (i := 156) (by decide +kernel) rfl
theorem lk_X9_208 : Cond.methodLink RX9 208 yX9_power ∈ T0 := tb3 (i := 159) (by decide +kernel) rfl
theorem lk_X9_212 : Cond.methodLink RX9 212 yX9_commonDivisor ∈ T0 := tb3 (i := 162) (by decide +kernel) rfl
theorem lk_L_114 : Cond.methodLink RL 114 yX9_strict ∈ T0 := tb3 (i := 165) (by decide +kernel) rfl
theorem lc_X9_216 : Cond.constantLong RX9 216 (100) ∈ T0 := tb3 (i := 169) (by decide +kernel) rfl
theorem lk_L_118 : Cond.methodLink RL 118 yX9_surety ∈ T0 := tb3 (i := 170) (by decide +kernel) rfl
theorem lk_X9_218 : Cond.methodLink RX9 218 yX9_isSurety ∈ T0 := tb3 (i := 174) (by decide +kernel) rfl
theorem lk_X9_221 : Cond.methodLink RX9 221 yX9_isMoney ∈ T0 := tb3 (i := 177) (by decide +kernel) rfl
theorem lk_X9_228 : Cond.methodLink RX9 228 yX6_givenBy ∈ T0 := tb3 (i := 180) (by decide +kernel) rfl
theorem lk_X6_24 : Cond.methodLink RX6 24 yX6_givenOf ∈ T0 := tb3 (i := 184) (by decide +kernel) rfl
theorem lk_X9_233 : Cond.methodLink RX9 233 yX6_setUp ∈ T0 := tb3 (i := 188) (by decide +kernel) rfl
theorem lk_L_122 : Cond.methodLink RL 122 yX9_bail ∈ T0 := tb3 (i := 192) (by decide +kernel) rfl
theorem lk_X9_236 : Cond.methodLink RX9 236 yX6_givenFor ∈ T0 := tb3 (i := 196) (by decide +kernel) rfl
theorem lk_X9_239 : Cond.methodLink RX9 239 yX6_bailOf ∈ T0 := tb3 (i := 200) (by decide +kernel) rfl
theorem lk_X9_242 : Cond.methodLink RX9 242 yX6_setBail ∈ T0 := tb3 (i := 204) (by decide +kernel) rfl
theorem lk_L_126 : Cond.methodLink RL 126 yX9_call ∈ T0 := tb3 (i := 208) (by decide +kernel) rfl
theorem lk_X9_245 : Cond.methodLink RX9 245 yX6_takeBail ∈ T0 := tb3 (i := 212) (by decide +kernel) rfl
theorem ln_X6_28 : Cond.methodLinkNest RX6 28 yX9_has "ReleaseTerms" ∈ ca_nest := List.mem_of_getElem? (i := 10) (by decide +kernel)
theorem lk_X6_32 : Cond.methodLink RX6 32 Lib.Math.min.name ∈ T0 := tb3 (i := 217) (by decide +kernel) rfl
theorem lk_L_130 : Cond.methodLink RL 130 yX9_back ∈ T0 := tb3 (i := 218) (by decide +kernel) rfl
theorem lk_X9_248 : Cond.methodLink RX9 248 yX6_giveBack ∈ T0 := tb3 (i := 222) (by decide +kernel) rfl
theorem lk_L_134 : Cond.methodLink RL 134 yX9_suretyOf ∈ T0 := tb3 (i := 226) (by decide +kernel) rfl
theorem lk_X9_251 : Cond.methodLink RX9 251 yX6_roomOf ∈ T0 := tb3 (i := 230) (by decide +kernel) rfl
theorem lk_X9_254 : Cond.methodLink RX9 254 yX6_backedBy ∈ T0 := tb3 (i := 234) (by decide +kernel) rfl
theorem lk_X9_257 : Cond.methodLink RX9 257 yX6_givenOf ∈ T0 := tb3 (i := 238) (by decide +kernel) rfl
theorem lk_L_138 : Cond.methodLink RL 138 yX9_hearing ∈ T0 := tb3 (i := 239) (by decide +kernel) rfl
theorem lk_X9_260 : Cond.methodLink RX9 260 yX0_hearingsOfOthers ∈ T0 := tb4 (i := 3) (by decide +kernel) rfl
theorem lk_L_142 : Cond.methodLink RL 142 yX9_heard ∈ T0 := tb4 (i := 7) (by decide +kernel) rfl
theorem lk_L_146 : Cond.methodLink RL 146 yX9_seed ∈ T0 := tb4 (i := 11) (by decide +kernel) rfl
theorem lk_L_150 : Cond.methodLink RL 150 yX9_feed ∈ T0 := tb4 (i := 15) (by decide +kernel) rfl
theorem lk_X9_270 : Cond.methodLink RX9 270 yX3_room ∈ T0 := tb4 (i := 19) (by decide +kernel) rfl
theorem lk_X9_273 : Cond.methodLink RX9 273 yX3_put ∈ T0 := tb4 (i := 23) (by decide +kernel) rfl
theorem lk_X9_277 : Cond.methodLink RX9 277 yX3_size ∈ T0 := tb4 (i := 27) (by decide +kernel) rfl
theorem lk_L_154 : Cond.methodLink RL 154 yX9_wipe ∈ T0 := tb4 (i := 31) (by decide +kernel) rfl
theorem lk_X9_278 : Cond.methodLink RX9 278 yX3_clear ∈ T0 := tb4 (i := 35) (by decide +kernel) rfl
theorem lk_L_159 : Cond.methodLink RL 159 yX9_text ∈ T0 := tb4 (i := 39) (by decide +kernel) rfl
theorem lk_X9_281 : Cond.methodLink RX9 281 yX3_findFault ∈ T0 := tb4 (i := 43) (by decide +kernel) rfl
theorem lk_X3_28 : Cond.methodLink RX3 28 yX7_size ∈ T0 := tb4 (i := 47) (by decide +kernel) rfl
theorem lk_X3_36 : Cond.methodLink RX3 36 yX7_howManyOf ∈ T0 := tb4 (i := 51) (by decide +kernel) rfl
theorem lk_X3_46 : Cond.methodLink RX3 46 yX3_advance ∈ T0 := tb4 (i := 52) (by decide +kernel) rfl
theorem lk_X3_126 : Cond.methodLink RX3 126 yX3_sortAt ∈ T0 := tb4 (i := 56) (by decide +kernel) rfl
theorem lk_X3_129 : Cond.methodLink RX3 129 Lib.Math.min.name ∈ T0 := tb4 (i := 60) (by decide +kernel) rfl
theorem lk_X3_49 : Cond.methodLink RX3 49 yX3_readItem ∈ T0 := tb4 (i := 61) (by decide +kernel) rfl
theorem lk_X3_60 : Cond.methodLink RX3 60 yX3_takeWord ∈ T0 := tb4 (i := 66) (by decide +kernel) rfl
theorem lk_X3_97 : Cond.methodLink RX3 97 yX3_isTokenText ∈ T0 := tb4 (i := 70) (by decide +kernel) rfl
theorem lk_X3_117 : Cond.methodLink RX3 117 yJ0_length_8abf5 ∈ T0 := tb4 (i := 74) (by decide +kernel) rfl
theorem lk_J0_335 : Cond.methodLink RJ0 335 yJ0_coder_7d493 ∈ T0 := tb4 (i := 78) (by decide +kernel) rfl
theorem lf_J0_38 : Cond.fieldLink RJ0 38 "java/lang/String" "COMPACT_STRINGS" "Z" ∈ T0 := tb4 (i := 82) (by decide +kernel) rfl
theorem lk_X3_122 : Cond.methodLink RX3 122 yJ0_charAt_5068e ∈ T0 := tb4 (i := 84) (by decide +kernel) rfl
theorem lk_J0_492 : Cond.methodLink RJ0 492 yJ0_isLatin1_aae02 ∈ T0 := tb4 (i := 88) (by decide +kernel) rfl
theorem lk_J0_495 : Cond.methodLink RJ0 495 yJ1_charAt_3b067 ∈ T0 := tb4 (i := 92) (by decide +kernel) rfl
theorem lk_J1_9 : Cond.methodLink RJ1 9 yJ0_checkIndex_df160 ∈ T0 := tb4 (i := 95) (by decide +kernel) rfl
theorem lf_J0_1053 : Cond.fieldLink RJ0 1053 "jdk/internal/util/Preconditions" "SIOOBE_FORMATTER" "Ljava/util/function/BiFunction;" ∈ T0 := tb4 (i := 98) (by decide +kernel) rfl
theorem lk_J0_1059 : Cond.methodLink RJ0 1059 yJ3_checkIndex_8e157 ∈ T0 := tb4 (i := 100) (by decide +kernel) rfl
theorem lk_J0_498 : Cond.methodLink RJ0 498 yJ2_charAt_3b067 ∈ T0 := tb4 (i := 103) (by decide +kernel) rfl
theorem lk_J2_67 : Cond.methodLink RJ2 67 yJ2_checkIndex_2214a ∈ T0 := tb4 (i := 106) (by decide +kernel) rfl
theorem lk_J2_48 : Cond.methodLink RJ2 48 yJ2_length_9d52b ∈ T0 := tb4 (i := 109) (by decide +kernel) rfl
theorem lk_J2_414 : Cond.methodLink RJ2 414 yJ0_checkIndex_df160 ∈ T0 := tb4 (i := 112) (by decide +kernel) rfl
theorem lk_J2_71 : Cond.methodLink RJ2 71 yJ2_getChar_3b067 ∈ T0 := tb4 (i := 113) (by decide +kernel) rfl
theorem lf_J2_44 : Cond.fieldLink RJ2 44 "java/lang/StringUTF16" "$assertionsDisabled" "Z" ∈ T0 := tb4 (i := 116) (by decide +kernel) rfl
theorem lf_J2_59 : Cond.fieldLink RJ2 59 "java/lang/StringUTF16" "HI_BYTE_SHIFT" "I" ∈ T0 := tb4 (i := 118) (by decide +kernel) rfl
theorem lf_J2_63 : Cond.fieldLink RJ2 63 "java/lang/StringUTF16" "LO_BYTE_SHIFT" "I" ∈ T0 := tb4 (i := 120) (by decide +kernel) rfl
theorem lk_X3_64 : Cond.methodLink RX3 64 yX3_takeNumber ∈ T0 := tb4 (i := 122) (by decide +kernel) rfl
theorem lk_X3_55 : Cond.methodLink RX3 55 yX3_refuse ∈ T0 := tb4 (i := 126) (by decide +kernel) rfl
theorem lk_X3_71 : Cond.methodLink RX3 71 yX3_setDown ∈ T0 := tb4 (i := 130) (by decide +kernel) rfl
theorem lk_X3_77 : Cond.methodLink RX3 77 yX3_readTerm ∈ T0 := tb4 (i := 135) (by decide +kernel) rfl
theorem lk_X3_80 : Cond.methodLink RX3 80 yX3_kindOfWord ∈ T0 := tb4 (i := 139) (by decide +kernel) rfl
theorem lk_X3_93 : Cond.methodLink RX3 93 yX3_kindText ∈ T0 := tb4 (i := 143) (by decide +kernel) rfl
theorem ln_X3_83 : Cond.methodLinkNest RX3 83 yX9_isPerson "ReleaseTerms" ∈ ca_nest := List.mem_of_getElem? (i := 11) (by decide +kernel)
theorem lk_X9_285 : Cond.methodLink RX9 285 yX3_itemCount ∈ T0 := tb4 (i := 157) (by decide +kernel) rfl
theorem lk_X9_288 : Cond.methodLink RX9 288 yX9_carryOut ∈ T0 := tb4 (i := 161) (by decide +kernel) rfl
theorem lk_X9_367 : Cond.methodLink RX9 367 yX3_item ∈ T0 := tb4 (i := 165) (by decide +kernel) rfl
theorem lk_X9_370 : Cond.methodLink RX9 370 yX9_addTermOf ∈ T0 := tb4 (i := 169) (by decide +kernel) rfl
theorem lk_L_163 : Cond.methodLink RL 163 yX9_hold ∈ T0 := tb4 (i := 174) (by decide +kernel) rfl
theorem lk_X9_291 : Cond.methodLink RX9 291 yX9_isSpot ∈ T0 := tb4 (i := 178) (by decide +kernel) rfl
theorem lk_L_167 : Cond.methodLink RL 167 yX9_as ∈ T0 := tb4 (i := 181) (by decide +kernel) rfl
theorem lk_X9_297 : Cond.methodLink RX9 297 yX7_isOfKind ∈ T0 := tb4 (i := 185) (by decide +kernel) rfl
theorem lf_X7_37 : Cond.fieldLink RX7 37 "ReleaseTerms$Terms" "ABOVE" "[I" ∈ T0 := tb4 (i := 189) (by decide +kernel) rfl
theorem lk_L_171 : Cond.methodLink RL 171 yX9_sheet ∈ T0 := tb4 (i := 191) (by decide +kernel) rfl
theorem lk_X9_300 : Cond.methodLink RX9 300 yX4_isSheet ∈ T0 := tb4 (i := 195) (by decide +kernel) rfl
theorem lk_X9_303 : Cond.methodLink RX9 303 yX4_areBits ∈ T0 := tb4 (i := 198) (by decide +kernel) rfl
theorem lk_X9_306 : Cond.methodLink RX9 306 yX4_lay ∈ T0 := tb4 (i := 201) (by decide +kernel) rfl
theorem lk_X9_309 : Cond.methodLink RX9 309 yX4_size ∈ T0 := tb4 (i := 205) (by decide +kernel) rfl
theorem lk_L_175 : Cond.methodLink RL 175 yX9_write ∈ T0 := tb4 (i := 209) (by decide +kernel) rfl
theorem lk_X9_311 : Cond.methodLink RX9 311 yX4_isMissing ∈ T0 := tb4 (i := 213) (by decide +kernel) rfl
theorem lk_X9_314 : Cond.methodLink RX9 314 yX4_set ∈ T0 := tb4 (i := 217) (by decide +kernel) rfl
theorem lk_L_179 : Cond.methodLink RL 179 yX9_copy ∈ T0 := tb4 (i := 221) (by decide +kernel) rfl
theorem lk_X9_317 : Cond.methodLink RX9 317 yX4_bitsOf ∈ T0 := tb4 (i := 225) (by decide +kernel) rfl
theorem lk_X9_320 : Cond.methodLink RX9 320 yX4_hasPart ∈ T0 := tb4 (i := 229) (by decide +kernel) rfl
theorem lk_X9_323 : Cond.methodLink RX9 323 yX4_move ∈ T0 := tb4 (i := 233) (by decide +kernel) rfl
theorem lk_X4_19 : Cond.methodLink RX4 19 arraycopyName ∈ T0 := tb4 (i := 237) (by decide +kernel) rfl
theorem lk_L_184 : Cond.methodLink RL 184 yX9_load ∈ T0 := tb4 (i := 238) (by decide +kernel) rfl
theorem lk_X9_327 : Cond.methodLink RX9 327 yX4_get ∈ T0 := tb5 (i := 2) (by decide +kernel) rfl
theorem lk_L_188 : Cond.methodLink RL 188 yX9_judge ∈ T0 := tb5 (i := 6) (by decide +kernel) rfl
theorem lk_X9_334 : Cond.methodLink RX9 334 yX9_firstWrongNumber ∈ T0 := tb5 (i := 10) (by decide +kernel) rfl
theorem lk_X9_373 : Cond.methodLink RX9 373 yX1_isAllowed ∈ T0 := tb5 (i := 14) (by decide +kernel) rfl
theorem lk_X9_337 : Cond.methodLink RX9 337 yX9_leastTermTooSeldom ∈ T0 := tb5 (i := 15) (by decide +kernel) rfl
theorem lk_X9_376 : Cond.methodLink RX9 376 yX9_timesThere ∈ T0 := tb5 (i := 19) (by decide +kernel) rfl
theorem lk_L_192 : Cond.methodLink RL 192 yX9_image ∈ T0 := tb5 (i := 23) (by decide +kernel) rfl
theorem lk_X9_340 : Cond.methodLink RX9 340 yX0_takeFrom ∈ T0 := tb5 (i := 27) (by decide +kernel) rfl
theorem lk_X0_59 : Cond.methodLink RX0 59 yX2_takeFrom ∈ T0 := tb5 (i := 31) (by decide +kernel) rfl
theorem lk_X2_28 : Cond.methodLink RX2 28 arraycopyName ∈ T0 := tb5 (i := 35) (by decide +kernel) rfl
theorem lk_X0_63 : Cond.methodLink RX0 63 yX5_takeFrom ∈ T0 := tb5 (i := 36) (by decide +kernel) rfl
theorem lk_X5_31 : Cond.methodLink RX5 31 arraycopyName ∈ T0 := tb5 (i := 40) (by decide +kernel) rfl
theorem lk_X0_66 : Cond.methodLink RX0 66 yX7_takeFrom ∈ T0 := tb5 (i := 41) (by decide +kernel) rfl
theorem lk_X7_44 : Cond.methodLink RX7 44 arraycopyName ∈ T0 := tb5 (i := 45) (by decide +kernel) rfl
theorem lk_X0_69 : Cond.methodLink RX0 69 yX6_takeFrom ∈ T0 := tb5 (i := 46) (by decide +kernel) rfl
theorem lk_X6_37 : Cond.methodLink RX6 37 arraycopyName ∈ T0 := tb5 (i := 50) (by decide +kernel) rfl
theorem lk_X0_72 : Cond.methodLink RX0 72 arraycopyName ∈ T0 := tb5 (i := 51) (by decide +kernel) rfl
theorem lk_L_196 : Cond.methodLink RL 196 yX9_undo ∈ T0 := tb5 (i := 52) (by decide +kernel) rfl
theorem lk_X9_347 : Cond.methodLink RX9 347 yX7_size ∈ T0 := tb5 (i := 56) (by decide +kernel) rfl
theorem lk_L_200 : Cond.methodLink RL 200 yX9_tear ∈ T0 := tb5 (i := 57) (by decide +kernel) rfl
theorem lk_L_204 : Cond.methodLink RL 204 yX9_many ∈ T0 := tb5 (i := 61) (by decide +kernel) rfl
theorem lk_X9_348 : Cond.methodLink RX9 348 yX2_roadCount ∈ T0 := tb5 (i := 65) (by decide +kernel) rfl
theorem lk_X2_23 : Cond.methodLink RX2 23 yJ6_bitCount_0f7a4 ∈ T0 := tb5 (i := 69) (by decide +kernel) rfl
theorem lc_J6_265 : Cond.constant RJ6 265 (1431655765) ∈ T0 := tb5 (i := 72) (by decide +kernel) rfl
theorem lc_J6_266 : Cond.constant RJ6 266 (858993459) ∈ T0 := tb5 (i := 73) (by decide +kernel) rfl
theorem lc_J6_267 : Cond.constant RJ6 267 (252645135) ∈ T0 := tb5 (i := 74) (by decide +kernel) rfl
theorem lk_X9_351 : Cond.methodLink RX9 351 yX0_hearingCount ∈ T0 := tb5 (i := 75) (by decide +kernel) rfl
theorem lk_X9_354 : Cond.methodLink RX9 354 yX6_roomOfAll ∈ T0 := tb5 (i := 79) (by decide +kernel) rfl
theorem lk_L_208 : Cond.methodLink RL 208 yX9_status ∈ T0 := tb5 (i := 83) (by decide +kernel) rfl
theorem lk_L_12 : Cond.methodLink RL 12 yX10_init ∈ T0 := tb5 (i := 89) (by decide +kernel) rfl
theorem lk_X10_1 : Cond.methodLink RX10 1 objectInit ∈ T0 := tb5 (i := 92) (by decide +kernel) rfl
theorem lf_X10_7 : Cond.fieldLink RX10 7 "ReleaseTermsModel" "s" "[I" ∈ T0 := tb5 (i := 93) (by decide +kernel) rfl
theorem lf_X10_13 : Cond.fieldLink RX10 13 "ReleaseTermsModel" "keptS" "[I" ∈ T0 := tb5 (i := 94) (by decide +kernel) rfl
theorem lf_X10_16 : Cond.fieldLink RX10 16 "ReleaseTermsModel" "other" "[I" ∈ T0 := tb5 (i := 95) (by decide +kernel) rfl
theorem lf_X10_19 : Cond.fieldLink RX10 19 "ReleaseTermsModel" "statuses" "[I" ∈ T0 := tb5 (i := 96) (by decide +kernel) rfl
theorem lf_X10_323 : Cond.fieldLink RX10 323 "ReleaseTermsModel" "isKept" "Z" ∈ T0 := tb5 (i := 97) (by decide +kernel) rfl
theorem lf_X10_22 : Cond.fieldLink RX10 22 "ReleaseTermsModel" "sight" "[I" ∈ T0 := tb5 (i := 98) (by decide +kernel) rfl
theorem lf_X10_25 : Cond.fieldLink RX10 25 "ReleaseTermsModel" "bound" "[I" ∈ T0 := tb5 (i := 99) (by decide +kernel) rfl
theorem lf_X10_28 : Cond.fieldLink RX10 28 "ReleaseTermsModel" "radix" "[I" ∈ T0 := tb5 (i := 100) (by decide +kernel) rfl
theorem lf_X10_31 : Cond.fieldLink RX10 31 "ReleaseTermsModel" "mult" "[I" ∈ T0 := tb5 (i := 101) (by decide +kernel) rfl
theorem lf_X10_175 : Cond.fieldLink RX10 175 "ReleaseTermsModel" "boundMany" "I" ∈ T0 := tb5 (i := 102) (by decide +kernel) rfl
theorem lf_X10_179 : Cond.fieldLink RX10 179 "ReleaseTermsModel" "codes" "I" ∈ T0 := tb5 (i := 103) (by decide +kernel) rfl
theorem lf_X10_182 : Cond.fieldLink RX10 182 "ReleaseTermsModel" "firstCode" "I" ∈ T0 := tb5 (i := 104) (by decide +kernel) rfl
theorem lf_X10_34 : Cond.fieldLink RX10 34 "ReleaseTermsModel" "now" "[I" ∈ T0 := tb5 (i := 105) (by decide +kernel) rfl
theorem lf_X10_37 : Cond.fieldLink RX10 37 "ReleaseTermsModel" "behind" "[I" ∈ T0 := tb5 (i := 106) (by decide +kernel) rfl
theorem lf_X10_40 : Cond.fieldLink RX10 40 "ReleaseTermsModel" "way" "[I" ∈ T0 := tb5 (i := 107) (by decide +kernel) rfl
theorem lf_X10_203 : Cond.fieldLink RX10 203 "ReleaseTermsModel" "isTold" "Z" ∈ T0 := tb5 (i := 108) (by decide +kernel) rfl
theorem lf_X10_43 : Cond.fieldLink RX10 43 "ReleaseTermsModel" "come" "[Z" ∈ T0 := tb5 (i := 109) (by decide +kernel) rfl
theorem lf_X10_47 : Cond.fieldLink RX10 47 "ReleaseTermsModel" "went" "[Z" ∈ T0 := tb5 (i := 110) (by decide +kernel) rfl
theorem lf_X10_50 : Cond.fieldLink RX10 50 "ReleaseTermsModel" "chances" "[I" ∈ T0 := tb5 (i := 111) (by decide +kernel) rfl
theorem lf_X10_53 : Cond.fieldLink RX10 53 "ReleaseTermsModel" "tape" "[I" ∈ T0 := tb5 (i := 112) (by decide +kernel) rfl
theorem lf_X10_235 : Cond.fieldLink RX10 235 "ReleaseTermsModel" "taped" "I" ∈ T0 := tb5 (i := 113) (by decide +kernel) rfl
theorem lf_X10_249 : Cond.fieldLink RX10 249 "ReleaseTermsModel" "from" "I" ∈ T0 := tb5 (i := 114) (by decide +kernel) rfl
theorem lf_X10_246 : Cond.fieldLink RX10 246 "ReleaseTermsModel" "to" "I" ∈ T0 := tb5 (i := 115) (by decide +kernel) rfl
theorem lf_X10_270 : Cond.fieldLink RX10 270 "ReleaseTermsModel" "value" "I" ∈ T0 := tb5 (i := 116) (by decide +kernel) rfl
theorem lf_X10_261 : Cond.fieldLink RX10 261 "ReleaseTermsModel" "isWrong" "Z" ∈ T0 := tb5 (i := 117) (by decide +kernel) rfl
theorem lf_X10_56 : Cond.fieldLink RX10 56 "ReleaseTermsModel" "bitsOf" "[I" ∈ T0 := tb5 (i := 118) (by decide +kernel) rfl
theorem lf_X10_59 : Cond.fieldLink RX10 59 "ReleaseTermsModel" "sizeOf" "[I" ∈ T0 := tb5 (i := 119) (by decide +kernel) rfl
theorem lf_X10_62 : Cond.fieldLink RX10 62 "ReleaseTermsModel" "number" "[I" ∈ T0 := tb5 (i := 120) (by decide +kernel) rfl
theorem lf_X10_65 : Cond.fieldLink RX10 65 "ReleaseTermsModel" "moved" "[I" ∈ T0 := tb5 (i := 121) (by decide +kernel) rfl
theorem lk_L_17 : Cond.methodLink RL 17 yX10_road ∈ T0 := tb5 (i := 182) (by decide +kernel) rfl
theorem lk_X10_82 : Cond.methodLink RX10 82 yX10_isPlace ∈ T0 := tb5 (i := 186) (by decide +kernel) rfl
theorem lc_X10_75 : Cond.constantLong RX10 75 (7) ∈ T0 := tb5 (i := 189) (by decide +kernel) rfl
theorem lk_X10_71 : Cond.methodLink RX10 71 yX10_in ∈ T0 := tb5 (i := 190) (by decide +kernel) rfl
theorem lc_X10_68 : Cond.constant RX10 68 (-1000001) ∈ T0 := tb5 (i := 193) (by decide +kernel) rfl
theorem lk_X10_86 : Cond.methodLink RX10 86 yX10_finds ∈ T0 := tb5 (i := 194) (by decide +kernel) rfl
theorem lk_L_22 : Cond.methodLink RL 22 yX10_roads ∈ T0 := tb5 (i := 198) (by decide +kernel) rfl
theorem lk_L_27 : Cond.methodLink RL 27 yX10_far ∈ T0 := tb5 (i := 202) (by decide +kernel) rfl
theorem lk_X10_90 : Cond.methodLink RX10 90 yX10_has ∈ T0 := tb5 (i := 206) (by decide +kernel) rfl
theorem lk_X10_94 : Cond.methodLink RX10 94 yX10_further ∈ T0 := tb5 (i := 209) (by decide +kernel) rfl
theorem lc_X10_97 : Cond.constant RX10 97 (-1000004) ∈ T0 := tb5 (i := 213) (by decide +kernel) rfl
theorem lk_L_32 : Cond.methodLink RL 32 yX10_seen ∈ T0 := tb5 (i := 214) (by decide +kernel) rfl
theorem lk_X10_98 : Cond.methodLink RX10 98 yX10_isPerson ∈ T0 := tb5 (i := 218) (by decide +kernel) rfl
theorem lc_X10_69 : Cond.constantLong RX10 69 (5) ∈ T0 := tb5 (i := 221) (by decide +kernel) rfl
theorem lk_X10_101 : Cond.methodLink RX10 101 yX10_isWhen ∈ T0 := tb5 (i := 222) (by decide +kernel) rfl
theorem lc_X10_79 : Cond.constantLong RX10 79 (2923) ∈ T0 := tb5 (i := 225) (by decide +kernel) rfl
theorem lc_X10_104 : Cond.constant RX10 104 (-1000002) ∈ T0 := tb5 (i := 226) (by decide +kernel) rfl
theorem lk_X10_105 : Cond.methodLink RX10 105 yX10_sees ∈ T0 := tb5 (i := 227) (by decide +kernel) rfl
theorem lk_L_36 : Cond.methodLink RL 36 yX10_seenOf ∈ T0 := tb5 (i := 231) (by decide +kernel) rfl
theorem lc_X10_109 : Cond.constantLong RX10 109 (4) ∈ T0 := tb5 (i := 235) (by decide +kernel) rfl
theorem lk_X10_111 : Cond.methodLink RX10 111 yX10_latest ∈ T0 := tb5 (i := 236) (by decide +kernel) rfl
theorem lk_L_40 : Cond.methodLink RL 40 yX10_where ∈ T0 := tb6 (i := 0) (by decide +kernel) rfl
theorem lk_L_44 : Cond.methodLink RL 44 yX10_could ∈ T0 := tb6 (i := 4) (by decide +kernel) rfl
theorem lk_X10_115 : Cond.methodLink RX10 115 yX10_looks ∈ T0 := tb6 (i := 8) (by decide +kernel) rfl
theorem lk_X10_119 : Cond.methodLink RX10 119 yX10_open ∈ T0 := tb6 (i := 12) (by decide +kernel) rfl
theorem lk_L_48 : Cond.methodLink RL 48 yX10_drift ∈ T0 := tb6 (i := 16) (by decide +kernel) rfl
theorem lk_X10_122 : Cond.methodLink RX10 122 yX10_isDay ∈ T0 := tb6 (i := 20) (by decide +kernel) rfl
theorem lc_X10_77 : Cond.constantLong RX10 77 (29) ∈ T0 := tb6 (i := 23) (by decide +kernel) rfl
theorem lc_X10_125 : Cond.constantLong RX10 125 (20) ∈ T0 := tb6 (i := 24) (by decide +kernel) rfl
theorem lk_X10_127 : Cond.methodLink RX10 127 yX10_next ∈ T0 := tb6 (i := 25) (by decide +kernel) rfl
theorem lc_X10_81 : Cond.constant RX10 81 (1103515245) ∈ T0 := tb6 (i := 29) (by decide +kernel) rfl
theorem lk_L_52 : Cond.methodLink RL 52 yX10_term ∈ T0 := tb6 (i := 30) (by decide +kernel) rfl
theorem lc_X10_137 : Cond.constantLong RX10 137 (6) ∈ T0 := tb6 (i := 34) (by decide +kernel) rfl
theorem lk_X10_139 : Cond.methodLink RX10 139 yX10_isRoomFor ∈ T0 := tb6 (i := 35) (by decide +kernel) rfl
theorem lk_X10_134 : Cond.methodLink RX10 134 yX10_termsOf ∈ T0 := tb6 (i := 39) (by decide +kernel) rfl
theorem lk_X10_131 : Cond.methodLink RX10 131 yX10_of ∈ T0 := tb6 (i := 43) (by decide +kernel) rfl
theorem lk_X10_142 : Cond.methodLink RX10 142 yX10_newTerm ∈ T0 := tb6 (i := 47) (by decide +kernel) rfl
theorem lk_L_56 : Cond.methodLink RL 56 yX10_termOf ∈ T0 := tb6 (i := 51) (by decide +kernel) rfl
theorem lk_X10_145 : Cond.methodLink RX10 145 yX10_isTerm ∈ T0 := tb6 (i := 55) (by decide +kernel) rfl
theorem lk_X10_148 : Cond.methodLink RX10 148 yX10_asked ∈ T0 := tb6 (i := 59) (by decide +kernel) rfl
theorem lk_L_61 : Cond.methodLink RL 61 yX10_span ∈ T0 := tb6 (i := 63) (by decide +kernel) rfl
theorem lc_X10_151 : Cond.constantLong RX10 151 (23) ∈ T0 := tb6 (i := 67) (by decide +kernel) rfl
theorem lk_L_65 : Cond.methodLink RL 65 yX10_turn ∈ T0 := tb6 (i := 68) (by decide +kernel) rfl
theorem lk_L_69 : Cond.methodLink RL 69 yX10_change ∈ T0 := tb6 (i := 72) (by decide +kernel) rfl
theorem lc_X10_153 : Cond.constant RX10 153 (-1000005) ∈ T0 := tb6 (i := 76) (by decide +kernel) rfl
theorem lk_L_73 : Cond.methodLink RL 73 yX10_bad ∈ T0 := tb6 (i := 77) (by decide +kernel) rfl
theorem lk_X10_154 : Cond.methodLink RX10 154 yX10_badOf ∈ T0 := tb6 (i := 81) (by decide +kernel) rfl
theorem lk_L_77 : Cond.methodLink RL 77 yX10_inForce ∈ T0 := tb6 (i := 85) (by decide +kernel) rfl
theorem lk_X10_160 : Cond.methodLink RX10 160 yX10_inForceOf ∈ T0 := tb6 (i := 89) (by decide +kernel) rfl
theorem lk_X10_157 : Cond.methodLink RX10 157 yX10_isInForce ∈ T0 := tb6 (i := 93) (by decide +kernel) rfl
theorem lk_L_81 : Cond.methodLink RL 81 yX10_kept ∈ T0 := tb6 (i := 97) (by decide +kernel) rfl
theorem lk_X10_170 : Cond.methodLink RX10 170 yX10_keptOf ∈ T0 := tb6 (i := 101) (by decide +kernel) rfl
theorem lk_X10_163 : Cond.methodLink RX10 163 yX10_comes ∈ T0 := tb6 (i := 105) (by decide +kernel) rfl
theorem lk_X10_167 : Cond.methodLink RX10 167 yX10_isAt ∈ T0 := tb6 (i := 109) (by decide +kernel) rfl
theorem lk_L_85 : Cond.methodLink RL 85 yX10_count ∈ T0 := tb6 (i := 113) (by decide +kernel) rfl
theorem lc_X10_173 : Cond.constantLong RX10 173 (3) ∈ T0 := tb6 (i := 117) (by decide +kernel) rfl
theorem lk_L_89 : Cond.methodLink RL 89 yX10_breach ∈ T0 := tb6 (i := 118) (by decide +kernel) rfl
theorem lk_L_93 : Cond.methodLink RL 93 yX10_way ∈ T0 := tb6 (i := 122) (by decide +kernel) rfl
theorem lk_X10_196 : Cond.methodLink RX10 196 yX10_binds ∈ T0 := tb6 (i := 126) (by decide +kernel) rfl
theorem lk_X10_200 : Cond.methodLink RX10 200 yX10_fewest ∈ T0 := tb6 (i := 130) (by decide +kernel) rfl
theorem lk_X10_192 : Cond.methodLink RX10 192 yX10_backTo ∈ T0 := tb6 (i := 134) (by decide +kernel) rfl
theorem lk_X10_185 : Cond.methodLink RX10 185 yX10_lawful ∈ T0 := tb6 (i := 138) (by decide +kernel) rfl
theorem lk_X10_188 : Cond.methodLink RX10 188 yX10_after ∈ T0 := tb6 (i := 142) (by decide +kernel) rfl
theorem lc_X10_191 : Cond.constant RX10 191 (1000000) ∈ T0 := tb6 (i := 146) (by decide +kernel) rfl
theorem lk_L_97 : Cond.methodLink RL 97 yX10_at ∈ T0 := tb6 (i := 147) (by decide +kernel) rfl
theorem lk_L_101 : Cond.methodLink RL 101 yX10_may ∈ T0 := tb6 (i := 151) (by decide +kernel) rfl
theorem lk_L_105 : Cond.methodLink RL 105 yX10_ways ∈ T0 := tb6 (i := 155) (by decide +kernel) rfl
theorem lk_L_109 : Cond.methodLink RL 109 yX10_bars ∈ T0 := tb6 (i := 159) (by decide +kernel) rfl
theorem lk_L_113 : Cond.methodLink RL 113 yX10_risk ∈ T0 := tb6 (i := 163) (by decide +kernel) rfl
theorem lc_X10_207 : Cond.constantLong RX10 207 (10) ∈ T0 := tb6 (i := 167) (by decide +kernel) rfl
theorem lc_X10_209 : Cond.constantLong RX10 209 (9) ∈ T0 := tb6 (i := 168) (by decide +kernel) rfl
theorem lk_X10_211 : Cond.methodLink RX10 211 yX10_risks ∈ T0 := tb6 (i := 169) (by decide +kernel) rfl
theorem lk_X10_214 : Cond.methodLink RX10 214 yX10_tens ∈ T0 := tb6 (i := 173) (by decide +kernel) rfl
theorem lk_L_117 : Cond.methodLink RL 117 yX10_strict ∈ T0 := tb6 (i := 176) (by decide +kernel) rfl
theorem lc_X10_217 : Cond.constantLong RX10 217 (100) ∈ T0 := tb6 (i := 180) (by decide +kernel) rfl
theorem lk_L_121 : Cond.methodLink RL 121 yX10_surety ∈ T0 := tb6 (i := 181) (by decide +kernel) rfl
theorem lc_X10_222 : Cond.constantLong RX10 222 (9999) ∈ T0 := tb6 (i := 185) (by decide +kernel) rfl
theorem lc_X10_224 : Cond.constantLong RX10 224 (63) ∈ T0 := tb6 (i := 186) (by decide +kernel) rfl
theorem lk_X10_226 : Cond.methodLink RX10 226 yX10_givenBy ∈ T0 := tb6 (i := 187) (by decide +kernel) rfl
theorem lk_X10_219 : Cond.methodLink RX10 219 yX10_given ∈ T0 := tb6 (i := 191) (by decide +kernel) rfl
theorem lk_L_125 : Cond.methodLink RL 125 yX10_bail ∈ T0 := tb6 (i := 195) (by decide +kernel) rfl
theorem lk_X10_229 : Cond.methodLink RX10 229 yX10_givenFor ∈ T0 := tb6 (i := 199) (by decide +kernel) rfl
theorem lk_L_129 : Cond.methodLink RL 129 yX10_call ∈ T0 := tb6 (i := 203) (by decide +kernel) rfl
theorem lk_L_133 : Cond.methodLink RL 133 yX10_back ∈ T0 := tb6 (i := 207) (by decide +kernel) rfl
theorem lk_L_137 : Cond.methodLink RL 137 yX10_suretyOf ∈ T0 := tb6 (i := 211) (by decide +kernel) rfl
theorem lk_L_141 : Cond.methodLink RL 141 yX10_hearing ∈ T0 := tb6 (i := 215) (by decide +kernel) rfl
theorem lk_X10_232 : Cond.methodLink RX10 232 yX10_hearingsOn ∈ T0 := tb6 (i := 219) (by decide +kernel) rfl
theorem lk_L_145 : Cond.methodLink RL 145 yX10_heard ∈ T0 := tb6 (i := 223) (by decide +kernel) rfl
theorem lk_L_149 : Cond.methodLink RL 149 yX10_seed ∈ T0 := tb6 (i := 227) (by decide +kernel) rfl
theorem lk_L_153 : Cond.methodLink RL 153 yX10_feed ∈ T0 := tb6 (i := 231) (by decide +kernel) rfl
theorem lk_L_158 : Cond.methodLink RL 158 yX10_wipe ∈ T0 := tb6 (i := 235) (by decide +kernel) rfl
theorem lk_L_162 : Cond.methodLink RL 162 yX10_text ∈ T0 := tb6 (i := 239) (by decide +kernel) rfl
theorem lk_X10_300 : Cond.methodLink RX10 300 yX10_puts ∈ T0 := tb7 (i := 3) (by decide +kernel) rfl
theorem lk_X10_264 : Cond.methodLink RX10 264 yX10_token ∈ T0 := tb7 (i := 7) (by decide +kernel) rfl
theorem lk_X10_252 : Cond.methodLink RX10 252 yX10_byteAt ∈ T0 := tb7 (i := 11) (by decide +kernel) rfl
theorem lk_X10_255 : Cond.methodLink RX10 255 yX10_isLetter ∈ T0 := tb7 (i := 15) (by decide +kernel) rfl
theorem lc_X10_238 : Cond.constantLong RX10 238 (97) ∈ T0 := tb7 (i := 18) (by decide +kernel) rfl
theorem lc_X10_240 : Cond.constantLong RX10 240 (122) ∈ T0 := tb7 (i := 19) (by decide +kernel) rfl
theorem lk_X10_258 : Cond.methodLink RX10 258 yX10_isDigit ∈ T0 := tb7 (i := 20) (by decide +kernel) rfl
theorem lc_X10_242 : Cond.constantLong RX10 242 (48) ∈ T0 := tb7 (i := 23) (by decide +kernel) rfl
theorem lc_X10_244 : Cond.constantLong RX10 244 (57) ∈ T0 := tb7 (i := 24) (by decide +kernel) rfl
theorem lk_X10_303 : Cond.methodLink RX10 303 yX10_item ∈ T0 := tb7 (i := 25) (by decide +kernel) rfl
theorem lk_X10_289 : Cond.methodLink RX10 289 yX10_kindHere ∈ T0 := tb7 (i := 29) (by decide +kernel) rfl
theorem lk_X10_277 : Cond.methodLink RX10 277 yX10_isWord ∈ T0 := tb7 (i := 33) (by decide +kernel) rfl
theorem lk_X10_267 : Cond.methodLink RX10 267 yX10_isLetterAt ∈ T0 := tb7 (i := 37) (by decide +kernel) rfl
theorem lk_X10_292 : Cond.methodLink RX10 292 yX10_termItem ∈ T0 := tb7 (i := 41) (by decide +kernel) rfl
theorem lk_X10_273 : Cond.methodLink RX10 273 yX10_needs ∈ T0 := tb7 (i := 45) (by decide +kernel) rfl
theorem lk_X10_283 : Cond.methodLink RX10 283 yX10_numberHere ∈ T0 := tb7 (i := 49) (by decide +kernel) rfl
theorem lk_X10_281 : Cond.methodLink RX10 281 yX10_number ∈ T0 := tb7 (i := 53) (by decide +kernel) rfl
theorem lk_X10_286 : Cond.methodLink RX10 286 yX10_spanItem ∈ T0 := tb7 (i := 57) (by decide +kernel) rfl
theorem lk_X10_296 : Cond.methodLink RX10 296 yX10_road ∈ T0 := tb7 (i := 61) (by decide +kernel) rfl
theorem lk_L_166 : Cond.methodLink RL 166 yX10_hold ∈ T0 := tb7 (i := 62) (by decide +kernel) rfl
theorem lk_L_170 : Cond.methodLink RL 170 yX10_as ∈ T0 := tb7 (i := 66) (by decide +kernel) rfl
theorem lc_X10_306 : Cond.constant RX10 306 (-1000006) ∈ T0 := tb7 (i := 70) (by decide +kernel) rfl
theorem lk_X10_307 : Cond.methodLink RX10 307 yX10_isUnder ∈ T0 := tb7 (i := 71) (by decide +kernel) rfl
theorem lc_X10_310 : Cond.constant RX10 310 (-1000003) ∈ T0 := tb7 (i := 74) (by decide +kernel) rfl
theorem lk_L_174 : Cond.methodLink RL 174 yX10_sheet ∈ T0 := tb7 (i := 75) (by decide +kernel) rfl
theorem lk_X10_311 : Cond.methodLink RX10 311 yX10_isOne ∈ T0 := tb7 (i := 79) (by decide +kernel) rfl
theorem lc_X10_314 : Cond.constant RX10 314 (-1000007) ∈ T0 := tb7 (i := 82) (by decide +kernel) rfl
theorem lk_L_178 : Cond.methodLink RL 178 yX10_write ∈ T0 := tb7 (i := 83) (by decide +kernel) rfl
theorem lk_X10_315 : Cond.methodLink RX10 315 yX10_wrong ∈ T0 := tb7 (i := 87) (by decide +kernel) rfl
theorem lk_X10_318 : Cond.methodLink RX10 318 yX10_narrowed ∈ T0 := tb7 (i := 91) (by decide +kernel) rfl
theorem lk_L_183 : Cond.methodLink RL 183 yX10_copy ∈ T0 := tb7 (i := 94) (by decide +kernel) rfl
theorem lk_L_187 : Cond.methodLink RL 187 yX10_load ∈ T0 := tb7 (i := 98) (by decide +kernel) rfl
theorem lc_X10_321 : Cond.constantLong RX10 321 (-1) ∈ T0 := tb7 (i := 102) (by decide +kernel) rfl
theorem lk_L_191 : Cond.methodLink RL 191 yX10_judge ∈ T0 := tb7 (i := 103) (by decide +kernel) rfl
theorem lk_L_195 : Cond.methodLink RL 195 yX10_image ∈ T0 := tb7 (i := 107) (by decide +kernel) rfl
theorem lk_L_199 : Cond.methodLink RL 199 yX10_undo ∈ T0 := tb7 (i := 111) (by decide +kernel) rfl
theorem lk_L_203 : Cond.methodLink RL 203 yX10_tear ∈ T0 := tb7 (i := 115) (by decide +kernel) rfl
theorem lk_L_207 : Cond.methodLink RL 207 yX10_many ∈ T0 := tb7 (i := 119) (by decide +kernel) rfl
theorem lk_L_211 : Cond.methodLink RL 211 yX10_status ∈ T0 := tb7 (i := 123) (by decide +kernel) rfl
theorem lf_J0_9 : Cond.fieldLink RJ0 9 "java/lang/String" "value" "[B" ∈ T0 := tb7 (i := 127) (by decide +kernel) rfl
theorem lf_J0_15 : Cond.fieldLink RJ0 15 "java/lang/String" "coder" "B" ∈ T0 := tb7 (i := 128) (by decide +kernel) rfl
theorem inX0 : ∀ w ∈ u_ws RX0 TX0 7, w ∈ T0 := by
  intro w hw
  obtain ⟨k, hk, rfl⟩ := List.mem_map.mp hw
  have hk := List.mem_range.mp hk
  match k, hk with
  | 0, _ => exact tb1 (i := 109) (by decide +kernel) rfl
  | 1, _ => exact tb1 (i := 111) (by decide +kernel) rfl
  | 2, _ => exact tb1 (i := 113) (by decide +kernel) rfl
  | 3, _ => exact tb1 (i := 115) (by decide +kernel) rfl
  | 4, _ => exact tb1 (i := 117) (by decide +kernel) rfl
  | 5, _ => exact tb1 (i := 119) (by decide +kernel) rfl
  | 6, _ => exact tb1 (i := 121) (by decide +kernel) rfl
  | k + 7, hk => omega
theorem inX1 : ∀ w ∈ u_ws RX1 TX1 10, w ∈ T0 := by
  intro w hw
  obtain ⟨k, hk, rfl⟩ := List.mem_map.mp hw
  have hk := List.mem_range.mp hk
  match k, hk with
  | 0, _ => exact tb1 (i := 196) (by decide +kernel) rfl
  | 1, _ => exact tb1 (i := 198) (by decide +kernel) rfl
  | 2, _ => exact tb1 (i := 200) (by decide +kernel) rfl
  | 3, _ => exact tb1 (i := 202) (by decide +kernel) rfl
  | 4, _ => exact tb1 (i := 204) (by decide +kernel) rfl
  | 5, _ => exact tb1 (i := 206) (by decide +kernel) rfl
  | 6, _ => exact tb1 (i := 208) (by decide +kernel) rfl
  | 7, _ => exact tb1 (i := 210) (by decide +kernel) rfl
  | 8, _ => exact tb1 (i := 212) (by decide +kernel) rfl
  | 9, _ => exact tb1 (i := 214) (by decide +kernel) rfl
  | k + 10, hk => omega
theorem inX10 : ∀ w ∈ u_ws RX10 TX10 29, w ∈ T0 := by
  intro w hw
  obtain ⟨k, hk, rfl⟩ := List.mem_map.mp hw
  have hk := List.mem_range.mp hk
  match k, hk with
  | 0, _ => exact tb5 (i := 122) (by decide +kernel) rfl
  | 1, _ => exact tb5 (i := 124) (by decide +kernel) rfl
  | 2, _ => exact tb5 (i := 126) (by decide +kernel) rfl
  | 3, _ => exact tb5 (i := 128) (by decide +kernel) rfl
  | 4, _ => exact tb5 (i := 130) (by decide +kernel) rfl
  | 5, _ => exact tb5 (i := 132) (by decide +kernel) rfl
  | 6, _ => exact tb5 (i := 134) (by decide +kernel) rfl
  | 7, _ => exact tb5 (i := 136) (by decide +kernel) rfl
  | 8, _ => exact tb5 (i := 138) (by decide +kernel) rfl
  | 9, _ => exact tb5 (i := 140) (by decide +kernel) rfl
  | 10, _ => exact tb5 (i := 142) (by decide +kernel) rfl
  | 11, _ => exact tb5 (i := 144) (by decide +kernel) rfl
  | 12, _ => exact tb5 (i := 146) (by decide +kernel) rfl
  | 13, _ => exact tb5 (i := 148) (by decide +kernel) rfl
  | 14, _ => exact tb5 (i := 150) (by decide +kernel) rfl
  | 15, _ => exact tb5 (i := 152) (by decide +kernel) rfl
  | 16, _ => exact tb5 (i := 154) (by decide +kernel) rfl
  | 17, _ => exact tb5 (i := 156) (by decide +kernel) rfl
  | 18, _ => exact tb5 (i := 158) (by decide +kernel) rfl
  | 19, _ => exact tb5 (i := 160) (by decide +kernel) rfl
  | 20, _ => exact tb5 (i := 162) (by decide +kernel) rfl
  | 21, _ => exact tb5 (i := 164) (by decide +kernel) rfl
  | 22, _ => exact tb5 (i := 166) (by decide +kernel) rfl
  | 23, _ => exact tb5 (i := 168) (by decide +kernel) rfl
  | 24, _ => exact tb5 (i := 170) (by decide +kernel) rfl
  | 25, _ => exact tb5 (i := 172) (by decide +kernel) rfl
  | 26, _ => exact tb5 (i := 174) (by decide +kernel) rfl
  | 27, _ => exact tb5 (i := 176) (by decide +kernel) rfl
  | 28, _ => exact tb5 (i := 178) (by decide +kernel) rfl
  | k + 29, hk => omega
theorem inX2 : ∀ w ∈ u_ws RX2 TX2 1, w ∈ T0 := by
  intro w hw
  obtain ⟨k, hk, rfl⟩ := List.mem_map.mp hw
  have hk := List.mem_range.mp hk
  match k, hk with
  | 0, _ => exact tb1 (i := 40) (by decide +kernel) rfl
  | k + 1, hk => omega
theorem inX3 : ∀ w ∈ u_ws RX3 TX3 11, w ∈ T0 := by
  intro w hw
  obtain ⟨k, hk, rfl⟩ := List.mem_map.mp hw
  have hk := List.mem_range.mp hk
  match k, hk with
  | 0, _ => exact tb1 (i := 141) (by decide +kernel) rfl
  | 1, _ => exact tb1 (i := 143) (by decide +kernel) rfl
  | 2, _ => exact tb1 (i := 145) (by decide +kernel) rfl
  | 3, _ => exact tb1 (i := 147) (by decide +kernel) rfl
  | 4, _ => exact tb1 (i := 149) (by decide +kernel) rfl
  | 5, _ => exact tb1 (i := 151) (by decide +kernel) rfl
  | 6, _ => exact tb1 (i := 153) (by decide +kernel) rfl
  | 7, _ => exact tb1 (i := 155) (by decide +kernel) rfl
  | 8, _ => exact tb1 (i := 157) (by decide +kernel) rfl
  | 9, _ => exact tb1 (i := 159) (by decide +kernel) rfl
  | 10, _ => exact tb1 (i := 161) (by decide +kernel) rfl
  | k + 11, hk => omega
theorem inX4 : ∀ w ∈ u_ws RX4 TX4 3, w ∈ T0 := by
  intro w hw
  obtain ⟨k, hk, rfl⟩ := List.mem_map.mp hw
  have hk := List.mem_range.mp hk
  match k, hk with
  | 0, _ => exact tb1 (i := 173) (by decide +kernel) rfl
  | 1, _ => exact tb1 (i := 175) (by decide +kernel) rfl
  | 2, _ => exact tb1 (i := 177) (by decide +kernel) rfl
  | k + 3, hk => omega
theorem inX5 : ∀ w ∈ u_ws RX5 TX5 2, w ∈ T0 := by
  intro w hw
  obtain ⟨k, hk, rfl⟩ := List.mem_map.mp hw
  have hk := List.mem_range.mp hk
  match k, hk with
  | 0, _ => exact tb1 (i := 52) (by decide +kernel) rfl
  | 1, _ => exact tb1 (i := 54) (by decide +kernel) rfl
  | k + 2, hk => omega
theorem inX6 : ∀ w ∈ u_ws RX6 TX6 4, w ∈ T0 := by
  intro w hw
  obtain ⟨k, hk, rfl⟩ := List.mem_map.mp hw
  have hk := List.mem_range.mp hk
  match k, hk with
  | 0, _ => exact tb1 (i := 80) (by decide +kernel) rfl
  | 1, _ => exact tb1 (i := 82) (by decide +kernel) rfl
  | 2, _ => exact tb1 (i := 84) (by decide +kernel) rfl
  | 3, _ => exact tb1 (i := 86) (by decide +kernel) rfl
  | k + 4, hk => omega
theorem inX7 : ∀ w ∈ u_ws RX7 TX7 2, w ∈ T0 := by
  intro w hw
  obtain ⟨k, hk, rfl⟩ := List.mem_map.mp hw
  have hk := List.mem_range.mp hk
  match k, hk with
  | 0, _ => exact tb1 (i := 65) (by decide +kernel) rfl
  | 1, _ => exact tb1 (i := 67) (by decide +kernel) rfl
  | k + 2, hk => omega
theorem inX8 : ∀ w ∈ u_ws RX8 TX8 3, w ∈ T0 := by
  intro w hw
  obtain ⟨k, hk, rfl⟩ := List.mem_map.mp hw
  have hk := List.mem_range.mp hk
  match k, hk with
  | 0, _ => exact tb1 (i := 227) (by decide +kernel) rfl
  | 1, _ => exact tb1 (i := 229) (by decide +kernel) rfl
  | 2, _ => exact tb1 (i := 231) (by decide +kernel) rfl
  | k + 3, hk => omega
theorem inX9 : ∀ w ∈ u_ws RX9 TX9 10, w ∈ T0 := by
  intro w hw
  obtain ⟨k, hk, rfl⟩ := List.mem_map.mp hw
  have hk := List.mem_range.mp hk
  match k, hk with
  | 0, _ => exact tb2 (i := 4) (by decide +kernel) rfl
  | 1, _ => exact tb2 (i := 6) (by decide +kernel) rfl
  | 2, _ => exact tb2 (i := 8) (by decide +kernel) rfl
  | 3, _ => exact tb2 (i := 10) (by decide +kernel) rfl
  | 4, _ => exact tb2 (i := 12) (by decide +kernel) rfl
  | 5, _ => exact tb2 (i := 14) (by decide +kernel) rfl
  | 6, _ => exact tb2 (i := 16) (by decide +kernel) rfl
  | 7, _ => exact tb2 (i := 18) (by decide +kernel) rfl
  | 8, _ => exact tb2 (i := 20) (by decide +kernel) rfl
  | 9, _ => exact tb2 (i := 22) (by decide +kernel) rfl
  | k + 10, hk => omega
theorem mt_J0_charAt_5068e : ca_mt yJ0_charAt_5068e cJ0_charAt_5068e 2 (some .char) 1 := ⟨tb4 (i := 87) (by decide +kernel) rfl, tb1 (i := 14) (by decide +kernel) rfl, by decide +kernel, by decide +kernel, by decide +kernel⟩
theorem mv_J0_charAt_5068e : ca_mv yJ0_charAt_5068e := ⟨tb4 (i := 85) (by decide +kernel) rfl, tb4 (i := 86) (by decide +kernel) rfl⟩
theorem mt_J0_checkIndex_df160 : ca_mt yJ0_checkIndex_df160 cJ0_checkIndex_df160 2 none 2 := ⟨tb4 (i := 97) (by decide +kernel) rfl, tb1 (i := 14) (by decide +kernel) rfl, by decide +kernel, by decide +kernel, by decide +kernel⟩
theorem ms_J0_checkIndex_df160 : Cond.static yJ0_checkIndex_df160 ∈ T0 := tb4 (i := 96) (by decide +kernel) rfl
theorem mt_J0_coder_7d493 : ca_mt yJ0_coder_7d493 cJ0_coder_7d493 1 (some .byte) 0 := ⟨tb4 (i := 81) (by decide +kernel) rfl, tb1 (i := 14) (by decide +kernel) rfl, by decide +kernel, by decide +kernel, by decide +kernel⟩
theorem mv_J0_coder_7d493 : ca_mv yJ0_coder_7d493 := ⟨tb4 (i := 79) (by decide +kernel) rfl, tb4 (i := 80) (by decide +kernel) rfl⟩
theorem mt_J0_isLatin1_aae02 : ca_mt yJ0_isLatin1_aae02 cJ0_isLatin1_aae02 1 (some .boolean) 0 := ⟨tb4 (i := 91) (by decide +kernel) rfl, tb1 (i := 14) (by decide +kernel) rfl, by decide +kernel, by decide +kernel, by decide +kernel⟩
theorem mv_J0_isLatin1_aae02 : ca_mv yJ0_isLatin1_aae02 := ⟨tb4 (i := 89) (by decide +kernel) rfl, tb4 (i := 90) (by decide +kernel) rfl⟩
theorem mt_J0_length_8abf5 : ca_mt yJ0_length_8abf5 cJ0_length_8abf5 1 (some .int) 0 := ⟨tb4 (i := 77) (by decide +kernel) rfl, tb1 (i := 14) (by decide +kernel) rfl, by decide +kernel, by decide +kernel, by decide +kernel⟩
theorem mv_J0_length_8abf5 : ca_mv yJ0_length_8abf5 := ⟨tb4 (i := 75) (by decide +kernel) rfl, tb4 (i := 76) (by decide +kernel) rfl⟩
theorem mt_J1_charAt_3b067 : ca_mt yJ1_charAt_3b067 cJ1_charAt_3b067 2 (some .char) 2 := ⟨tb4 (i := 94) (by decide +kernel) rfl, tb1 (i := 15) (by decide +kernel) rfl, by decide +kernel, by decide +kernel, by decide +kernel⟩
theorem ms_J1_charAt_3b067 : Cond.static yJ1_charAt_3b067 ∈ T0 := tb4 (i := 93) (by decide +kernel) rfl
theorem mt_J2_charAt_3b067 : ca_mt yJ2_charAt_3b067 cJ2_charAt_3b067 2 (some .char) 2 := ⟨tb4 (i := 105) (by decide +kernel) rfl, tb1 (i := 17) (by decide +kernel) rfl, by decide +kernel, by decide +kernel, by decide +kernel⟩
theorem ms_J2_charAt_3b067 : Cond.static yJ2_charAt_3b067 ∈ T0 := tb4 (i := 104) (by decide +kernel) rfl
theorem mt_J2_checkIndex_2214a : ca_mt yJ2_checkIndex_2214a cJ2_checkIndex_2214a 2 none 2 := ⟨tb4 (i := 108) (by decide +kernel) rfl, tb1 (i := 17) (by decide +kernel) rfl, by decide +kernel, by decide +kernel, by decide +kernel⟩
theorem ms_J2_checkIndex_2214a : Cond.static yJ2_checkIndex_2214a ∈ T0 := tb4 (i := 107) (by decide +kernel) rfl
theorem mt_J2_getChar_3b067 : ca_mt yJ2_getChar_3b067 cJ2_getChar_3b067 2 (some .char) 2 := ⟨tb4 (i := 115) (by decide +kernel) rfl, tb1 (i := 17) (by decide +kernel) rfl, by decide +kernel, by decide +kernel, by decide +kernel⟩
theorem ms_J2_getChar_3b067 : Cond.static yJ2_getChar_3b067 ∈ T0 := tb4 (i := 114) (by decide +kernel) rfl
theorem mt_J2_length_9d52b : ca_mt yJ2_length_9d52b cJ2_length_9d52b 1 (some .int) 1 := ⟨tb4 (i := 111) (by decide +kernel) rfl, tb1 (i := 17) (by decide +kernel) rfl, by decide +kernel, by decide +kernel, by decide +kernel⟩
theorem ms_J2_length_9d52b : Cond.static yJ2_length_9d52b ∈ T0 := tb4 (i := 110) (by decide +kernel) rfl
theorem mt_J3_checkIndex_8e157 : ca_mt yJ3_checkIndex_8e157 cJ3_checkIndex_8e157 3 (some .int) 3 := ⟨tb4 (i := 102) (by decide +kernel) rfl, tb1 (i := 16) (by decide +kernel) rfl, by decide +kernel, by decide +kernel, by decide +kernel⟩
theorem ms_J3_checkIndex_8e157 : Cond.static yJ3_checkIndex_8e157 ∈ T0 := tb4 (i := 101) (by decide +kernel) rfl
theorem mt_J6_bitCount_0f7a4 : ca_mt yJ6_bitCount_0f7a4 cJ6_bitCount_0f7a4 1 (some .int) 1 := ⟨tb5 (i := 71) (by decide +kernel) rfl, tb1 (i := 18) (by decide +kernel) rfl, by decide +kernel, by decide +kernel, by decide +kernel⟩
theorem ms_J6_bitCount_0f7a4 : Cond.static yJ6_bitCount_0f7a4 ∈ T0 := tb5 (i := 70) (by decide +kernel) rfl
theorem mt_J9_min_7cf53 : ca_mt yJ9_min_7cf53 cJ9_min_7cf53 2 (some .int) 2 := ⟨tb3 (i := 144) (by decide +kernel) rfl, tb1 (i := 13) (by decide +kernel) rfl, by decide +kernel, by decide +kernel, by decide +kernel⟩
theorem ms_J9_min_7cf53 : Cond.static yJ9_min_7cf53 ∈ T0 := tb3 (i := 143) (by decide +kernel) rfl
theorem mt_X0_badPlaces : ca_mt yX0_badPlaces cX0_badPlaces 3 (some .int) 1 := ⟨tb2 (i := 147) (by decide +kernel) rfl, tb1 (i := 2) (by decide +kernel) rfl, by decide +kernel, by decide +kernel, by decide +kernel⟩
theorem mv_X0_badPlaces : ca_mv yX0_badPlaces := ⟨tb2 (i := 145) (by decide +kernel) rfl, tb2 (i := 146) (by decide +kernel) rfl⟩
theorem mt_X0_draw : ca_mt yX0_draw cX0_draw 1 (some .int) 0 := ⟨tb2 (i := 221) (by decide +kernel) rfl, tb1 (i := 2) (by decide +kernel) rfl, by decide +kernel, by decide +kernel, by decide +kernel⟩
theorem mv_X0_draw : ca_mv yX0_draw := ⟨tb2 (i := 219) (by decide +kernel) rfl, tb2 (i := 220) (by decide +kernel) rfl⟩
theorem mt_X0_hearingCount : ca_mt yX0_hearingCount cX0_hearingCount 3 (some .int) 0 := ⟨tb5 (i := 78) (by decide +kernel) rfl, tb1 (i := 2) (by decide +kernel) rfl, by decide +kernel, by decide +kernel, by decide +kernel⟩
theorem mv_X0_hearingCount : ca_mv yX0_hearingCount := ⟨tb5 (i := 76) (by decide +kernel) rfl, tb5 (i := 77) (by decide +kernel) rfl⟩
theorem mt_X0_hearingsOfOthers : ca_mt yX0_hearingsOfOthers cX0_hearingsOfOthers 5 (some .int) 2 := ⟨tb4 (i := 6) (by decide +kernel) rfl, tb1 (i := 2) (by decide +kernel) rfl, by decide +kernel, by decide +kernel, by decide +kernel⟩
theorem mv_X0_hearingsOfOthers : ca_mv yX0_hearingsOfOthers := ⟨tb4 (i := 4) (by decide +kernel) rfl, tb4 (i := 5) (by decide +kernel) rfl⟩
theorem mt_X0_init : ca_mt yX0_init cX0_init 2 none 0 := ⟨tb1 (i := 31) (by decide +kernel) rfl, tb1 (i := 2) (by decide +kernel) rfl, by decide +kernel, by decide +kernel, by decide +kernel⟩
theorem mt_X0_takeFrom : ca_mt yX0_takeFrom cX0_takeFrom 2 none 1 := ⟨tb5 (i := 30) (by decide +kernel) rfl, tb1 (i := 2) (by decide +kernel) rfl, by decide +kernel, by decide +kernel, by decide +kernel⟩
theorem mv_X0_takeFrom : ca_mv yX0_takeFrom := ⟨tb5 (i := 28) (by decide +kernel) rfl, tb5 (i := 29) (by decide +kernel) rfl⟩
theorem mt_X10_after : ca_mt yX10_after cX10_after 7 (some .int) 3 := ⟨tb6 (i := 145) (by decide +kernel) rfl, tb1 (i := 11) (by decide +kernel) rfl, by decide +kernel, by decide +kernel, by decide +kernel⟩
theorem mv_X10_after : ca_mv yX10_after := ⟨tb6 (i := 144) (by decide +kernel) rfl, tbs (i := 58) (by decide +kernel) rfl⟩
theorem mt_X10_as : ca_mt yX10_as cX10_as 4 (some .int) 2 := ⟨tb7 (i := 69) (by decide +kernel) rfl, tb1 (i := 11) (by decide +kernel) rfl, by decide +kernel, by decide +kernel, by decide +kernel⟩
theorem mv_X10_as : ca_mv yX10_as := ⟨tb7 (i := 67) (by decide +kernel) rfl, tb7 (i := 68) (by decide +kernel) rfl⟩
theorem mt_X10_asked : ca_mt yX10_asked cX10_asked 3 (some .int) 1 := ⟨tb6 (i := 62) (by decide +kernel) rfl, tb1 (i := 11) (by decide +kernel) rfl, by decide +kernel, by decide +kernel, by decide +kernel⟩
theorem mv_X10_asked : ca_mv yX10_asked := ⟨tb6 (i := 61) (by decide +kernel) rfl, tbs (i := 47) (by decide +kernel) rfl⟩
theorem mt_X10_at : ca_mt yX10_at cX10_at 2 (some .int) 1 := ⟨tb6 (i := 150) (by decide +kernel) rfl, tb1 (i := 11) (by decide +kernel) rfl, by decide +kernel, by decide +kernel, by decide +kernel⟩
theorem mv_X10_at : ca_mv yX10_at := ⟨tb6 (i := 148) (by decide +kernel) rfl, tb6 (i := 149) (by decide +kernel) rfl⟩
theorem mt_X10_back : ca_mt yX10_back cX10_back 4 (some .int) 1 := ⟨tb6 (i := 210) (by decide +kernel) rfl, tb1 (i := 11) (by decide +kernel) rfl, by decide +kernel, by decide +kernel, by decide +kernel⟩
theorem mv_X10_back : ca_mv yX10_back := ⟨tb6 (i := 208) (by decide +kernel) rfl, tb6 (i := 209) (by decide +kernel) rfl⟩
theorem mt_X10_backTo : ca_mt yX10_backTo cX10_backTo 11 none 2 := ⟨tb6 (i := 137) (by decide +kernel) rfl, tb1 (i := 11) (by decide +kernel) rfl, by decide +kernel, by decide +kernel, by decide +kernel⟩
theorem mv_X10_backTo : ca_mv yX10_backTo := ⟨tb6 (i := 136) (by decide +kernel) rfl, tbs (i := 56) (by decide +kernel) rfl⟩
theorem mt_X10_bad : ca_mt yX10_bad cX10_bad 2 (some .int) 1 := ⟨tb6 (i := 80) (by decide +kernel) rfl, tb1 (i := 11) (by decide +kernel) rfl, by decide +kernel, by decide +kernel, by decide +kernel⟩
theorem mv_X10_bad : ca_mv yX10_bad := ⟨tb6 (i := 78) (by decide +kernel) rfl, tb6 (i := 79) (by decide +kernel) rfl⟩
theorem mt_X10_badOf : ca_mt yX10_badOf cX10_badOf 3 (some .int) 1 := ⟨tb6 (i := 84) (by decide +kernel) rfl, tb1 (i := 11) (by decide +kernel) rfl, by decide +kernel, by decide +kernel, by decide +kernel⟩
theorem mv_X10_badOf : ca_mv yX10_badOf := ⟨tb6 (i := 83) (by decide +kernel) rfl, tbs (i := 48) (by decide +kernel) rfl⟩
theorem mt_X10_bail : ca_mt yX10_bail cX10_bail 4 (some .int) 2 := ⟨tb6 (i := 198) (by decide +kernel) rfl, tb1 (i := 11) (by decide +kernel) rfl, by decide +kernel, by decide +kernel, by decide +kernel⟩
theorem mv_X10_bail : ca_mv yX10_bail := ⟨tb6 (i := 196) (by decide +kernel) rfl, tb6 (i := 197) (by decide +kernel) rfl⟩
theorem mt_X10_bars : ca_mt yX10_bars cX10_bars 6 (some .int) 2 := ⟨tb6 (i := 162) (by decide +kernel) rfl, tb1 (i := 11) (by decide +kernel) rfl, by decide +kernel, by decide +kernel, by decide +kernel⟩
theorem mv_X10_bars : ca_mv yX10_bars := ⟨tb6 (i := 160) (by decide +kernel) rfl, tb6 (i := 161) (by decide +kernel) rfl⟩
theorem mt_X10_binds : ca_mt yX10_binds cX10_binds 6 none 3 := ⟨tb6 (i := 129) (by decide +kernel) rfl, tb1 (i := 11) (by decide +kernel) rfl, by decide +kernel, by decide +kernel, by decide +kernel⟩
theorem mv_X10_binds : ca_mv yX10_binds := ⟨tb6 (i := 128) (by decide +kernel) rfl, tbs (i := 54) (by decide +kernel) rfl⟩
theorem mt_X10_breach : ca_mt yX10_breach cX10_breach 6 (some .int) 2 := ⟨tb6 (i := 121) (by decide +kernel) rfl, tb1 (i := 11) (by decide +kernel) rfl, by decide +kernel, by decide +kernel, by decide +kernel⟩
theorem mv_X10_breach : ca_mv yX10_breach := ⟨tb6 (i := 119) (by decide +kernel) rfl, tb6 (i := 120) (by decide +kernel) rfl⟩
theorem mt_X10_byteAt : ca_mt yX10_byteAt cX10_byteAt 2 (some .int) 1 := ⟨tb7 (i := 14) (by decide +kernel) rfl, tb1 (i := 11) (by decide +kernel) rfl, by decide +kernel, by decide +kernel, by decide +kernel⟩
theorem mv_X10_byteAt : ca_mv yX10_byteAt := ⟨tb7 (i := 13) (by decide +kernel) rfl, tbs (i := 66) (by decide +kernel) rfl⟩
theorem mt_X10_call : ca_mt yX10_call cX10_call 5 (some .int) 1 := ⟨tb6 (i := 206) (by decide +kernel) rfl, tb1 (i := 11) (by decide +kernel) rfl, by decide +kernel, by decide +kernel, by decide +kernel⟩
theorem mv_X10_call : ca_mv yX10_call := ⟨tb6 (i := 204) (by decide +kernel) rfl, tb6 (i := 205) (by decide +kernel) rfl⟩
theorem mt_X10_change : ca_mt yX10_change cX10_change 6 (some .int) 3 := ⟨tb6 (i := 75) (by decide +kernel) rfl, tb1 (i := 11) (by decide +kernel) rfl, by decide +kernel, by decide +kernel, by decide +kernel⟩
theorem mv_X10_change : ca_mv yX10_change := ⟨tb6 (i := 73) (by decide +kernel) rfl, tb6 (i := 74) (by decide +kernel) rfl⟩
theorem mt_X10_comes : ca_mt yX10_comes cX10_comes 13 (some .long) 4 := ⟨tb6 (i := 108) (by decide +kernel) rfl, tb1 (i := 11) (by decide +kernel) rfl, by decide +kernel, by decide +kernel, by decide +kernel⟩
theorem mv_X10_comes : ca_mv yX10_comes := ⟨tb6 (i := 107) (by decide +kernel) rfl, tbs (i := 52) (by decide +kernel) rfl⟩
theorem mt_X10_copy : ca_mt yX10_copy cX10_copy 7 (some .int) 5 := ⟨tb7 (i := 97) (by decide +kernel) rfl, tb1 (i := 11) (by decide +kernel) rfl, by decide +kernel, by decide +kernel, by decide +kernel⟩
theorem mv_X10_copy : ca_mv yX10_copy := ⟨tb7 (i := 95) (by decide +kernel) rfl, tb7 (i := 96) (by decide +kernel) rfl⟩
theorem mt_X10_could : ca_mt yX10_could cX10_could 7 (some .int) 2 := ⟨tb6 (i := 7) (by decide +kernel) rfl, tb1 (i := 11) (by decide +kernel) rfl, by decide +kernel, by decide +kernel, by decide +kernel⟩
theorem mv_X10_could : ca_mv yX10_could := ⟨tb6 (i := 5) (by decide +kernel) rfl, tb6 (i := 6) (by decide +kernel) rfl⟩
theorem mt_X10_count : ca_mt yX10_count cX10_count 7 (some .int) 4 := ⟨tb6 (i := 116) (by decide +kernel) rfl, tb1 (i := 11) (by decide +kernel) rfl, by decide +kernel, by decide +kernel, by decide +kernel⟩
theorem mv_X10_count : ca_mv yX10_count := ⟨tb6 (i := 114) (by decide +kernel) rfl, tb6 (i := 115) (by decide +kernel) rfl⟩
theorem mt_X10_drift : ca_mt yX10_drift cX10_drift 8 (some .int) 3 := ⟨tb6 (i := 19) (by decide +kernel) rfl, tb1 (i := 11) (by decide +kernel) rfl, by decide +kernel, by decide +kernel, by decide +kernel⟩
theorem mv_X10_drift : ca_mv yX10_drift := ⟨tb6 (i := 17) (by decide +kernel) rfl, tb6 (i := 18) (by decide +kernel) rfl⟩
theorem mt_X10_far : ca_mt yX10_far cX10_far 5 (some .int) 2 := ⟨tb5 (i := 205) (by decide +kernel) rfl, tb1 (i := 11) (by decide +kernel) rfl, by decide +kernel, by decide +kernel, by decide +kernel⟩
theorem mv_X10_far : ca_mv yX10_far := ⟨tb5 (i := 203) (by decide +kernel) rfl, tb5 (i := 204) (by decide +kernel) rfl⟩
theorem mt_X10_feed : ca_mt yX10_feed cX10_feed 4 (some .int) 2 := ⟨tb6 (i := 234) (by decide +kernel) rfl, tb1 (i := 11) (by decide +kernel) rfl, by decide +kernel, by decide +kernel, by decide +kernel⟩
theorem mv_X10_feed : ca_mv yX10_feed := ⟨tb6 (i := 232) (by decide +kernel) rfl, tb6 (i := 233) (by decide +kernel) rfl⟩
theorem mt_X10_fewest : ca_mt yX10_fewest cX10_fewest 5 (some .int) 0 := ⟨tb6 (i := 133) (by decide +kernel) rfl, tb1 (i := 11) (by decide +kernel) rfl, by decide +kernel, by decide +kernel, by decide +kernel⟩
theorem mv_X10_fewest : ca_mv yX10_fewest := ⟨tb6 (i := 132) (by decide +kernel) rfl, tbs (i := 55) (by decide +kernel) rfl⟩
theorem mt_X10_finds : ca_mt yX10_finds cX10_finds 2 (some .int) 1 := ⟨tb5 (i := 197) (by decide +kernel) rfl, tb1 (i := 11) (by decide +kernel) rfl, by decide +kernel, by decide +kernel, by decide +kernel⟩
theorem mv_X10_finds : ca_mv yX10_finds := ⟨tb5 (i := 196) (by decide +kernel) rfl, tbs (i := 35) (by decide +kernel) rfl⟩
theorem mt_X10_further : ca_mt yX10_further cX10_further 4 (some .int) 1 := ⟨tb5 (i := 212) (by decide +kernel) rfl, tb1 (i := 11) (by decide +kernel) rfl, by decide +kernel, by decide +kernel, by decide +kernel⟩
theorem mv_X10_further : ca_mv yX10_further := ⟨tb5 (i := 211) (by decide +kernel) rfl, tbs (i := 36) (by decide +kernel) rfl⟩
theorem mt_X10_given : ca_mt yX10_given cX10_given 3 (some .int) 2 := ⟨tb6 (i := 194) (by decide +kernel) rfl, tb1 (i := 11) (by decide +kernel) rfl, by decide +kernel, by decide +kernel, by decide +kernel⟩
theorem mv_X10_given : ca_mv yX10_given := ⟨tb6 (i := 193) (by decide +kernel) rfl, tbs (i := 61) (by decide +kernel) rfl⟩
theorem mt_X10_givenBy : ca_mt yX10_givenBy cX10_givenBy 4 (some .int) 1 := ⟨tb6 (i := 190) (by decide +kernel) rfl, tb1 (i := 11) (by decide +kernel) rfl, by decide +kernel, by decide +kernel, by decide +kernel⟩
theorem mv_X10_givenBy : ca_mv yX10_givenBy := ⟨tb6 (i := 189) (by decide +kernel) rfl, tbs (i := 60) (by decide +kernel) rfl⟩
theorem mt_X10_givenFor : ca_mt yX10_givenFor cX10_givenFor 4 (some .int) 1 := ⟨tb6 (i := 202) (by decide +kernel) rfl, tb1 (i := 11) (by decide +kernel) rfl, by decide +kernel, by decide +kernel, by decide +kernel⟩
theorem mv_X10_givenFor : ca_mv yX10_givenFor := ⟨tb6 (i := 201) (by decide +kernel) rfl, tbs (i := 62) (by decide +kernel) rfl⟩
theorem mt_X10_has : ca_mt yX10_has cX10_has 2 (some .boolean) 2 := ⟨tb5 (i := 208) (by decide +kernel) rfl, tb1 (i := 11) (by decide +kernel) rfl, by decide +kernel, by decide +kernel, by decide +kernel⟩
theorem ms_X10_has : Cond.static yX10_has ∈ T0 := tb5 (i := 207) (by decide +kernel) rfl
theorem mt_X10_heard : ca_mt yX10_heard cX10_heard 2 (some .int) 1 := ⟨tb6 (i := 226) (by decide +kernel) rfl, tb1 (i := 11) (by decide +kernel) rfl, by decide +kernel, by decide +kernel, by decide +kernel⟩
theorem mv_X10_heard : ca_mv yX10_heard := ⟨tb6 (i := 224) (by decide +kernel) rfl, tb6 (i := 225) (by decide +kernel) rfl⟩
theorem mt_X10_hearing : ca_mt yX10_hearing cX10_hearing 3 (some .int) 2 := ⟨tb6 (i := 218) (by decide +kernel) rfl, tb1 (i := 11) (by decide +kernel) rfl, by decide +kernel, by decide +kernel, by decide +kernel⟩
theorem mv_X10_hearing : ca_mv yX10_hearing := ⟨tb6 (i := 216) (by decide +kernel) rfl, tb6 (i := 217) (by decide +kernel) rfl⟩
theorem mt_X10_hearingsOn : ca_mt yX10_hearingsOn cX10_hearingsOn 5 (some .int) 2 := ⟨tb6 (i := 222) (by decide +kernel) rfl, tb1 (i := 11) (by decide +kernel) rfl, by decide +kernel, by decide +kernel, by decide +kernel⟩
theorem mv_X10_hearingsOn : ca_mv yX10_hearingsOn := ⟨tb6 (i := 221) (by decide +kernel) rfl, tbs (i := 63) (by decide +kernel) rfl⟩
theorem mt_X10_hold : ca_mt yX10_hold cX10_hold 3 (some .int) 2 := ⟨tb7 (i := 65) (by decide +kernel) rfl, tb1 (i := 11) (by decide +kernel) rfl, by decide +kernel, by decide +kernel, by decide +kernel⟩
theorem mv_X10_hold : ca_mv yX10_hold := ⟨tb7 (i := 63) (by decide +kernel) rfl, tb7 (i := 64) (by decide +kernel) rfl⟩
theorem mt_X10_image : ca_mt yX10_image cX10_image 2 (some .int) 0 := ⟨tb7 (i := 110) (by decide +kernel) rfl, tb1 (i := 11) (by decide +kernel) rfl, by decide +kernel, by decide +kernel, by decide +kernel⟩
theorem mv_X10_image : ca_mv yX10_image := ⟨tb7 (i := 108) (by decide +kernel) rfl, tb7 (i := 109) (by decide +kernel) rfl⟩
theorem mt_X10_in : ca_mt yX10_in cX10_in 6 (some .boolean) 3 := ⟨tb5 (i := 192) (by decide +kernel) rfl, tb1 (i := 11) (by decide +kernel) rfl, by decide +kernel, by decide +kernel, by decide +kernel⟩
theorem ms_X10_in : Cond.static yX10_in ∈ T0 := tb5 (i := 191) (by decide +kernel) rfl
theorem mt_X10_inForce : ca_mt yX10_inForce cX10_inForce 3 (some .int) 2 := ⟨tb6 (i := 88) (by decide +kernel) rfl, tb1 (i := 11) (by decide +kernel) rfl, by decide +kernel, by decide +kernel, by decide +kernel⟩
theorem mv_X10_inForce : ca_mv yX10_inForce := ⟨tb6 (i := 86) (by decide +kernel) rfl, tb6 (i := 87) (by decide +kernel) rfl⟩
theorem mt_X10_inForceOf : ca_mt yX10_inForceOf cX10_inForceOf 5 (some .int) 2 := ⟨tb6 (i := 92) (by decide +kernel) rfl, tb1 (i := 11) (by decide +kernel) rfl, by decide +kernel, by decide +kernel, by decide +kernel⟩
theorem mv_X10_inForceOf : ca_mv yX10_inForceOf := ⟨tb6 (i := 91) (by decide +kernel) rfl, tbs (i := 49) (by decide +kernel) rfl⟩
theorem mt_X10_init : ca_mt yX10_init cX10_init 2 none 0 := ⟨tb5 (i := 91) (by decide +kernel) rfl, tb1 (i := 11) (by decide +kernel) rfl, by decide +kernel, by decide +kernel, by decide +kernel⟩
theorem mt_X10_isAt : ca_mt yX10_isAt cX10_isAt 3 (some .boolean) 2 := ⟨tb6 (i := 112) (by decide +kernel) rfl, tb1 (i := 11) (by decide +kernel) rfl, by decide +kernel, by decide +kernel, by decide +kernel⟩
theorem mv_X10_isAt : ca_mv yX10_isAt := ⟨tb6 (i := 111) (by decide +kernel) rfl, tbs (i := 53) (by decide +kernel) rfl⟩
theorem mt_X10_isDay : ca_mt yX10_isDay cX10_isDay 1 (some .boolean) 1 := ⟨tb6 (i := 22) (by decide +kernel) rfl, tb1 (i := 11) (by decide +kernel) rfl, by decide +kernel, by decide +kernel, by decide +kernel⟩
theorem ms_X10_isDay : Cond.static yX10_isDay ∈ T0 := tb6 (i := 21) (by decide +kernel) rfl
theorem mt_X10_isDigit : ca_mt yX10_isDigit cX10_isDigit 1 (some .boolean) 1 := ⟨tb7 (i := 22) (by decide +kernel) rfl, tb1 (i := 11) (by decide +kernel) rfl, by decide +kernel, by decide +kernel, by decide +kernel⟩
theorem ms_X10_isDigit : Cond.static yX10_isDigit ∈ T0 := tb7 (i := 21) (by decide +kernel) rfl
theorem mt_X10_isInForce : ca_mt yX10_isInForce cX10_isInForce 3 (some .boolean) 2 := ⟨tb6 (i := 96) (by decide +kernel) rfl, tb1 (i := 11) (by decide +kernel) rfl, by decide +kernel, by decide +kernel, by decide +kernel⟩
theorem mv_X10_isInForce : ca_mv yX10_isInForce := ⟨tb6 (i := 95) (by decide +kernel) rfl, tbs (i := 50) (by decide +kernel) rfl⟩
theorem mt_X10_isLetter : ca_mt yX10_isLetter cX10_isLetter 1 (some .boolean) 1 := ⟨tb7 (i := 17) (by decide +kernel) rfl, tb1 (i := 11) (by decide +kernel) rfl, by decide +kernel, by decide +kernel, by decide +kernel⟩
theorem ms_X10_isLetter : Cond.static yX10_isLetter ∈ T0 := tb7 (i := 16) (by decide +kernel) rfl
theorem mt_X10_isLetterAt : ca_mt yX10_isLetterAt cX10_isLetterAt 3 (some .boolean) 2 := ⟨tb7 (i := 40) (by decide +kernel) rfl, tb1 (i := 11) (by decide +kernel) rfl, by decide +kernel, by decide +kernel, by decide +kernel⟩
theorem mv_X10_isLetterAt : ca_mv yX10_isLetterAt := ⟨tb7 (i := 39) (by decide +kernel) rfl, tbs (i := 70) (by decide +kernel) rfl⟩
theorem mt_X10_isOne : ca_mt yX10_isOne cX10_isOne 1 (some .boolean) 1 := ⟨tb7 (i := 81) (by decide +kernel) rfl, tb1 (i := 11) (by decide +kernel) rfl, by decide +kernel, by decide +kernel, by decide +kernel⟩
theorem ms_X10_isOne : Cond.static yX10_isOne ∈ T0 := tb7 (i := 80) (by decide +kernel) rfl
theorem mt_X10_isPerson : ca_mt yX10_isPerson cX10_isPerson 1 (some .boolean) 1 := ⟨tb5 (i := 220) (by decide +kernel) rfl, tb1 (i := 11) (by decide +kernel) rfl, by decide +kernel, by decide +kernel, by decide +kernel⟩
theorem ms_X10_isPerson : Cond.static yX10_isPerson ∈ T0 := tb5 (i := 219) (by decide +kernel) rfl
theorem mt_X10_isPlace : ca_mt yX10_isPlace cX10_isPlace 1 (some .boolean) 1 := ⟨tb5 (i := 188) (by decide +kernel) rfl, tb1 (i := 11) (by decide +kernel) rfl, by decide +kernel, by decide +kernel, by decide +kernel⟩
theorem ms_X10_isPlace : Cond.static yX10_isPlace ∈ T0 := tb5 (i := 187) (by decide +kernel) rfl
theorem mt_X10_isRoomFor : ca_mt yX10_isRoomFor cX10_isRoomFor 2 (some .boolean) 1 := ⟨tb6 (i := 38) (by decide +kernel) rfl, tb1 (i := 11) (by decide +kernel) rfl, by decide +kernel, by decide +kernel, by decide +kernel⟩
theorem mv_X10_isRoomFor : ca_mv yX10_isRoomFor := ⟨tb6 (i := 37) (by decide +kernel) rfl, tbs (i := 42) (by decide +kernel) rfl⟩
theorem mt_X10_isTerm : ca_mt yX10_isTerm cX10_isTerm 2 (some .boolean) 1 := ⟨tb6 (i := 58) (by decide +kernel) rfl, tb1 (i := 11) (by decide +kernel) rfl, by decide +kernel, by decide +kernel, by decide +kernel⟩
theorem mv_X10_isTerm : ca_mv yX10_isTerm := ⟨tb6 (i := 57) (by decide +kernel) rfl, tbs (i := 46) (by decide +kernel) rfl⟩
theorem mt_X10_isUnder : ca_mt yX10_isUnder cX10_isUnder 2 (some .boolean) 2 := ⟨tb7 (i := 73) (by decide +kernel) rfl, tb1 (i := 11) (by decide +kernel) rfl, by decide +kernel, by decide +kernel, by decide +kernel⟩
theorem ms_X10_isUnder : Cond.static yX10_isUnder ∈ T0 := tb7 (i := 72) (by decide +kernel) rfl
theorem mt_X10_isWhen : ca_mt yX10_isWhen cX10_isWhen 1 (some .boolean) 1 := ⟨tb5 (i := 224) (by decide +kernel) rfl, tb1 (i := 11) (by decide +kernel) rfl, by decide +kernel, by decide +kernel, by decide +kernel⟩
theorem ms_X10_isWhen : Cond.static yX10_isWhen ∈ T0 := tb5 (i := 223) (by decide +kernel) rfl
theorem mt_X10_isWord : ca_mt yX10_isWord cX10_isWord 9 (some .boolean) 7 := ⟨tb7 (i := 36) (by decide +kernel) rfl, tb1 (i := 11) (by decide +kernel) rfl, by decide +kernel, by decide +kernel, by decide +kernel⟩
theorem mv_X10_isWord : ca_mv yX10_isWord := ⟨tb7 (i := 35) (by decide +kernel) rfl, tbs (i := 69) (by decide +kernel) rfl⟩
theorem mt_X10_item : ca_mt yX10_item cX10_item 5 none 0 := ⟨tb7 (i := 28) (by decide +kernel) rfl, tb1 (i := 11) (by decide +kernel) rfl, by decide +kernel, by decide +kernel, by decide +kernel⟩
theorem mv_X10_item : ca_mv yX10_item := ⟨tb7 (i := 27) (by decide +kernel) rfl, tbs (i := 67) (by decide +kernel) rfl⟩
theorem mt_X10_judge : ca_mt yX10_judge cX10_judge 9 (some .int) 3 := ⟨tb7 (i := 106) (by decide +kernel) rfl, tb1 (i := 11) (by decide +kernel) rfl, by decide +kernel, by decide +kernel, by decide +kernel⟩
theorem mv_X10_judge : ca_mv yX10_judge := ⟨tb7 (i := 104) (by decide +kernel) rfl, tb7 (i := 105) (by decide +kernel) rfl⟩
theorem mt_X10_kept : ca_mt yX10_kept cX10_kept 3 (some .int) 2 := ⟨tb6 (i := 100) (by decide +kernel) rfl, tb1 (i := 11) (by decide +kernel) rfl, by decide +kernel, by decide +kernel, by decide +kernel⟩
theorem mv_X10_kept : ca_mv yX10_kept := ⟨tb6 (i := 98) (by decide +kernel) rfl, tb6 (i := 99) (by decide +kernel) rfl⟩
theorem mt_X10_keptOf : ca_mt yX10_keptOf cX10_keptOf 10 (some .int) 2 := ⟨tb6 (i := 104) (by decide +kernel) rfl, tb1 (i := 11) (by decide +kernel) rfl, by decide +kernel, by decide +kernel, by decide +kernel⟩
theorem mv_X10_keptOf : ca_mv yX10_keptOf := ⟨tb6 (i := 103) (by decide +kernel) rfl, tbs (i := 51) (by decide +kernel) rfl⟩
theorem mt_X10_kindHere : ca_mt yX10_kindHere cX10_kindHere 1 (some .int) 0 := ⟨tb7 (i := 32) (by decide +kernel) rfl, tb1 (i := 11) (by decide +kernel) rfl, by decide +kernel, by decide +kernel, by decide +kernel⟩
theorem mv_X10_kindHere : ca_mv yX10_kindHere := ⟨tb7 (i := 31) (by decide +kernel) rfl, tbs (i := 68) (by decide +kernel) rfl⟩
theorem mt_X10_latest : ca_mt yX10_latest cX10_latest 5 (some .int) 2 := ⟨tb5 (i := 239) (by decide +kernel) rfl, tb1 (i := 11) (by decide +kernel) rfl, by decide +kernel, by decide +kernel, by decide +kernel⟩
theorem mv_X10_latest : ca_mv yX10_latest := ⟨tb5 (i := 238) (by decide +kernel) rfl, tbs (i := 38) (by decide +kernel) rfl⟩
theorem mt_X10_lawful : ca_mt yX10_lawful cX10_lawful 4 (some .int) 1 := ⟨tb6 (i := 141) (by decide +kernel) rfl, tb1 (i := 11) (by decide +kernel) rfl, by decide +kernel, by decide +kernel, by decide +kernel⟩
theorem mv_X10_lawful : ca_mv yX10_lawful := ⟨tb6 (i := 140) (by decide +kernel) rfl, tbs (i := 57) (by decide +kernel) rfl⟩
theorem mt_X10_load : ca_mt yX10_load cX10_load 9 (some .int) 3 := ⟨tb7 (i := 101) (by decide +kernel) rfl, tb1 (i := 11) (by decide +kernel) rfl, by decide +kernel, by decide +kernel, by decide +kernel⟩
theorem mv_X10_load : ca_mv yX10_load := ⟨tb7 (i := 99) (by decide +kernel) rfl, tb7 (i := 100) (by decide +kernel) rfl⟩
theorem mt_X10_looks : ca_mt yX10_looks cX10_looks 5 none 2 := ⟨tb6 (i := 11) (by decide +kernel) rfl, tb1 (i := 11) (by decide +kernel) rfl, by decide +kernel, by decide +kernel, by decide +kernel⟩
theorem mv_X10_looks : ca_mv yX10_looks := ⟨tb6 (i := 10) (by decide +kernel) rfl, tbs (i := 39) (by decide +kernel) rfl⟩
theorem mt_X10_many : ca_mt yX10_many cX10_many 5 (some .int) 1 := ⟨tb7 (i := 122) (by decide +kernel) rfl, tb1 (i := 11) (by decide +kernel) rfl, by decide +kernel, by decide +kernel, by decide +kernel⟩
theorem mv_X10_many : ca_mv yX10_many := ⟨tb7 (i := 120) (by decide +kernel) rfl, tb7 (i := 121) (by decide +kernel) rfl⟩
theorem mt_X10_may : ca_mt yX10_may cX10_may 9 (some .int) 2 := ⟨tb6 (i := 154) (by decide +kernel) rfl, tb1 (i := 11) (by decide +kernel) rfl, by decide +kernel, by decide +kernel, by decide +kernel⟩
theorem mv_X10_may : ca_mv yX10_may := ⟨tb6 (i := 152) (by decide +kernel) rfl, tb6 (i := 153) (by decide +kernel) rfl⟩
theorem mt_X10_narrowed : ca_mt yX10_narrowed cX10_narrowed 2 (some .int) 2 := ⟨tb7 (i := 93) (by decide +kernel) rfl, tb1 (i := 11) (by decide +kernel) rfl, by decide +kernel, by decide +kernel, by decide +kernel⟩
theorem ms_X10_narrowed : Cond.static yX10_narrowed ∈ T0 := tb7 (i := 92) (by decide +kernel) rfl
theorem mt_X10_needs : ca_mt yX10_needs cX10_needs 2 none 1 := ⟨tb7 (i := 48) (by decide +kernel) rfl, tb1 (i := 11) (by decide +kernel) rfl, by decide +kernel, by decide +kernel, by decide +kernel⟩
theorem mv_X10_needs : ca_mv yX10_needs := ⟨tb7 (i := 47) (by decide +kernel) rfl, tbs (i := 72) (by decide +kernel) rfl⟩
theorem mt_X10_newTerm : ca_mt yX10_newTerm cX10_newTerm 5 (some .int) 3 := ⟨tb6 (i := 50) (by decide +kernel) rfl, tb1 (i := 11) (by decide +kernel) rfl, by decide +kernel, by decide +kernel, by decide +kernel⟩
theorem mv_X10_newTerm : ca_mv yX10_newTerm := ⟨tb6 (i := 49) (by decide +kernel) rfl, tbs (i := 45) (by decide +kernel) rfl⟩
theorem mt_X10_next : ca_mt yX10_next cX10_next 1 (some .int) 0 := ⟨tb6 (i := 28) (by decide +kernel) rfl, tb1 (i := 11) (by decide +kernel) rfl, by decide +kernel, by decide +kernel, by decide +kernel⟩
theorem mv_X10_next : ca_mv yX10_next := ⟨tb6 (i := 27) (by decide +kernel) rfl, tbs (i := 41) (by decide +kernel) rfl⟩
theorem mt_X10_number : ca_mt yX10_number cX10_number 6 none 2 := ⟨tb7 (i := 56) (by decide +kernel) rfl, tb1 (i := 11) (by decide +kernel) rfl, by decide +kernel, by decide +kernel, by decide +kernel⟩
theorem mv_X10_number : ca_mv yX10_number := ⟨tb7 (i := 55) (by decide +kernel) rfl, tbs (i := 74) (by decide +kernel) rfl⟩
theorem mt_X10_numberHere : ca_mt yX10_numberHere cX10_numberHere 3 (some .int) 0 := ⟨tb7 (i := 52) (by decide +kernel) rfl, tb1 (i := 11) (by decide +kernel) rfl, by decide +kernel, by decide +kernel, by decide +kernel⟩
theorem mv_X10_numberHere : ca_mv yX10_numberHere := ⟨tb7 (i := 51) (by decide +kernel) rfl, tbs (i := 73) (by decide +kernel) rfl⟩
theorem mt_X10_of : ca_mt yX10_of cX10_of 3 (some .int) 2 := ⟨tb6 (i := 46) (by decide +kernel) rfl, tb1 (i := 11) (by decide +kernel) rfl, by decide +kernel, by decide +kernel, by decide +kernel⟩
theorem mv_X10_of : ca_mv yX10_of := ⟨tb6 (i := 45) (by decide +kernel) rfl, tbs (i := 44) (by decide +kernel) rfl⟩
theorem mt_X10_open : ca_mt yX10_open cX10_open 2 (some .int) 1 := ⟨tb6 (i := 15) (by decide +kernel) rfl, tb1 (i := 11) (by decide +kernel) rfl, by decide +kernel, by decide +kernel, by decide +kernel⟩
theorem mv_X10_open : ca_mv yX10_open := ⟨tb6 (i := 14) (by decide +kernel) rfl, tbs (i := 40) (by decide +kernel) rfl⟩
theorem mt_X10_puts : ca_mt yX10_puts cX10_puts 2 none 0 := ⟨tb7 (i := 6) (by decide +kernel) rfl, tb1 (i := 11) (by decide +kernel) rfl, by decide +kernel, by decide +kernel, by decide +kernel⟩
theorem mv_X10_puts : ca_mv yX10_puts := ⟨tb7 (i := 5) (by decide +kernel) rfl, tbs (i := 64) (by decide +kernel) rfl⟩
theorem mt_X10_risk : ca_mt yX10_risk cX10_risk 10 (some .int) 4 := ⟨tb6 (i := 166) (by decide +kernel) rfl, tb1 (i := 11) (by decide +kernel) rfl, by decide +kernel, by decide +kernel, by decide +kernel⟩
theorem mv_X10_risk : ca_mv yX10_risk := ⟨tb6 (i := 164) (by decide +kernel) rfl, tb6 (i := 165) (by decide +kernel) rfl⟩
theorem mt_X10_risks : ca_mt yX10_risks cX10_risks 6 (some .int) 3 := ⟨tb6 (i := 172) (by decide +kernel) rfl, tb1 (i := 11) (by decide +kernel) rfl, by decide +kernel, by decide +kernel, by decide +kernel⟩
theorem mv_X10_risks : ca_mv yX10_risks := ⟨tb6 (i := 171) (by decide +kernel) rfl, tbs (i := 59) (by decide +kernel) rfl⟩
theorem mt_X10_road : ca_mt yX10_road cX10_road 5 (some .int) 3 := ⟨tb5 (i := 185) (by decide +kernel) rfl, tb1 (i := 11) (by decide +kernel) rfl, by decide +kernel, by decide +kernel, by decide +kernel⟩
theorem mv_X10_road : ca_mv yX10_road := ⟨tb5 (i := 183) (by decide +kernel) rfl, tb5 (i := 184) (by decide +kernel) rfl⟩
theorem mt_X10_roads : ca_mt yX10_roads cX10_roads 2 (some .int) 1 := ⟨tb5 (i := 201) (by decide +kernel) rfl, tb1 (i := 11) (by decide +kernel) rfl, by decide +kernel, by decide +kernel, by decide +kernel⟩
theorem mv_X10_roads : ca_mv yX10_roads := ⟨tb5 (i := 199) (by decide +kernel) rfl, tb5 (i := 200) (by decide +kernel) rfl⟩
theorem mt_X10_seed : ca_mt yX10_seed cX10_seed 3 (some .int) 1 := ⟨tb6 (i := 230) (by decide +kernel) rfl, tb1 (i := 11) (by decide +kernel) rfl, by decide +kernel, by decide +kernel, by decide +kernel⟩
theorem mv_X10_seed : ca_mv yX10_seed := ⟨tb6 (i := 228) (by decide +kernel) rfl, tb6 (i := 229) (by decide +kernel) rfl⟩
theorem mt_X10_seen : ca_mt yX10_seen cX10_seen 4 (some .int) 3 := ⟨tb5 (i := 217) (by decide +kernel) rfl, tb1 (i := 11) (by decide +kernel) rfl, by decide +kernel, by decide +kernel, by decide +kernel⟩
theorem mv_X10_seen : ca_mv yX10_seen := ⟨tb5 (i := 215) (by decide +kernel) rfl, tb5 (i := 216) (by decide +kernel) rfl⟩
theorem mt_X10_seenOf : ca_mt yX10_seenOf cX10_seenOf 4 (some .int) 2 := ⟨tb5 (i := 234) (by decide +kernel) rfl, tb1 (i := 11) (by decide +kernel) rfl, by decide +kernel, by decide +kernel, by decide +kernel⟩
theorem mv_X10_seenOf : ca_mv yX10_seenOf := ⟨tb5 (i := 232) (by decide +kernel) rfl, tb5 (i := 233) (by decide +kernel) rfl⟩
theorem mt_X10_sees : ca_mt yX10_sees cX10_sees 5 (some .int) 3 := ⟨tb5 (i := 230) (by decide +kernel) rfl, tb1 (i := 11) (by decide +kernel) rfl, by decide +kernel, by decide +kernel, by decide +kernel⟩
theorem mv_X10_sees : ca_mv yX10_sees := ⟨tb5 (i := 229) (by decide +kernel) rfl, tbs (i := 37) (by decide +kernel) rfl⟩
theorem mt_X10_sheet : ca_mt yX10_sheet cX10_sheet 5 (some .int) 3 := ⟨tb7 (i := 78) (by decide +kernel) rfl, tb1 (i := 11) (by decide +kernel) rfl, by decide +kernel, by decide +kernel, by decide +kernel⟩
theorem mv_X10_sheet : ca_mv yX10_sheet := ⟨tb7 (i := 76) (by decide +kernel) rfl, tb7 (i := 77) (by decide +kernel) rfl⟩
theorem mt_X10_span : ca_mt yX10_span cX10_span 5 (some .int) 4 := ⟨tb6 (i := 66) (by decide +kernel) rfl, tb1 (i := 11) (by decide +kernel) rfl, by decide +kernel, by decide +kernel, by decide +kernel⟩
theorem mv_X10_span : ca_mv yX10_span := ⟨tb6 (i := 64) (by decide +kernel) rfl, tb6 (i := 65) (by decide +kernel) rfl⟩
theorem mt_X10_spanItem : ca_mt yX10_spanItem cX10_spanItem 4 none 2 := ⟨tb7 (i := 60) (by decide +kernel) rfl, tb1 (i := 11) (by decide +kernel) rfl, by decide +kernel, by decide +kernel, by decide +kernel⟩
theorem mv_X10_spanItem : ca_mv yX10_spanItem := ⟨tb7 (i := 59) (by decide +kernel) rfl, tbs (i := 75) (by decide +kernel) rfl⟩
theorem mt_X10_status : ca_mt yX10_status cX10_status 4 (some .int) 1 := ⟨tb7 (i := 126) (by decide +kernel) rfl, tb1 (i := 11) (by decide +kernel) rfl, by decide +kernel, by decide +kernel, by decide +kernel⟩
theorem mv_X10_status : ca_mv yX10_status := ⟨tb7 (i := 124) (by decide +kernel) rfl, tb7 (i := 125) (by decide +kernel) rfl⟩
theorem mt_X10_strict : ca_mt yX10_strict cX10_strict 5 (some .int) 3 := ⟨tb6 (i := 179) (by decide +kernel) rfl, tb1 (i := 11) (by decide +kernel) rfl, by decide +kernel, by decide +kernel, by decide +kernel⟩
theorem mv_X10_strict : ca_mv yX10_strict := ⟨tb6 (i := 177) (by decide +kernel) rfl, tb6 (i := 178) (by decide +kernel) rfl⟩
theorem mt_X10_surety : ca_mt yX10_surety cX10_surety 4 (some .int) 3 := ⟨tb6 (i := 184) (by decide +kernel) rfl, tb1 (i := 11) (by decide +kernel) rfl, by decide +kernel, by decide +kernel, by decide +kernel⟩
theorem mv_X10_surety : ca_mv yX10_surety := ⟨tb6 (i := 182) (by decide +kernel) rfl, tb6 (i := 183) (by decide +kernel) rfl⟩
theorem mt_X10_suretyOf : ca_mt yX10_suretyOf cX10_suretyOf 3 (some .int) 2 := ⟨tb6 (i := 214) (by decide +kernel) rfl, tb1 (i := 11) (by decide +kernel) rfl, by decide +kernel, by decide +kernel, by decide +kernel⟩
theorem mv_X10_suretyOf : ca_mv yX10_suretyOf := ⟨tb6 (i := 212) (by decide +kernel) rfl, tb6 (i := 213) (by decide +kernel) rfl⟩
theorem mt_X10_tear : ca_mt yX10_tear cX10_tear 2 (some .int) 0 := ⟨tb7 (i := 118) (by decide +kernel) rfl, tb1 (i := 11) (by decide +kernel) rfl, by decide +kernel, by decide +kernel, by decide +kernel⟩
theorem mv_X10_tear : ca_mv yX10_tear := ⟨tb7 (i := 116) (by decide +kernel) rfl, tb7 (i := 117) (by decide +kernel) rfl⟩
theorem mt_X10_tens : ca_mt yX10_tens cX10_tens 3 (some .int) 1 := ⟨tb6 (i := 175) (by decide +kernel) rfl, tb1 (i := 11) (by decide +kernel) rfl, by decide +kernel, by decide +kernel, by decide +kernel⟩
theorem ms_X10_tens : Cond.static yX10_tens ∈ T0 := tb6 (i := 174) (by decide +kernel) rfl
theorem mt_X10_term : ca_mt yX10_term cX10_term 4 (some .int) 3 := ⟨tb6 (i := 33) (by decide +kernel) rfl, tb1 (i := 11) (by decide +kernel) rfl, by decide +kernel, by decide +kernel, by decide +kernel⟩
theorem mv_X10_term : ca_mv yX10_term := ⟨tb6 (i := 31) (by decide +kernel) rfl, tb6 (i := 32) (by decide +kernel) rfl⟩
theorem mt_X10_termItem : ca_mt yX10_termItem cX10_termItem 4 none 1 := ⟨tb7 (i := 44) (by decide +kernel) rfl, tb1 (i := 11) (by decide +kernel) rfl, by decide +kernel, by decide +kernel, by decide +kernel⟩
theorem mv_X10_termItem : ca_mv yX10_termItem := ⟨tb7 (i := 43) (by decide +kernel) rfl, tbs (i := 71) (by decide +kernel) rfl⟩
theorem mt_X10_termOf : ca_mt yX10_termOf cX10_termOf 3 (some .int) 2 := ⟨tb6 (i := 54) (by decide +kernel) rfl, tb1 (i := 11) (by decide +kernel) rfl, by decide +kernel, by decide +kernel, by decide +kernel⟩
theorem mv_X10_termOf : ca_mv yX10_termOf := ⟨tb6 (i := 52) (by decide +kernel) rfl, tb6 (i := 53) (by decide +kernel) rfl⟩
theorem mt_X10_termsOf : ca_mt yX10_termsOf cX10_termsOf 4 (some .int) 1 := ⟨tb6 (i := 42) (by decide +kernel) rfl, tb1 (i := 11) (by decide +kernel) rfl, by decide +kernel, by decide +kernel, by decide +kernel⟩
theorem mv_X10_termsOf : ca_mv yX10_termsOf := ⟨tb6 (i := 41) (by decide +kernel) rfl, tbs (i := 43) (by decide +kernel) rfl⟩
theorem mt_X10_text : ca_mt yX10_text cX10_text 3 (some .int) 0 := ⟨tb7 (i := 2) (by decide +kernel) rfl, tb1 (i := 11) (by decide +kernel) rfl, by decide +kernel, by decide +kernel, by decide +kernel⟩
theorem mv_X10_text : ca_mv yX10_text := ⟨tb7 (i := 0) (by decide +kernel) rfl, tb7 (i := 1) (by decide +kernel) rfl⟩
theorem mt_X10_token : ca_mt yX10_token cX10_token 3 none 0 := ⟨tb7 (i := 10) (by decide +kernel) rfl, tb1 (i := 11) (by decide +kernel) rfl, by decide +kernel, by decide +kernel, by decide +kernel⟩
theorem mv_X10_token : ca_mv yX10_token := ⟨tb7 (i := 9) (by decide +kernel) rfl, tbs (i := 65) (by decide +kernel) rfl⟩
theorem mt_X10_turn : ca_mt yX10_turn cX10_turn 4 (some .int) 2 := ⟨tb6 (i := 71) (by decide +kernel) rfl, tb1 (i := 11) (by decide +kernel) rfl, by decide +kernel, by decide +kernel, by decide +kernel⟩
theorem mv_X10_turn : ca_mv yX10_turn := ⟨tb6 (i := 69) (by decide +kernel) rfl, tb6 (i := 70) (by decide +kernel) rfl⟩
theorem mt_X10_undo : ca_mt yX10_undo cX10_undo 2 (some .int) 0 := ⟨tb7 (i := 114) (by decide +kernel) rfl, tb1 (i := 11) (by decide +kernel) rfl, by decide +kernel, by decide +kernel, by decide +kernel⟩
theorem mv_X10_undo : ca_mv yX10_undo := ⟨tb7 (i := 112) (by decide +kernel) rfl, tb7 (i := 113) (by decide +kernel) rfl⟩
theorem mt_X10_way : ca_mt yX10_way cX10_way 12 (some .int) 2 := ⟨tb6 (i := 125) (by decide +kernel) rfl, tb1 (i := 11) (by decide +kernel) rfl, by decide +kernel, by decide +kernel, by decide +kernel⟩
theorem mv_X10_way : ca_mv yX10_way := ⟨tb6 (i := 123) (by decide +kernel) rfl, tb6 (i := 124) (by decide +kernel) rfl⟩
theorem mt_X10_ways : ca_mt yX10_ways cX10_ways 6 (some .int) 2 := ⟨tb6 (i := 158) (by decide +kernel) rfl, tb1 (i := 11) (by decide +kernel) rfl, by decide +kernel, by decide +kernel, by decide +kernel⟩
theorem mv_X10_ways : ca_mv yX10_ways := ⟨tb6 (i := 156) (by decide +kernel) rfl, tb6 (i := 157) (by decide +kernel) rfl⟩
theorem mt_X10_where : ca_mt yX10_where cX10_where 4 (some .int) 2 := ⟨tb6 (i := 3) (by decide +kernel) rfl, tb1 (i := 11) (by decide +kernel) rfl, by decide +kernel, by decide +kernel, by decide +kernel⟩
theorem mv_X10_where : ca_mv yX10_where := ⟨tb6 (i := 1) (by decide +kernel) rfl, tb6 (i := 2) (by decide +kernel) rfl⟩
theorem mt_X10_wipe : ca_mt yX10_wipe cX10_wipe 2 (some .int) 0 := ⟨tb6 (i := 238) (by decide +kernel) rfl, tb1 (i := 11) (by decide +kernel) rfl, by decide +kernel, by decide +kernel, by decide +kernel⟩
theorem mv_X10_wipe : ca_mv yX10_wipe := ⟨tb6 (i := 236) (by decide +kernel) rfl, tb6 (i := 237) (by decide +kernel) rfl⟩
theorem mt_X10_write : ca_mt yX10_write cX10_write 5 (some .int) 3 := ⟨tb7 (i := 86) (by decide +kernel) rfl, tb1 (i := 11) (by decide +kernel) rfl, by decide +kernel, by decide +kernel, by decide +kernel⟩
theorem mv_X10_write : ca_mv yX10_write := ⟨tb7 (i := 84) (by decide +kernel) rfl, tb7 (i := 85) (by decide +kernel) rfl⟩
theorem mt_X10_wrong : ca_mt yX10_wrong cX10_wrong 2 (some .int) 1 := ⟨tb7 (i := 90) (by decide +kernel) rfl, tb1 (i := 11) (by decide +kernel) rfl, by decide +kernel, by decide +kernel, by decide +kernel⟩
theorem mv_X10_wrong : ca_mv yX10_wrong := ⟨tb7 (i := 89) (by decide +kernel) rfl, tbs (i := 76) (by decide +kernel) rfl⟩
theorem mt_X1_arrive : ca_mt yX1_arrive cX1_arrive 5 none 3 := ⟨tb2 (i := 172) (by decide +kernel) rfl, tb1 (i := 9) (by decide +kernel) rfl, by decide +kernel, by decide +kernel, by decide +kernel⟩
theorem mv_X1_arrive : ca_mv yX1_arrive := ⟨tb2 (i := 171) (by decide +kernel) rfl, tbs (i := 5) (by decide +kernel) rfl⟩
theorem mt_X1_bestNext : ca_mt yX1_bestNext cX1_bestNext 7 (some .int) 3 := ⟨tb3 (i := 105) (by decide +kernel) rfl, tb1 (i := 9) (by decide +kernel) rfl, by decide +kernel, by decide +kernel, by decide +kernel⟩
theorem mv_X1_bestNext : ca_mv yX1_bestNext := ⟨tb3 (i := 104) (by decide +kernel) rfl, tbs (i := 16) (by decide +kernel) rfl⟩
theorem mt_X1_clearNext : ca_mt yX1_clearNext cX1_clearNext 3 none 1 := ⟨tb3 (i := 125) (by decide +kernel) rfl, tb1 (i := 9) (by decide +kernel) rfl, by decide +kernel, by decide +kernel, by decide +kernel⟩
theorem mv_X1_clearNext : ca_mv yX1_clearNext := ⟨tb3 (i := 124) (by decide +kernel) rfl, tbs (i := 17) (by decide +kernel) rfl⟩
theorem mt_X1_cost : ca_mt yX1_cost cX1_cost 3 (some .int) 2 := ⟨tb2 (i := 202) (by decide +kernel) rfl, tb1 (i := 9) (by decide +kernel) rfl, by decide +kernel, by decide +kernel, by decide +kernel⟩
theorem mv_X1_cost : ca_mv yX1_cost := ⟨tb2 (i := 201) (by decide +kernel) rfl, tbs (i := 11) (by decide +kernel) rfl⟩
theorem mt_X1_exploreBack : ca_mt yX1_exploreBack cX1_exploreBack 4 none 0 := ⟨tb2 (i := 184) (by decide +kernel) rfl, tb1 (i := 9) (by decide +kernel) rfl, by decide +kernel, by decide +kernel, by decide +kernel⟩
theorem mv_X1_exploreBack : ca_mv yX1_exploreBack := ⟨tb2 (i := 182) (by decide +kernel) rfl, tb2 (i := 183) (by decide +kernel) rfl⟩
theorem mt_X1_exploreForth : ca_mt yX1_exploreForth cX1_exploreForth 5 none 0 := ⟨tb2 (i := 164) (by decide +kernel) rfl, tb1 (i := 9) (by decide +kernel) rfl, by decide +kernel, by decide +kernel, by decide +kernel⟩
theorem mv_X1_exploreForth : ca_mv yX1_exploreForth := ⟨tb2 (i := 162) (by decide +kernel) rfl, tb2 (i := 163) (by decide +kernel) rfl⟩
theorem mt_X1_howMany : ca_mt yX1_howMany cX1_howMany 4 (some .int) 0 := ⟨tb3 (i := 121) (by decide +kernel) rfl, tb1 (i := 9) (by decide +kernel) rfl, by decide +kernel, by decide +kernel, by decide +kernel⟩
theorem mv_X1_howMany : ca_mv yX1_howMany := ⟨tb3 (i := 119) (by decide +kernel) rfl, tb3 (i := 120) (by decide +kernel) rfl⟩
theorem mt_X1_init : ca_mt yX1_init cX1_init 1 none 0 := ⟨tb1 (i := 184) (by decide +kernel) rfl, tb1 (i := 9) (by decide +kernel) rfl, by decide +kernel, by decide +kernel, by decide +kernel⟩
theorem mt_X1_isAllowed : ca_mt yX1_isAllowed cX1_isAllowed 3 (some .boolean) 2 := ⟨tb3 (i := 129) (by decide +kernel) rfl, tb1 (i := 9) (by decide +kernel) rfl, by decide +kernel, by decide +kernel, by decide +kernel⟩
theorem mv_X1_isAllowed : ca_mv yX1_isAllowed := ⟨tb3 (i := 127) (by decide +kernel) rfl, tb3 (i := 128) (by decide +kernel) rfl⟩
theorem mt_X1_isThereOne : ca_mt yX1_isThereOne cX1_isThereOne 1 (some .boolean) 0 := ⟨tb3 (i := 97) (by decide +kernel) rfl, tb1 (i := 9) (by decide +kernel) rfl, by decide +kernel, by decide +kernel, by decide +kernel⟩
theorem mv_X1_isThereOne : ca_mv yX1_isThereOne := ⟨tb3 (i := 95) (by decide +kernel) rfl, tb3 (i := 96) (by decide +kernel) rfl⟩
theorem mt_X1_leadOn : ca_mt yX1_leadOn cX1_leadOn 5 none 2 := ⟨tb3 (i := 136) (by decide +kernel) rfl, tb1 (i := 9) (by decide +kernel) rfl, by decide +kernel, by decide +kernel, by decide +kernel⟩
theorem mv_X1_leadOn : ca_mv yX1_leadOn := ⟨tb3 (i := 135) (by decide +kernel) rfl, tbs (i := 18) (by decide +kernel) rfl⟩
theorem mt_X1_leadingTo : ca_mt yX1_leadingTo cX1_leadingTo 5 (some .int) 2 := ⟨tb3 (i := 140) (by decide +kernel) rfl, tb1 (i := 9) (by decide +kernel) rfl, by decide +kernel, by decide +kernel, by decide +kernel⟩
theorem mv_X1_leadingTo : ca_mv yX1_leadingTo := ⟨tb3 (i := 139) (by decide +kernel) rfl, tbs (i := 19) (by decide +kernel) rfl⟩
theorem mt_X1_leastCost : ca_mt yX1_leastCost cX1_leastCost 4 (some .int) 1 := ⟨tb2 (i := 206) (by decide +kernel) rfl, tb1 (i := 9) (by decide +kernel) rfl, by decide +kernel, by decide +kernel, by decide +kernel⟩
theorem mv_X1_leastCost : ca_mv yX1_leastCost := ⟨tb2 (i := 205) (by decide +kernel) rfl, tbs (i := 12) (by decide +kernel) rfl⟩
theorem mt_X1_lookAhead : ca_mt yX1_lookAhead cX1_lookAhead 4 none 2 := ⟨tb2 (i := 198) (by decide +kernel) rfl, tb1 (i := 9) (by decide +kernel) rfl, by decide +kernel, by decide +kernel, by decide +kernel⟩
theorem mv_X1_lookAhead : ca_mv yX1_lookAhead := ⟨tb2 (i := 197) (by decide +kernel) rfl, tbs (i := 10) (by decide +kernel) rfl⟩
theorem mt_X1_obey : ca_mt yX1_obey cX1_obey 10 none 2 := ⟨tb2 (i := 143) (by decide +kernel) rfl, tb1 (i := 9) (by decide +kernel) rfl, by decide +kernel, by decide +kernel, by decide +kernel⟩
theorem mv_X1_obey : ca_mv yX1_obey := ⟨tb2 (i := 142) (by decide +kernel) rfl, tbs (i := 3) (by decide +kernel) rfl⟩
theorem mt_X1_pay : ca_mt yX1_pay cX1_pay 4 (some .int) 3 := ⟨tb2 (i := 176) (by decide +kernel) rfl, tb1 (i := 9) (by decide +kernel) rfl, by decide +kernel, by decide +kernel, by decide +kernel⟩
theorem mv_X1_pay : ca_mv yX1_pay := ⟨tb2 (i := 175) (by decide +kernel) rfl, tbs (i := 6) (by decide +kernel) rfl⟩
theorem mt_X1_placesIn : ca_mt yX1_placesIn cX1_placesIn 6 (some .int) 1 := ⟨tb2 (i := 210) (by decide +kernel) rfl, tb1 (i := 9) (by decide +kernel) rfl, by decide +kernel, by decide +kernel, by decide +kernel⟩
theorem mv_X1_placesIn : ca_mv yX1_placesIn := ⟨tb2 (i := 208) (by decide +kernel) rfl, tb2 (i := 209) (by decide +kernel) rfl⟩
theorem mt_X1_prepare : ca_mt yX1_prepare cX1_prepare 6 none 4 := ⟨tb2 (i := 133) (by decide +kernel) rfl, tb1 (i := 9) (by decide +kernel) rfl, by decide +kernel, by decide +kernel, by decide +kernel⟩
theorem mv_X1_prepare : ca_mv yX1_prepare := ⟨tb2 (i := 131) (by decide +kernel) rfl, tb2 (i := 132) (by decide +kernel) rfl⟩
theorem mt_X1_row : ca_mt yX1_row cX1_row 3 (some .int) 2 := ⟨tb2 (i := 168) (by decide +kernel) rfl, tb1 (i := 9) (by decide +kernel) rfl, by decide +kernel, by decide +kernel, by decide +kernel⟩
theorem mv_X1_row : ca_mv yX1_row := ⟨tb2 (i := 167) (by decide +kernel) rfl, tbs (i := 4) (by decide +kernel) rfl⟩
theorem mt_X1_setCost : ca_mt yX1_setCost cX1_setCost 5 none 3 := ⟨tb2 (i := 189) (by decide +kernel) rfl, tb1 (i := 9) (by decide +kernel) rfl, by decide +kernel, by decide +kernel, by decide +kernel⟩
theorem mv_X1_setCost : ca_mv yX1_setCost := ⟨tb2 (i := 188) (by decide +kernel) rfl, tbs (i := 8) (by decide +kernel) rfl⟩
theorem mt_X1_stepFrom : ca_mt yX1_stepFrom cX1_stepFrom 4 (some .int) 1 := ⟨tb2 (i := 180) (by decide +kernel) rfl, tb1 (i := 9) (by decide +kernel) rfl, by decide +kernel, by decide +kernel, by decide +kernel⟩
theorem mv_X1_stepFrom : ca_mv yX1_stepFrom := ⟨tb2 (i := 179) (by decide +kernel) rfl, tbs (i := 7) (by decide +kernel) rfl⟩
theorem mt_X1_tellBest : ca_mt yX1_tellBest cX1_tellBest 6 (some .int) 1 := ⟨tb3 (i := 101) (by decide +kernel) rfl, tb1 (i := 9) (by decide +kernel) rfl, by decide +kernel, by decide +kernel, by decide +kernel⟩
theorem mv_X1_tellBest : ca_mv yX1_tellBest := ⟨tb3 (i := 99) (by decide +kernel) rfl, tb3 (i := 100) (by decide +kernel) rfl⟩
theorem mt_X1_weigh : ca_mt yX1_weigh cX1_weigh 6 none 2 := ⟨tb2 (i := 194) (by decide +kernel) rfl, tb1 (i := 9) (by decide +kernel) rfl, by decide +kernel, by decide +kernel, by decide +kernel⟩
theorem mv_X1_weigh : ca_mv yX1_weigh := ⟨tb2 (i := 193) (by decide +kernel) rfl, tbs (i := 9) (by decide +kernel) rfl⟩
theorem mt_X2_areJoined : ca_mt yX2_areJoined cX2_areJoined 3 (some .boolean) 2 := ⟨tb2 (i := 40) (by decide +kernel) rfl, tb1 (i := 3) (by decide +kernel) rfl, by decide +kernel, by decide +kernel, by decide +kernel⟩
theorem mv_X2_areJoined : ca_mv yX2_areJoined := ⟨tb2 (i := 38) (by decide +kernel) rfl, tb2 (i := 39) (by decide +kernel) rfl⟩
theorem mt_X2_fewestMoves : ca_mt yX2_fewestMoves cX2_fewestMoves 5 (some .int) 2 := ⟨tb2 (i := 63) (by decide +kernel) rfl, tb1 (i := 3) (by decide +kernel) rfl, by decide +kernel, by decide +kernel, by decide +kernel⟩
theorem mv_X2_fewestMoves : ca_mv yX2_fewestMoves := ⟨tb2 (i := 61) (by decide +kernel) rfl, tb2 (i := 62) (by decide +kernel) rfl⟩
theorem mt_X2_init : ca_mt yX2_init cX2_init 1 none 0 := ⟨tb1 (i := 37) (by decide +kernel) rfl, tb1 (i := 3) (by decide +kernel) rfl, by decide +kernel, by decide +kernel, by decide +kernel⟩
theorem mt_X2_join : ca_mt yX2_join cX2_join 4 none 3 := ⟨tb2 (i := 47) (by decide +kernel) rfl, tb1 (i := 3) (by decide +kernel) rfl, by decide +kernel, by decide +kernel, by decide +kernel⟩
theorem mv_X2_join : ca_mv yX2_join := ⟨tb2 (i := 45) (by decide +kernel) rfl, tb2 (i := 46) (by decide +kernel) rfl⟩
theorem mt_X2_neighboursOf : ca_mt yX2_neighboursOf cX2_neighboursOf 2 (some .int) 1 := ⟨tb2 (i := 55) (by decide +kernel) rfl, tb1 (i := 3) (by decide +kernel) rfl, by decide +kernel, by decide +kernel, by decide +kernel⟩
theorem mv_X2_neighboursOf : ca_mv yX2_neighboursOf := ⟨tb2 (i := 53) (by decide +kernel) rfl, tb2 (i := 54) (by decide +kernel) rfl⟩
theorem mt_X2_roadCount : ca_mt yX2_roadCount cX2_roadCount 3 (some .int) 0 := ⟨tb5 (i := 68) (by decide +kernel) rfl, tb1 (i := 3) (by decide +kernel) rfl, by decide +kernel, by decide +kernel, by decide +kernel⟩
theorem mv_X2_roadCount : ca_mv yX2_roadCount := ⟨tb5 (i := 66) (by decide +kernel) rfl, tb5 (i := 67) (by decide +kernel) rfl⟩
theorem mt_X2_stepFrom : ca_mt yX2_stepFrom cX2_stepFrom 4 (some .int) 1 := ⟨tb2 (i := 67) (by decide +kernel) rfl, tb1 (i := 3) (by decide +kernel) rfl, by decide +kernel, by decide +kernel, by decide +kernel⟩
theorem mv_X2_stepFrom : ca_mv yX2_stepFrom := ⟨tb2 (i := 65) (by decide +kernel) rfl, tb2 (i := 66) (by decide +kernel) rfl⟩
theorem mt_X2_takeFrom : ca_mt yX2_takeFrom cX2_takeFrom 2 none 1 := ⟨tb5 (i := 34) (by decide +kernel) rfl, tb1 (i := 3) (by decide +kernel) rfl, by decide +kernel, by decide +kernel, by decide +kernel⟩
theorem mv_X2_takeFrom : ca_mv yX2_takeFrom := ⟨tb5 (i := 32) (by decide +kernel) rfl, tb5 (i := 33) (by decide +kernel) rfl⟩
theorem mt_X3_advance : ca_mt yX3_advance cX3_advance 2 none 0 := ⟨tb4 (i := 55) (by decide +kernel) rfl, tb1 (i := 7) (by decide +kernel) rfl, by decide +kernel, by decide +kernel, by decide +kernel⟩
theorem mv_X3_advance : ca_mv yX3_advance := ⟨tb4 (i := 54) (by decide +kernel) rfl, tbs (i := 20) (by decide +kernel) rfl⟩
theorem mt_X3_clear : ca_mt yX3_clear cX3_clear 1 none 0 := ⟨tb4 (i := 38) (by decide +kernel) rfl, tb1 (i := 7) (by decide +kernel) rfl, by decide +kernel, by decide +kernel, by decide +kernel⟩
theorem mv_X3_clear : ca_mv yX3_clear := ⟨tb4 (i := 36) (by decide +kernel) rfl, tb4 (i := 37) (by decide +kernel) rfl⟩
theorem mt_X3_findFault : ca_mt yX3_findFault cX3_findFault 3 (some .int) 1 := ⟨tb4 (i := 46) (by decide +kernel) rfl, tb1 (i := 7) (by decide +kernel) rfl, by decide +kernel, by decide +kernel, by decide +kernel⟩
theorem mv_X3_findFault : ca_mv yX3_findFault := ⟨tb4 (i := 44) (by decide +kernel) rfl, tb4 (i := 45) (by decide +kernel) rfl⟩
theorem mt_X3_init : ca_mt yX3_init cX3_init 1 none 0 := ⟨tb1 (i := 128) (by decide +kernel) rfl, tb1 (i := 7) (by decide +kernel) rfl, by decide +kernel, by decide +kernel, by decide +kernel⟩
theorem mt_X3_isTokenText : ca_mt yX3_isTokenText cX3_isTokenText 3 (some .boolean) 1 := ⟨tb4 (i := 73) (by decide +kernel) rfl, tb1 (i := 7) (by decide +kernel) rfl, by decide +kernel, by decide +kernel, by decide +kernel⟩
theorem mv_X3_isTokenText : ca_mv yX3_isTokenText := ⟨tb4 (i := 72) (by decide +kernel) rfl, tbs (i := 24) (by decide +kernel) rfl⟩
theorem mt_X3_item : ca_mt yX3_item cX3_item 3 (some .int) 2 := ⟨tb4 (i := 168) (by decide +kernel) rfl, tb1 (i := 7) (by decide +kernel) rfl, by decide +kernel, by decide +kernel, by decide +kernel⟩
theorem mv_X3_item : ca_mv yX3_item := ⟨tb4 (i := 166) (by decide +kernel) rfl, tb4 (i := 167) (by decide +kernel) rfl⟩
theorem mt_X3_itemCount : ca_mt yX3_itemCount cX3_itemCount 1 (some .int) 0 := ⟨tb4 (i := 160) (by decide +kernel) rfl, tb1 (i := 7) (by decide +kernel) rfl, by decide +kernel, by decide +kernel, by decide +kernel⟩
theorem mv_X3_itemCount : ca_mv yX3_itemCount := ⟨tb4 (i := 158) (by decide +kernel) rfl, tb4 (i := 159) (by decide +kernel) rfl⟩
theorem mt_X3_kindOfWord : ca_mt yX3_kindOfWord cX3_kindOfWord 2 (some .int) 0 := ⟨tb4 (i := 142) (by decide +kernel) rfl, tb1 (i := 7) (by decide +kernel) rfl, by decide +kernel, by decide +kernel, by decide +kernel⟩
theorem mv_X3_kindOfWord : ca_mv yX3_kindOfWord := ⟨tb4 (i := 141) (by decide +kernel) rfl, tbs (i := 29) (by decide +kernel) rfl⟩
theorem mt_X3_kindText : ca_mt yX3_kindText cX3_kindText 1 (some (.object "java/lang/String")) 1 := ⟨tb4 (i := 145) (by decide +kernel) rfl, tb1 (i := 7) (by decide +kernel) rfl, by decide +kernel, by decide +kernel, by decide +kernel⟩
theorem ms_X3_kindText : Cond.static yX3_kindText ∈ T0 := tb4 (i := 144) (by decide +kernel) rfl
theorem mt_X3_put : ca_mt yX3_put cX3_put 2 none 1 := ⟨tb4 (i := 26) (by decide +kernel) rfl, tb1 (i := 7) (by decide +kernel) rfl, by decide +kernel, by decide +kernel, by decide +kernel⟩
theorem mv_X3_put : ca_mv yX3_put := ⟨tb4 (i := 24) (by decide +kernel) rfl, tb4 (i := 25) (by decide +kernel) rfl⟩
theorem mt_X3_readItem : ca_mt yX3_readItem cX3_readItem 3 none 0 := ⟨tb4 (i := 64) (by decide +kernel) rfl, tb1 (i := 7) (by decide +kernel) rfl, by decide +kernel, by decide +kernel, by decide +kernel⟩
theorem mv_X3_readItem : ca_mv yX3_readItem := ⟨tb4 (i := 63) (by decide +kernel) rfl, tbs (i := 22) (by decide +kernel) rfl⟩
theorem mt_X3_readTerm : ca_mt yX3_readTerm cX3_readTerm 11 none 0 := ⟨tb4 (i := 138) (by decide +kernel) rfl, tb1 (i := 7) (by decide +kernel) rfl, by decide +kernel, by decide +kernel, by decide +kernel⟩
theorem mv_X3_readTerm : ca_mv yX3_readTerm := ⟨tb4 (i := 137) (by decide +kernel) rfl, tbs (i := 28) (by decide +kernel) rfl⟩
theorem mt_X3_refuse : ca_mt yX3_refuse cX3_refuse 1 (some .int) 0 := ⟨tb4 (i := 129) (by decide +kernel) rfl, tb1 (i := 7) (by decide +kernel) rfl, by decide +kernel, by decide +kernel, by decide +kernel⟩
theorem mv_X3_refuse : ca_mv yX3_refuse := ⟨tb4 (i := 128) (by decide +kernel) rfl, tbs (i := 26) (by decide +kernel) rfl⟩
theorem mt_X3_room : ca_mt yX3_room cX3_room 1 (some .int) 0 := ⟨tb4 (i := 22) (by decide +kernel) rfl, tb1 (i := 7) (by decide +kernel) rfl, by decide +kernel, by decide +kernel, by decide +kernel⟩
theorem mv_X3_room : ca_mv yX3_room := ⟨tb4 (i := 20) (by decide +kernel) rfl, tb4 (i := 21) (by decide +kernel) rfl⟩
theorem mt_X3_setDown : ca_mt yX3_setDown cX3_setDown 5 none 3 := ⟨tb4 (i := 133) (by decide +kernel) rfl, tb1 (i := 7) (by decide +kernel) rfl, by decide +kernel, by decide +kernel, by decide +kernel⟩
theorem mv_X3_setDown : ca_mv yX3_setDown := ⟨tb4 (i := 132) (by decide +kernel) rfl, tbs (i := 27) (by decide +kernel) rfl⟩
theorem mt_X3_size : ca_mt yX3_size cX3_size 1 (some .int) 0 := ⟨tb4 (i := 30) (by decide +kernel) rfl, tb1 (i := 7) (by decide +kernel) rfl, by decide +kernel, by decide +kernel, by decide +kernel⟩
theorem mv_X3_size : ca_mv yX3_size := ⟨tb4 (i := 28) (by decide +kernel) rfl, tb4 (i := 29) (by decide +kernel) rfl⟩
theorem mt_X3_sortAt : ca_mt yX3_sortAt cX3_sortAt 3 (some .int) 1 := ⟨tb4 (i := 59) (by decide +kernel) rfl, tb1 (i := 7) (by decide +kernel) rfl, by decide +kernel, by decide +kernel, by decide +kernel⟩
theorem mv_X3_sortAt : ca_mv yX3_sortAt := ⟨tb4 (i := 58) (by decide +kernel) rfl, tbs (i := 21) (by decide +kernel) rfl⟩
theorem mt_X3_takeNumber : ca_mt yX3_takeNumber cX3_takeNumber 4 (some .int) 2 := ⟨tb4 (i := 125) (by decide +kernel) rfl, tb1 (i := 7) (by decide +kernel) rfl, by decide +kernel, by decide +kernel, by decide +kernel⟩
theorem mv_X3_takeNumber : ca_mv yX3_takeNumber := ⟨tb4 (i := 124) (by decide +kernel) rfl, tbs (i := 25) (by decide +kernel) rfl⟩
theorem mt_X3_takeWord : ca_mt yX3_takeWord cX3_takeWord 2 (some .boolean) 1 := ⟨tb4 (i := 69) (by decide +kernel) rfl, tb1 (i := 7) (by decide +kernel) rfl, by decide +kernel, by decide +kernel, by decide +kernel⟩
theorem mv_X3_takeWord : ca_mv yX3_takeWord := ⟨tb4 (i := 68) (by decide +kernel) rfl, tbs (i := 23) (by decide +kernel) rfl⟩
theorem mt_X4_areBits : ca_mt yX4_areBits cX4_areBits 1 (some .boolean) 1 := ⟨tb4 (i := 200) (by decide +kernel) rfl, tb1 (i := 8) (by decide +kernel) rfl, by decide +kernel, by decide +kernel, by decide +kernel⟩
theorem ms_X4_areBits : Cond.static yX4_areBits ∈ T0 := tb4 (i := 199) (by decide +kernel) rfl
theorem mt_X4_bitsOf : ca_mt yX4_bitsOf cX4_bitsOf 2 (some .int) 1 := ⟨tb4 (i := 228) (by decide +kernel) rfl, tb1 (i := 8) (by decide +kernel) rfl, by decide +kernel, by decide +kernel, by decide +kernel⟩
theorem mv_X4_bitsOf : ca_mv yX4_bitsOf := ⟨tb4 (i := 226) (by decide +kernel) rfl, tb4 (i := 227) (by decide +kernel) rfl⟩
theorem mt_X4_get : ca_mt yX4_get cX4_get 3 (some .int) 2 := ⟨tb5 (i := 5) (by decide +kernel) rfl, tb1 (i := 8) (by decide +kernel) rfl, by decide +kernel, by decide +kernel, by decide +kernel⟩
theorem mv_X4_get : ca_mv yX4_get := ⟨tb5 (i := 3) (by decide +kernel) rfl, tb5 (i := 4) (by decide +kernel) rfl⟩
theorem mt_X4_hasPart : ca_mt yX4_hasPart cX4_hasPart 4 (some .boolean) 3 := ⟨tb4 (i := 232) (by decide +kernel) rfl, tb1 (i := 8) (by decide +kernel) rfl, by decide +kernel, by decide +kernel, by decide +kernel⟩
theorem mv_X4_hasPart : ca_mv yX4_hasPart := ⟨tb4 (i := 230) (by decide +kernel) rfl, tb4 (i := 231) (by decide +kernel) rfl⟩
theorem mt_X4_init : ca_mt yX4_init cX4_init 1 none 0 := ⟨tb1 (i := 168) (by decide +kernel) rfl, tb1 (i := 8) (by decide +kernel) rfl, by decide +kernel, by decide +kernel, by decide +kernel⟩
theorem mt_X4_isMissing : ca_mt yX4_isMissing cX4_isMissing 2 (some .boolean) 1 := ⟨tb4 (i := 216) (by decide +kernel) rfl, tb1 (i := 8) (by decide +kernel) rfl, by decide +kernel, by decide +kernel, by decide +kernel⟩
theorem mv_X4_isMissing : ca_mv yX4_isMissing := ⟨tb4 (i := 214) (by decide +kernel) rfl, tb4 (i := 215) (by decide +kernel) rfl⟩
theorem mt_X4_isSheet : ca_mt yX4_isSheet cX4_isSheet 1 (some .boolean) 1 := ⟨tb4 (i := 197) (by decide +kernel) rfl, tb1 (i := 8) (by decide +kernel) rfl, by decide +kernel, by decide +kernel, by decide +kernel⟩
theorem ms_X4_isSheet : Cond.static yX4_isSheet ∈ T0 := tb4 (i := 196) (by decide +kernel) rfl
theorem mt_X4_lay : ca_mt yX4_lay cX4_lay 5 none 3 := ⟨tb4 (i := 204) (by decide +kernel) rfl, tb1 (i := 8) (by decide +kernel) rfl, by decide +kernel, by decide +kernel, by decide +kernel⟩
theorem mv_X4_lay : ca_mv yX4_lay := ⟨tb4 (i := 202) (by decide +kernel) rfl, tb4 (i := 203) (by decide +kernel) rfl⟩
theorem mt_X4_move : ca_mt yX4_move cX4_move 6 none 5 := ⟨tb4 (i := 236) (by decide +kernel) rfl, tb1 (i := 8) (by decide +kernel) rfl, by decide +kernel, by decide +kernel, by decide +kernel⟩
theorem mv_X4_move : ca_mv yX4_move := ⟨tb4 (i := 234) (by decide +kernel) rfl, tb4 (i := 235) (by decide +kernel) rfl⟩
theorem mt_X4_set : ca_mt yX4_set cX4_set 5 none 3 := ⟨tb4 (i := 220) (by decide +kernel) rfl, tb1 (i := 8) (by decide +kernel) rfl, by decide +kernel, by decide +kernel, by decide +kernel⟩
theorem mv_X4_set : ca_mv yX4_set := ⟨tb4 (i := 218) (by decide +kernel) rfl, tb4 (i := 219) (by decide +kernel) rfl⟩
theorem mt_X4_size : ca_mt yX4_size cX4_size 2 (some .int) 1 := ⟨tb4 (i := 208) (by decide +kernel) rfl, tb1 (i := 8) (by decide +kernel) rfl, by decide +kernel, by decide +kernel, by decide +kernel⟩
theorem mv_X4_size : ca_mv yX4_size := ⟨tb4 (i := 206) (by decide +kernel) rfl, tb4 (i := 207) (by decide +kernel) rfl⟩
theorem mt_X5_add : ca_mt yX5_add cX5_add 6 (some .int) 4 := ⟨tb2 (i := 91) (by decide +kernel) rfl, tb1 (i := 4) (by decide +kernel) rfl, by decide +kernel, by decide +kernel, by decide +kernel⟩
theorem mv_X5_add : ca_mv yX5_add := ⟨tb2 (i := 89) (by decide +kernel) rfl, tb2 (i := 90) (by decide +kernel) rfl⟩
theorem mt_X5_counts : ca_mt yX5_counts cX5_counts 2 (some .boolean) 1 := ⟨tb2 (i := 103) (by decide +kernel) rfl, tb1 (i := 4) (by decide +kernel) rfl, by decide +kernel, by decide +kernel, by decide +kernel⟩
theorem mv_X5_counts : ca_mv yX5_counts := ⟨tb2 (i := 101) (by decide +kernel) rfl, tb2 (i := 102) (by decide +kernel) rfl⟩
theorem mt_X5_field : ca_mt yX5_field cX5_field 3 (some .int) 2 := ⟨tb2 (i := 107) (by decide +kernel) rfl, tb1 (i := 4) (by decide +kernel) rfl, by decide +kernel, by decide +kernel, by decide +kernel⟩
theorem mv_X5_field : ca_mv yX5_field := ⟨tb2 (i := 105) (by decide +kernel) rfl, tb2 (i := 106) (by decide +kernel) rfl⟩
theorem mt_X5_hasRoom : ca_mt yX5_hasRoom cX5_hasRoom 1 (some .boolean) 0 := ⟨tb2 (i := 87) (by decide +kernel) rfl, tb1 (i := 4) (by decide +kernel) rfl, by decide +kernel, by decide +kernel, by decide +kernel⟩
theorem mv_X5_hasRoom : ca_mv yX5_hasRoom := ⟨tb2 (i := 85) (by decide +kernel) rfl, tb2 (i := 86) (by decide +kernel) rfl⟩
theorem mt_X5_init : ca_mt yX5_init cX5_init 1 none 0 := ⟨tb1 (i := 48) (by decide +kernel) rfl, tb1 (i := 4) (by decide +kernel) rfl, by decide +kernel, by decide +kernel, by decide +kernel⟩
theorem mt_X5_isOf : ca_mt yX5_isOf cX5_isOf 4 (some .boolean) 3 := ⟨tb2 (i := 115) (by decide +kernel) rfl, tb1 (i := 4) (by decide +kernel) rfl, by decide +kernel, by decide +kernel, by decide +kernel⟩
theorem mv_X5_isOf : ca_mv yX5_isOf := ⟨tb2 (i := 114) (by decide +kernel) rfl, tbs (i := 1) (by decide +kernel) rfl⟩
theorem mt_X5_latest : ca_mt yX5_latest cX5_latest 5 (some .int) 3 := ⟨tb2 (i := 111) (by decide +kernel) rfl, tb1 (i := 4) (by decide +kernel) rfl, by decide +kernel, by decide +kernel, by decide +kernel⟩
theorem mv_X5_latest : ca_mv yX5_latest := ⟨tb2 (i := 109) (by decide +kernel) rfl, tb2 (i := 110) (by decide +kernel) rfl⟩
theorem mt_X5_pin : ca_mt yX5_pin cX5_pin 5 none 3 := ⟨tb2 (i := 137) (by decide +kernel) rfl, tb1 (i := 4) (by decide +kernel) rfl, by decide +kernel, by decide +kernel, by decide +kernel⟩
theorem mv_X5_pin : ca_mv yX5_pin := ⟨tb2 (i := 135) (by decide +kernel) rfl, tb2 (i := 136) (by decide +kernel) rfl⟩
theorem mt_X5_size : ca_mt yX5_size cX5_size 1 (some .int) 0 := ⟨tb2 (i := 99) (by decide +kernel) rfl, tb1 (i := 4) (by decide +kernel) rfl, by decide +kernel, by decide +kernel, by decide +kernel⟩
theorem mv_X5_size : ca_mv yX5_size := ⟨tb2 (i := 97) (by decide +kernel) rfl, tb2 (i := 98) (by decide +kernel) rfl⟩
theorem mt_X5_takeFrom : ca_mt yX5_takeFrom cX5_takeFrom 2 none 1 := ⟨tb5 (i := 39) (by decide +kernel) rfl, tb1 (i := 4) (by decide +kernel) rfl, by decide +kernel, by decide +kernel, by decide +kernel⟩
theorem mv_X5_takeFrom : ca_mv yX5_takeFrom := ⟨tb5 (i := 37) (by decide +kernel) rfl, tb5 (i := 38) (by decide +kernel) rfl⟩
theorem mt_X6_backedBy : ca_mt yX6_backedBy cX6_backedBy 2 (some .int) 1 := ⟨tb3 (i := 237) (by decide +kernel) rfl, tb1 (i := 6) (by decide +kernel) rfl, by decide +kernel, by decide +kernel, by decide +kernel⟩
theorem mv_X6_backedBy : ca_mv yX6_backedBy := ⟨tb3 (i := 235) (by decide +kernel) rfl, tb3 (i := 236) (by decide +kernel) rfl⟩
theorem mt_X6_bailOf : ca_mt yX6_bailOf cX6_bailOf 2 (some .int) 1 := ⟨tb3 (i := 203) (by decide +kernel) rfl, tb1 (i := 6) (by decide +kernel) rfl, by decide +kernel, by decide +kernel, by decide +kernel⟩
theorem mv_X6_bailOf : ca_mv yX6_bailOf := ⟨tb3 (i := 201) (by decide +kernel) rfl, tb3 (i := 202) (by decide +kernel) rfl⟩
theorem mt_X6_giveBack : ca_mt yX6_giveBack cX6_giveBack 5 (some .int) 1 := ⟨tb3 (i := 225) (by decide +kernel) rfl, tb1 (i := 6) (by decide +kernel) rfl, by decide +kernel, by decide +kernel, by decide +kernel⟩
theorem mv_X6_giveBack : ca_mv yX6_giveBack := ⟨tb3 (i := 223) (by decide +kernel) rfl, tb3 (i := 224) (by decide +kernel) rfl⟩
theorem mt_X6_givenBy : ca_mt yX6_givenBy cX6_givenBy 4 (some .int) 1 := ⟨tb3 (i := 183) (by decide +kernel) rfl, tb1 (i := 6) (by decide +kernel) rfl, by decide +kernel, by decide +kernel, by decide +kernel⟩
theorem mv_X6_givenBy : ca_mv yX6_givenBy := ⟨tb3 (i := 181) (by decide +kernel) rfl, tb3 (i := 182) (by decide +kernel) rfl⟩
theorem mt_X6_givenFor : ca_mt yX6_givenFor cX6_givenFor 4 (some .int) 1 := ⟨tb3 (i := 199) (by decide +kernel) rfl, tb1 (i := 6) (by decide +kernel) rfl, by decide +kernel, by decide +kernel, by decide +kernel⟩
theorem mv_X6_givenFor : ca_mv yX6_givenFor := ⟨tb3 (i := 197) (by decide +kernel) rfl, tb3 (i := 198) (by decide +kernel) rfl⟩
theorem mt_X6_givenOf : ca_mt yX6_givenOf cX6_givenOf 3 (some .int) 2 := ⟨tb3 (i := 187) (by decide +kernel) rfl, tb1 (i := 6) (by decide +kernel) rfl, by decide +kernel, by decide +kernel, by decide +kernel⟩
theorem mv_X6_givenOf : ca_mv yX6_givenOf := ⟨tb3 (i := 185) (by decide +kernel) rfl, tb3 (i := 186) (by decide +kernel) rfl⟩
theorem mt_X6_init : ca_mt yX6_init cX6_init 1 none 0 := ⟨tb1 (i := 74) (by decide +kernel) rfl, tb1 (i := 6) (by decide +kernel) rfl, by decide +kernel, by decide +kernel, by decide +kernel⟩
theorem mt_X6_roomOf : ca_mt yX6_roomOf cX6_roomOf 2 (some .int) 1 := ⟨tb3 (i := 233) (by decide +kernel) rfl, tb1 (i := 6) (by decide +kernel) rfl, by decide +kernel, by decide +kernel, by decide +kernel⟩
theorem mv_X6_roomOf : ca_mv yX6_roomOf := ⟨tb3 (i := 231) (by decide +kernel) rfl, tb3 (i := 232) (by decide +kernel) rfl⟩
theorem mt_X6_roomOfAll : ca_mt yX6_roomOfAll cX6_roomOfAll 3 (some .int) 0 := ⟨tb5 (i := 82) (by decide +kernel) rfl, tb1 (i := 6) (by decide +kernel) rfl, by decide +kernel, by decide +kernel, by decide +kernel⟩
theorem mv_X6_roomOfAll : ca_mv yX6_roomOfAll := ⟨tb5 (i := 80) (by decide +kernel) rfl, tb5 (i := 81) (by decide +kernel) rfl⟩
theorem mt_X6_setBail : ca_mt yX6_setBail cX6_setBail 3 none 2 := ⟨tb3 (i := 207) (by decide +kernel) rfl, tb1 (i := 6) (by decide +kernel) rfl, by decide +kernel, by decide +kernel, by decide +kernel⟩
theorem mv_X6_setBail : ca_mv yX6_setBail := ⟨tb3 (i := 205) (by decide +kernel) rfl, tb3 (i := 206) (by decide +kernel) rfl⟩
theorem mt_X6_setUp : ca_mt yX6_setUp cX6_setUp 4 none 3 := ⟨tb3 (i := 191) (by decide +kernel) rfl, tb1 (i := 6) (by decide +kernel) rfl, by decide +kernel, by decide +kernel, by decide +kernel⟩
theorem mv_X6_setUp : ca_mv yX6_setUp := ⟨tb3 (i := 189) (by decide +kernel) rfl, tb3 (i := 190) (by decide +kernel) rfl⟩
theorem mt_X6_takeBail : ca_mt yX6_takeBail cX6_takeBail 5 (some .int) 1 := ⟨tb3 (i := 215) (by decide +kernel) rfl, tb1 (i := 6) (by decide +kernel) rfl, by decide +kernel, by decide +kernel, by decide +kernel⟩
theorem mv_X6_takeBail : ca_mv yX6_takeBail := ⟨tb3 (i := 213) (by decide +kernel) rfl, tb3 (i := 214) (by decide +kernel) rfl⟩
theorem mt_X6_takeFrom : ca_mt yX6_takeFrom cX6_takeFrom 2 none 1 := ⟨tb5 (i := 49) (by decide +kernel) rfl, tb1 (i := 6) (by decide +kernel) rfl, by decide +kernel, by decide +kernel, by decide +kernel⟩
theorem mv_X6_takeFrom : ca_mv yX6_takeFrom := ⟨tb5 (i := 47) (by decide +kernel) rfl, tb5 (i := 48) (by decide +kernel) rfl⟩
theorem mt_X7_add : ca_mt yX7_add cX7_add 5 (some .int) 3 := ⟨tb3 (i := 1) (by decide +kernel) rfl, tb1 (i := 5) (by decide +kernel) rfl, by decide +kernel, by decide +kernel, by decide +kernel⟩
theorem mv_X7_add : ca_mv yX7_add := ⟨tb2 (i := 239) (by decide +kernel) rfl, tb3 (i := 0) (by decide +kernel) rfl⟩
theorem mt_X7_asked : ca_mt yX7_asked cX7_asked 2 (some .int) 1 := ⟨tb2 (i := 156) (by decide +kernel) rfl, tb1 (i := 5) (by decide +kernel) rfl, by decide +kernel, by decide +kernel, by decide +kernel⟩
theorem mv_X7_asked : ca_mv yX7_asked := ⟨tb2 (i := 154) (by decide +kernel) rfl, tb2 (i := 155) (by decide +kernel) rfl⟩
theorem mt_X7_binding : ca_mt yX7_binding cX7_binding 5 (some .int) 2 := ⟨tb3 (i := 50) (by decide +kernel) rfl, tb1 (i := 5) (by decide +kernel) rfl, by decide +kernel, by decide +kernel, by decide +kernel⟩
theorem mv_X7_binding : ca_mv yX7_binding := ⟨tb3 (i := 48) (by decide +kernel) rfl, tb3 (i := 49) (by decide +kernel) rfl⟩
theorem mt_X7_field : ca_mt yX7_field cX7_field 3 (some .int) 2 := ⟨tb2 (i := 151) (by decide +kernel) rfl, tb1 (i := 5) (by decide +kernel) rfl, by decide +kernel, by decide +kernel, by decide +kernel⟩
theorem mv_X7_field : ca_mv yX7_field := ⟨tb2 (i := 149) (by decide +kernel) rfl, tb2 (i := 150) (by decide +kernel) rfl⟩
theorem mt_X7_hasRoomFor : ca_mt yX7_hasRoomFor cX7_hasRoomFor 2 (some .boolean) 1 := ⟨tb2 (i := 233) (by decide +kernel) rfl, tb1 (i := 5) (by decide +kernel) rfl, by decide +kernel, by decide +kernel, by decide +kernel⟩
theorem mv_X7_hasRoomFor : ca_mv yX7_hasRoomFor := ⟨tb2 (i := 231) (by decide +kernel) rfl, tb2 (i := 232) (by decide +kernel) rfl⟩
theorem mt_X7_howManyOf : ca_mt yX7_howManyOf cX7_howManyOf 4 (some .int) 1 := ⟨tb2 (i := 237) (by decide +kernel) rfl, tb1 (i := 5) (by decide +kernel) rfl, by decide +kernel, by decide +kernel, by decide +kernel⟩
theorem mv_X7_howManyOf : ca_mv yX7_howManyOf := ⟨tb2 (i := 235) (by decide +kernel) rfl, tb2 (i := 236) (by decide +kernel) rfl⟩
theorem mt_X7_init : ca_mt yX7_init cX7_init 1 none 0 := ⟨tb1 (i := 61) (by decide +kernel) rfl, tb1 (i := 5) (by decide +kernel) rfl, by decide +kernel, by decide +kernel, by decide +kernel⟩
theorem mt_X7_isBinding : ca_mt yX7_isBinding cX7_isBinding 3 (some .boolean) 2 := ⟨tb3 (i := 54) (by decide +kernel) rfl, tb1 (i := 5) (by decide +kernel) rfl, by decide +kernel, by decide +kernel, by decide +kernel⟩
theorem mv_X7_isBinding : ca_mv yX7_isBinding := ⟨tb3 (i := 52) (by decide +kernel) rfl, tb3 (i := 53) (by decide +kernel) rfl⟩
theorem mt_X7_isKind : ca_mt yX7_isKind cX7_isKind 1 (some .boolean) 1 := ⟨tb2 (i := 229) (by decide +kernel) rfl, tb1 (i := 5) (by decide +kernel) rfl, by decide +kernel, by decide +kernel, by decide +kernel⟩
theorem ms_X7_isKind : Cond.static yX7_isKind ∈ T0 := tb2 (i := 228) (by decide +kernel) rfl
theorem mt_X7_isOfKind : ca_mt yX7_isOfKind cX7_isOfKind 5 (some .boolean) 2 := ⟨tb4 (i := 188) (by decide +kernel) rfl, tb1 (i := 5) (by decide +kernel) rfl, by decide +kernel, by decide +kernel, by decide +kernel⟩
theorem mv_X7_isOfKind : ca_mv yX7_isOfKind := ⟨tb4 (i := 186) (by decide +kernel) rfl, tb4 (i := 187) (by decide +kernel) rfl⟩
theorem mt_X7_isTerm : ca_mt yX7_isTerm cX7_isTerm 2 (some .boolean) 1 := ⟨tb3 (i := 17) (by decide +kernel) rfl, tb1 (i := 5) (by decide +kernel) rfl, by decide +kernel, by decide +kernel, by decide +kernel⟩
theorem mv_X7_isTerm : ca_mv yX7_isTerm := ⟨tb3 (i := 15) (by decide +kernel) rfl, tb3 (i := 16) (by decide +kernel) rfl⟩
theorem mt_X7_setDays : ca_mt yX7_setDays cX7_setDays 4 none 3 := ⟨tb3 (i := 9) (by decide +kernel) rfl, tb1 (i := 5) (by decide +kernel) rfl, by decide +kernel, by decide +kernel, by decide +kernel⟩
theorem mv_X7_setDays : ca_mv yX7_setDays := ⟨tb3 (i := 7) (by decide +kernel) rfl, tb3 (i := 8) (by decide +kernel) rfl⟩
theorem mt_X7_setHours : ca_mt yX7_setHours cX7_setHours 4 none 3 := ⟨tb3 (i := 5) (by decide +kernel) rfl, tb1 (i := 5) (by decide +kernel) rfl, by decide +kernel, by decide +kernel, by decide +kernel⟩
theorem mv_X7_setHours : ca_mv yX7_setHours := ⟨tb3 (i := 3) (by decide +kernel) rfl, tb3 (i := 4) (by decide +kernel) rfl⟩
theorem mt_X7_setKind : ca_mt yX7_setKind cX7_setKind 3 none 2 := ⟨tb3 (i := 33) (by decide +kernel) rfl, tb1 (i := 5) (by decide +kernel) rfl, by decide +kernel, by decide +kernel, by decide +kernel⟩
theorem mv_X7_setKind : ca_mv yX7_setKind := ⟨tb3 (i := 31) (by decide +kernel) rfl, tb3 (i := 32) (by decide +kernel) rfl⟩
theorem mt_X7_size : ca_mt yX7_size cX7_size 1 (some .int) 0 := ⟨tb4 (i := 50) (by decide +kernel) rfl, tb1 (i := 5) (by decide +kernel) rfl, by decide +kernel, by decide +kernel, by decide +kernel⟩
theorem mv_X7_size : ca_mv yX7_size := ⟨tb4 (i := 48) (by decide +kernel) rfl, tb4 (i := 49) (by decide +kernel) rfl⟩
theorem mt_X7_takeFrom : ca_mt yX7_takeFrom cX7_takeFrom 2 none 1 := ⟨tb5 (i := 44) (by decide +kernel) rfl, tb1 (i := 5) (by decide +kernel) rfl, by decide +kernel, by decide +kernel, by decide +kernel⟩
theorem mv_X7_takeFrom : ca_mv yX7_takeFrom := ⟨tb5 (i := 42) (by decide +kernel) rfl, tb5 (i := 43) (by decide +kernel) rfl⟩
theorem mt_X8_goThrough : ca_mt yX8_goThrough cX8_goThrough 10 none 3 := ⟨tb3 (i := 70) (by decide +kernel) rfl, tb1 (i := 10) (by decide +kernel) rfl, by decide +kernel, by decide +kernel, by decide +kernel⟩
theorem mv_X8_goThrough : ca_mv yX8_goThrough := ⟨tb3 (i := 69) (by decide +kernel) rfl, tbs (i := 13) (by decide +kernel) rfl⟩
theorem mt_X8_init : ca_mt yX8_init cX8_init 1 none 0 := ⟨tb1 (i := 222) (by decide +kernel) rfl, tb1 (i := 10) (by decide +kernel) rfl, by decide +kernel, by decide +kernel, by decide +kernel⟩
theorem mt_X8_verdict : ca_mt yX8_verdict cX8_verdict 5 (some .int) 3 := ⟨tb3 (i := 63) (by decide +kernel) rfl, tb1 (i := 10) (by decide +kernel) rfl, by decide +kernel, by decide +kernel, by decide +kernel⟩
theorem mv_X8_verdict : ca_mv yX8_verdict := ⟨tb3 (i := 61) (by decide +kernel) rfl, tb3 (i := 62) (by decide +kernel) rfl⟩
theorem mt_X9_addTermOf : ca_mt yX9_addTermOf cX9_addTermOf 5 none 3 := ⟨tb4 (i := 172) (by decide +kernel) rfl, tb1 (i := 1) (by decide +kernel) rfl, by decide +kernel, by decide +kernel, by decide +kernel⟩
theorem mv_X9_addTermOf : ca_mv yX9_addTermOf := ⟨tb4 (i := 171) (by decide +kernel) rfl, tbs (i := 31) (by decide +kernel) rfl⟩
theorem mt_X9_areRiskBounds : ca_mt yX9_areRiskBounds cX9_areRiskBounds 2 (some .boolean) 2 := ⟨tb3 (i := 155) (by decide +kernel) rfl, tb1 (i := 1) (by decide +kernel) rfl, by decide +kernel, by decide +kernel, by decide +kernel⟩
theorem ms_X9_areRiskBounds : Cond.static yX9_areRiskBounds ∈ T0 := tb3 (i := 154) (by decide +kernel) rfl
theorem mt_X9_as : ca_mt yX9_as cX9_as 4 (some .int) 2 := ⟨tb4 (i := 184) (by decide +kernel) rfl, tb1 (i := 1) (by decide +kernel) rfl, by decide +kernel, by decide +kernel, by decide +kernel⟩
theorem mv_X9_as : ca_mv yX9_as := ⟨tb4 (i := 182) (by decide +kernel) rfl, tb4 (i := 183) (by decide +kernel) rfl⟩
theorem mt_X9_at : ca_mt yX9_at cX9_at 2 (some .int) 1 := ⟨tb3 (i := 109) (by decide +kernel) rfl, tb1 (i := 1) (by decide +kernel) rfl, by decide +kernel, by decide +kernel, by decide +kernel⟩
theorem mv_X9_at : ca_mv yX9_at := ⟨tb3 (i := 107) (by decide +kernel) rfl, tb3 (i := 108) (by decide +kernel) rfl⟩
theorem mt_X9_back : ca_mt yX9_back cX9_back 2 (some .int) 1 := ⟨tb3 (i := 221) (by decide +kernel) rfl, tb1 (i := 1) (by decide +kernel) rfl, by decide +kernel, by decide +kernel, by decide +kernel⟩
theorem mv_X9_back : ca_mv yX9_back := ⟨tb3 (i := 219) (by decide +kernel) rfl, tb3 (i := 220) (by decide +kernel) rfl⟩
theorem mt_X9_bad : ca_mt yX9_bad cX9_bad 2 (some .int) 1 := ⟨tb3 (i := 41) (by decide +kernel) rfl, tb1 (i := 1) (by decide +kernel) rfl, by decide +kernel, by decide +kernel, by decide +kernel⟩
theorem mv_X9_bad : ca_mv yX9_bad := ⟨tb3 (i := 39) (by decide +kernel) rfl, tb3 (i := 40) (by decide +kernel) rfl⟩
theorem mt_X9_bail : ca_mt yX9_bail cX9_bail 4 (some .int) 2 := ⟨tb3 (i := 195) (by decide +kernel) rfl, tb1 (i := 1) (by decide +kernel) rfl, by decide +kernel, by decide +kernel, by decide +kernel⟩
theorem mv_X9_bail : ca_mv yX9_bail := ⟨tb3 (i := 193) (by decide +kernel) rfl, tb3 (i := 194) (by decide +kernel) rfl⟩
theorem mt_X9_bars : ca_mt yX9_bars cX9_bars 5 (some .int) 2 := ⟨tb3 (i := 148) (by decide +kernel) rfl, tb1 (i := 1) (by decide +kernel) rfl, by decide +kernel, by decide +kernel, by decide +kernel⟩
theorem mv_X9_bars : ca_mv yX9_bars := ⟨tb3 (i := 146) (by decide +kernel) rfl, tb3 (i := 147) (by decide +kernel) rfl⟩
theorem mt_X9_breach : ca_mt yX9_breach cX9_breach 4 (some .int) 2 := ⟨tb3 (i := 80) (by decide +kernel) rfl, tb1 (i := 1) (by decide +kernel) rfl, by decide +kernel, by decide +kernel, by decide +kernel⟩
theorem mv_X9_breach : ca_mv yX9_breach := ⟨tb3 (i := 78) (by decide +kernel) rfl, tb3 (i := 79) (by decide +kernel) rfl⟩
theorem mt_X9_call : ca_mt yX9_call cX9_call 2 (some .int) 1 := ⟨tb3 (i := 211) (by decide +kernel) rfl, tb1 (i := 1) (by decide +kernel) rfl, by decide +kernel, by decide +kernel, by decide +kernel⟩
theorem mv_X9_call : ca_mv yX9_call := ⟨tb3 (i := 209) (by decide +kernel) rfl, tb3 (i := 210) (by decide +kernel) rfl⟩
theorem mt_X9_carryOut : ca_mt yX9_carryOut cX9_carryOut 4 none 1 := ⟨tb4 (i := 164) (by decide +kernel) rfl, tb1 (i := 1) (by decide +kernel) rfl, by decide +kernel, by decide +kernel, by decide +kernel⟩
theorem mv_X9_carryOut : ca_mv yX9_carryOut := ⟨tb4 (i := 163) (by decide +kernel) rfl, tbs (i := 30) (by decide +kernel) rfl⟩
theorem mt_X9_change : ca_mt yX9_change cX9_change 9 (some .int) 3 := ⟨tb3 (i := 37) (by decide +kernel) rfl, tb1 (i := 1) (by decide +kernel) rfl, by decide +kernel, by decide +kernel, by decide +kernel⟩
theorem mv_X9_change : ca_mv yX9_change := ⟨tb3 (i := 35) (by decide +kernel) rfl, tb3 (i := 36) (by decide +kernel) rfl⟩
theorem mt_X9_commonDivisor : ca_mt yX9_commonDivisor cX9_commonDivisor 11 (some .long) 2 := ⟨tb3 (i := 164) (by decide +kernel) rfl, tb1 (i := 1) (by decide +kernel) rfl, by decide +kernel, by decide +kernel, by decide +kernel⟩
theorem ms_X9_commonDivisor : Cond.static yX9_commonDivisor ∈ T0 := tb3 (i := 163) (by decide +kernel) rfl
theorem mt_X9_copy : ca_mt yX9_copy cX9_copy 6 (some .int) 5 := ⟨tb4 (i := 224) (by decide +kernel) rfl, tb1 (i := 1) (by decide +kernel) rfl, by decide +kernel, by decide +kernel, by decide +kernel⟩
theorem mv_X9_copy : ca_mv yX9_copy := ⟨tb4 (i := 222) (by decide +kernel) rfl, tb4 (i := 223) (by decide +kernel) rfl⟩
theorem mt_X9_could : ca_mt yX9_could cX9_could 3 (some .int) 2 := ⟨tb2 (i := 125) (by decide +kernel) rfl, tb1 (i := 1) (by decide +kernel) rfl, by decide +kernel, by decide +kernel, by decide +kernel⟩
theorem mv_X9_could : ca_mv yX9_could := ⟨tb2 (i := 123) (by decide +kernel) rfl, tb2 (i := 124) (by decide +kernel) rfl⟩
theorem mt_X9_count : ca_mt yX9_count cX9_count 7 (some .int) 4 := ⟨tb3 (i := 76) (by decide +kernel) rfl, tb1 (i := 1) (by decide +kernel) rfl, by decide +kernel, by decide +kernel, by decide +kernel⟩
theorem mv_X9_count : ca_mv yX9_count := ⟨tb3 (i := 74) (by decide +kernel) rfl, tb3 (i := 75) (by decide +kernel) rfl⟩
theorem mt_X9_dayOf : ca_mt yX9_dayOf cX9_dayOf 1 (some .int) 1 := ⟨tb2 (i := 80) (by decide +kernel) rfl, tb1 (i := 1) (by decide +kernel) rfl, by decide +kernel, by decide +kernel, by decide +kernel⟩
theorem ms_X9_dayOf : Cond.static yX9_dayOf ∈ T0 := tb2 (i := 79) (by decide +kernel) rfl
theorem mt_X9_drift : ca_mt yX9_drift cX9_drift 7 (some .int) 3 := ⟨tb2 (i := 214) (by decide +kernel) rfl, tb1 (i := 1) (by decide +kernel) rfl, by decide +kernel, by decide +kernel, by decide +kernel⟩
theorem mv_X9_drift : ca_mv yX9_drift := ⟨tb2 (i := 212) (by decide +kernel) rfl, tb2 (i := 213) (by decide +kernel) rfl⟩
theorem mt_X9_far : ca_mt yX9_far cX9_far 4 (some .int) 2 := ⟨tb2 (i := 59) (by decide +kernel) rfl, tb1 (i := 1) (by decide +kernel) rfl, by decide +kernel, by decide +kernel, by decide +kernel⟩
theorem mv_X9_far : ca_mv yX9_far := ⟨tb2 (i := 57) (by decide +kernel) rfl, tb2 (i := 58) (by decide +kernel) rfl⟩
theorem mt_X9_feed : ca_mt yX9_feed cX9_feed 4 (some .int) 2 := ⟨tb4 (i := 18) (by decide +kernel) rfl, tb1 (i := 1) (by decide +kernel) rfl, by decide +kernel, by decide +kernel, by decide +kernel⟩
theorem mv_X9_feed : ca_mv yX9_feed := ⟨tb4 (i := 16) (by decide +kernel) rfl, tb4 (i := 17) (by decide +kernel) rfl⟩
theorem mt_X9_finding : ca_mt yX9_finding cX9_finding 2 (some .int) 1 := ⟨tb2 (i := 35) (by decide +kernel) rfl, tb1 (i := 1) (by decide +kernel) rfl, by decide +kernel, by decide +kernel, by decide +kernel⟩
theorem mv_X9_finding : ca_mv yX9_finding := ⟨tb2 (i := 34) (by decide +kernel) rfl, tbs (i := 0) (by decide +kernel) rfl⟩
theorem mt_X9_firstWrongNumber : ca_mt yX9_firstWrongNumber cX9_firstWrongNumber 5 (some .int) 1 := ⟨tb5 (i := 13) (by decide +kernel) rfl, tb1 (i := 1) (by decide +kernel) rfl, by decide +kernel, by decide +kernel, by decide +kernel⟩
theorem mv_X9_firstWrongNumber : ca_mv yX9_firstWrongNumber := ⟨tb5 (i := 12) (by decide +kernel) rfl, tbs (i := 32) (by decide +kernel) rfl⟩
theorem mt_X9_has : ca_mt yX9_has cX9_has 2 (some .boolean) 2 := ⟨tb2 (i := 43) (by decide +kernel) rfl, tb1 (i := 1) (by decide +kernel) rfl, by decide +kernel, by decide +kernel, by decide +kernel⟩
theorem ms_X9_has : Cond.static yX9_has ∈ T0 := tb2 (i := 42) (by decide +kernel) rfl
theorem mt_X9_heard : ca_mt yX9_heard cX9_heard 2 (some .int) 1 := ⟨tb4 (i := 10) (by decide +kernel) rfl, tb1 (i := 1) (by decide +kernel) rfl, by decide +kernel, by decide +kernel, by decide +kernel⟩
theorem mv_X9_heard : ca_mv yX9_heard := ⟨tb4 (i := 8) (by decide +kernel) rfl, tb4 (i := 9) (by decide +kernel) rfl⟩
theorem mt_X9_hearing : ca_mt yX9_hearing cX9_hearing 4 (some .int) 2 := ⟨tb4 (i := 2) (by decide +kernel) rfl, tb1 (i := 1) (by decide +kernel) rfl, by decide +kernel, by decide +kernel, by decide +kernel⟩
theorem mv_X9_hearing : ca_mv yX9_hearing := ⟨tb4 (i := 0) (by decide +kernel) rfl, tb4 (i := 1) (by decide +kernel) rfl⟩
theorem mt_X9_hold : ca_mt yX9_hold cX9_hold 3 (some .int) 2 := ⟨tb4 (i := 177) (by decide +kernel) rfl, tb1 (i := 1) (by decide +kernel) rfl, by decide +kernel, by decide +kernel, by decide +kernel⟩
theorem mv_X9_hold : ca_mv yX9_hold := ⟨tb4 (i := 175) (by decide +kernel) rfl, tb4 (i := 176) (by decide +kernel) rfl⟩
theorem mt_X9_hourOf : ca_mt yX9_hourOf cX9_hourOf 1 (some .int) 1 := ⟨tb2 (i := 83) (by decide +kernel) rfl, tb1 (i := 1) (by decide +kernel) rfl, by decide +kernel, by decide +kernel, by decide +kernel⟩
theorem ms_X9_hourOf : Cond.static yX9_hourOf ∈ T0 := tb2 (i := 82) (by decide +kernel) rfl
theorem mt_X9_image : ca_mt yX9_image cX9_image 1 (some .int) 0 := ⟨tb5 (i := 26) (by decide +kernel) rfl, tb1 (i := 1) (by decide +kernel) rfl, by decide +kernel, by decide +kernel, by decide +kernel⟩
theorem mv_X9_image : ca_mv yX9_image := ⟨tb5 (i := 24) (by decide +kernel) rfl, tb5 (i := 25) (by decide +kernel) rfl⟩
theorem mt_X9_inForce : ca_mt yX9_inForce cX9_inForce 3 (some .int) 2 := ⟨tb3 (i := 46) (by decide +kernel) rfl, tb1 (i := 1) (by decide +kernel) rfl, by decide +kernel, by decide +kernel, by decide +kernel⟩
theorem mv_X9_inForce : ca_mv yX9_inForce := ⟨tb3 (i := 44) (by decide +kernel) rfl, tb3 (i := 45) (by decide +kernel) rfl⟩
theorem mt_X9_init : ca_mt yX9_init cX9_init 1 none 0 := ⟨tb1 (i := 23) (by decide +kernel) rfl, tb1 (i := 1) (by decide +kernel) rfl, by decide +kernel, by decide +kernel, by decide +kernel⟩
theorem mt_X9_isDay : ca_mt yX9_isDay cX9_isDay 1 (some .boolean) 1 := ⟨tb2 (i := 217) (by decide +kernel) rfl, tb1 (i := 1) (by decide +kernel) rfl, by decide +kernel, by decide +kernel, by decide +kernel⟩
theorem ms_X9_isDay : Cond.static yX9_isDay ∈ T0 := tb2 (i := 216) (by decide +kernel) rfl
theorem mt_X9_isMoney : ca_mt yX9_isMoney cX9_isMoney 1 (some .boolean) 1 := ⟨tb3 (i := 179) (by decide +kernel) rfl, tb1 (i := 1) (by decide +kernel) rfl, by decide +kernel, by decide +kernel, by decide +kernel⟩
theorem ms_X9_isMoney : Cond.static yX9_isMoney ∈ T0 := tb3 (i := 178) (by decide +kernel) rfl
theorem mt_X9_isPerson : ca_mt yX9_isPerson cX9_isPerson 1 (some .boolean) 1 := ⟨tb2 (i := 74) (by decide +kernel) rfl, tb1 (i := 1) (by decide +kernel) rfl, by decide +kernel, by decide +kernel, by decide +kernel⟩
theorem ms_X9_isPerson : Cond.static yX9_isPerson ∈ T0 := tb2 (i := 73) (by decide +kernel) rfl
theorem mt_X9_isPlace : ca_mt yX9_isPlace cX9_isPlace 1 (some .boolean) 1 := ⟨tb2 (i := 31) (by decide +kernel) rfl, tb1 (i := 1) (by decide +kernel) rfl, by decide +kernel, by decide +kernel, by decide +kernel⟩
theorem ms_X9_isPlace : Cond.static yX9_isPlace ∈ T0 := tb2 (i := 30) (by decide +kernel) rfl
theorem mt_X9_isSomeTermBroken : ca_mt yX9_isSomeTermBroken cX9_isSomeTermBroken 5 (some .boolean) 2 := ⟨tb3 (i := 84) (by decide +kernel) rfl, tb1 (i := 1) (by decide +kernel) rfl, by decide +kernel, by decide +kernel, by decide +kernel⟩
theorem mv_X9_isSomeTermBroken : ca_mv yX9_isSomeTermBroken := ⟨tb3 (i := 83) (by decide +kernel) rfl, tbs (i := 14) (by decide +kernel) rfl⟩
theorem mt_X9_isSpot : ca_mt yX9_isSpot cX9_isSpot 1 (some .boolean) 1 := ⟨tb4 (i := 180) (by decide +kernel) rfl, tb1 (i := 1) (by decide +kernel) rfl, by decide +kernel, by decide +kernel, by decide +kernel⟩
theorem ms_X9_isSpot : Cond.static yX9_isSpot ∈ T0 := tb4 (i := 179) (by decide +kernel) rfl
theorem mt_X9_isSurety : ca_mt yX9_isSurety cX9_isSurety 1 (some .boolean) 1 := ⟨tb3 (i := 176) (by decide +kernel) rfl, tb1 (i := 1) (by decide +kernel) rfl, by decide +kernel, by decide +kernel, by decide +kernel⟩
theorem ms_X9_isSurety : Cond.static yX9_isSurety ∈ T0 := tb3 (i := 175) (by decide +kernel) rfl
theorem mt_X9_isThereAWay : ca_mt yX9_isThereAWay cX9_isThereAWay 4 (some .boolean) 3 := ⟨tb3 (i := 93) (by decide +kernel) rfl, tb1 (i := 1) (by decide +kernel) rfl, by decide +kernel, by decide +kernel, by decide +kernel⟩
theorem mv_X9_isThereAWay : ca_mv yX9_isThereAWay := ⟨tb3 (i := 92) (by decide +kernel) rfl, tbs (i := 15) (by decide +kernel) rfl⟩
theorem mt_X9_isWhen : ca_mt yX9_isWhen cX9_isWhen 1 (some .boolean) 1 := ⟨tb2 (i := 77) (by decide +kernel) rfl, tb1 (i := 1) (by decide +kernel) rfl, by decide +kernel, by decide +kernel, by decide +kernel⟩
theorem ms_X9_isWhen : Cond.static yX9_isWhen ∈ T0 := tb2 (i := 76) (by decide +kernel) rfl
theorem mt_X9_judge : ca_mt yX9_judge cX9_judge 7 (some .int) 3 := ⟨tb5 (i := 9) (by decide +kernel) rfl, tb1 (i := 1) (by decide +kernel) rfl, by decide +kernel, by decide +kernel, by decide +kernel⟩
theorem mv_X9_judge : ca_mv yX9_judge := ⟨tb5 (i := 7) (by decide +kernel) rfl, tb5 (i := 8) (by decide +kernel) rfl⟩
theorem mt_X9_kept : ca_mt yX9_kept cX9_kept 3 (some .int) 2 := ⟨tb3 (i := 58) (by decide +kernel) rfl, tb1 (i := 1) (by decide +kernel) rfl, by decide +kernel, by decide +kernel, by decide +kernel⟩
theorem mv_X9_kept : ca_mv yX9_kept := ⟨tb3 (i := 56) (by decide +kernel) rfl, tb3 (i := 57) (by decide +kernel) rfl⟩
theorem mt_X9_leastTermTooSeldom : ca_mt yX9_leastTermTooSeldom cX9_leastTermTooSeldom 4 (some .int) 2 := ⟨tb5 (i := 18) (by decide +kernel) rfl, tb1 (i := 1) (by decide +kernel) rfl, by decide +kernel, by decide +kernel, by decide +kernel⟩
theorem mv_X9_leastTermTooSeldom : ca_mv yX9_leastTermTooSeldom := ⟨tb5 (i := 17) (by decide +kernel) rfl, tbs (i := 33) (by decide +kernel) rfl⟩
theorem mt_X9_load : ca_mt yX9_load cX9_load 7 (some .int) 3 := ⟨tb5 (i := 1) (by decide +kernel) rfl, tb1 (i := 1) (by decide +kernel) rfl, by decide +kernel, by decide +kernel, by decide +kernel⟩
theorem mv_X9_load : ca_mv yX9_load := ⟨tb4 (i := 239) (by decide +kernel) rfl, tb5 (i := 0) (by decide +kernel) rfl⟩
theorem mt_X9_many : ca_mt yX9_many cX9_many 2 (some .int) 1 := ⟨tb5 (i := 64) (by decide +kernel) rfl, tb1 (i := 1) (by decide +kernel) rfl, by decide +kernel, by decide +kernel, by decide +kernel⟩
theorem mv_X9_many : ca_mv yX9_many := ⟨tb5 (i := 62) (by decide +kernel) rfl, tb5 (i := 63) (by decide +kernel) rfl⟩
theorem mt_X9_may : ca_mt yX9_may cX9_may 3 (some .int) 2 := ⟨tb3 (i := 113) (by decide +kernel) rfl, tb1 (i := 1) (by decide +kernel) rfl, by decide +kernel, by decide +kernel, by decide +kernel⟩
theorem mv_X9_may : ca_mv yX9_may := ⟨tb3 (i := 111) (by decide +kernel) rfl, tb3 (i := 112) (by decide +kernel) rfl⟩
theorem mt_X9_placesOfWays : ca_mt yX9_placesOfWays cX9_placesOfWays 4 (some .int) 3 := ⟨tb2 (i := 129) (by decide +kernel) rfl, tb1 (i := 1) (by decide +kernel) rfl, by decide +kernel, by decide +kernel, by decide +kernel⟩
theorem mv_X9_placesOfWays : ca_mv yX9_placesOfWays := ⟨tb2 (i := 128) (by decide +kernel) rfl, tbs (i := 2) (by decide +kernel) rfl⟩
theorem mt_X9_power : ca_mt yX9_power cX9_power 5 (some .long) 2 := ⟨tb3 (i := 161) (by decide +kernel) rfl, tb1 (i := 1) (by decide +kernel) rfl, by decide +kernel, by decide +kernel, by decide +kernel⟩
theorem ms_X9_power : Cond.static yX9_power ∈ T0 := tb3 (i := 160) (by decide +kernel) rfl
theorem mt_X9_risk : ca_mt yX9_risk cX9_risk 11 (some .int) 4 := ⟨tb3 (i := 152) (by decide +kernel) rfl, tb1 (i := 1) (by decide +kernel) rfl, by decide +kernel, by decide +kernel, by decide +kernel⟩
theorem mv_X9_risk : ca_mv yX9_risk := ⟨tb3 (i := 150) (by decide +kernel) rfl, tb3 (i := 151) (by decide +kernel) rfl⟩
theorem mt_X9_riskAbove : ca_mt yX9_riskAbove cX9_riskAbove 8 (some .long) 3 := ⟨tb3 (i := 158) (by decide +kernel) rfl, tb1 (i := 1) (by decide +kernel) rfl, by decide +kernel, by decide +kernel, by decide +kernel⟩
theorem ms_X9_riskAbove : Cond.static yX9_riskAbove ∈ T0 := tb3 (i := 157) (by decide +kernel) rfl
theorem mt_X9_road : ca_mt yX9_road cX9_road 5 (some .int) 3 := ⟨tb2 (i := 28) (by decide +kernel) rfl, tb1 (i := 1) (by decide +kernel) rfl, by decide +kernel, by decide +kernel, by decide +kernel⟩
theorem mv_X9_road : ca_mv yX9_road := ⟨tb2 (i := 26) (by decide +kernel) rfl, tb2 (i := 27) (by decide +kernel) rfl⟩
theorem mt_X9_roads : ca_mt yX9_roads cX9_roads 2 (some .int) 1 := ⟨tb2 (i := 51) (by decide +kernel) rfl, tb1 (i := 1) (by decide +kernel) rfl, by decide +kernel, by decide +kernel, by decide +kernel⟩
theorem mv_X9_roads : ca_mv yX9_roads := ⟨tb2 (i := 49) (by decide +kernel) rfl, tb2 (i := 50) (by decide +kernel) rfl⟩
theorem mt_X9_seed : ca_mt yX9_seed cX9_seed 3 (some .int) 1 := ⟨tb4 (i := 14) (by decide +kernel) rfl, tb1 (i := 1) (by decide +kernel) rfl, by decide +kernel, by decide +kernel, by decide +kernel⟩
theorem mv_X9_seed : ca_mv yX9_seed := ⟨tb4 (i := 12) (by decide +kernel) rfl, tb4 (i := 13) (by decide +kernel) rfl⟩
theorem mt_X9_seen : ca_mt yX9_seen cX9_seen 4 (some .int) 3 := ⟨tb2 (i := 71) (by decide +kernel) rfl, tb1 (i := 1) (by decide +kernel) rfl, by decide +kernel, by decide +kernel, by decide +kernel⟩
theorem mv_X9_seen : ca_mv yX9_seen := ⟨tb2 (i := 69) (by decide +kernel) rfl, tb2 (i := 70) (by decide +kernel) rfl⟩
theorem mt_X9_seenOf : ca_mt yX9_seenOf cX9_seenOf 3 (some .int) 2 := ⟨tb2 (i := 95) (by decide +kernel) rfl, tb1 (i := 1) (by decide +kernel) rfl, by decide +kernel, by decide +kernel, by decide +kernel⟩
theorem mv_X9_seenOf : ca_mv yX9_seenOf := ⟨tb2 (i := 93) (by decide +kernel) rfl, tb2 (i := 94) (by decide +kernel) rfl⟩
theorem mt_X9_sheet : ca_mt yX9_sheet cX9_sheet 4 (some .int) 3 := ⟨tb4 (i := 194) (by decide +kernel) rfl, tb1 (i := 1) (by decide +kernel) rfl, by decide +kernel, by decide +kernel, by decide +kernel⟩
theorem mv_X9_sheet : ca_mv yX9_sheet := ⟨tb4 (i := 192) (by decide +kernel) rfl, tb4 (i := 193) (by decide +kernel) rfl⟩
theorem mt_X9_span : ca_mt yX9_span cX9_span 6 (some .int) 4 := ⟨tb3 (i := 23) (by decide +kernel) rfl, tb1 (i := 1) (by decide +kernel) rfl, by decide +kernel, by decide +kernel, by decide +kernel⟩
theorem mv_X9_span : ca_mv yX9_span := ⟨tb3 (i := 21) (by decide +kernel) rfl, tb3 (i := 22) (by decide +kernel) rfl⟩
theorem mt_X9_status : ca_mt yX9_status cX9_status 4 (some .int) 1 := ⟨tb5 (i := 86) (by decide +kernel) rfl, tb1 (i := 1) (by decide +kernel) rfl, by decide +kernel, by decide +kernel, by decide +kernel⟩
theorem mv_X9_status : ca_mv yX9_status := ⟨tb5 (i := 84) (by decide +kernel) rfl, tb5 (i := 85) (by decide +kernel) rfl⟩
theorem mt_X9_strict : ca_mt yX9_strict cX9_strict 5 (some .int) 3 := ⟨tb3 (i := 168) (by decide +kernel) rfl, tb1 (i := 1) (by decide +kernel) rfl, by decide +kernel, by decide +kernel, by decide +kernel⟩
theorem mv_X9_strict : ca_mv yX9_strict := ⟨tb3 (i := 166) (by decide +kernel) rfl, tb3 (i := 167) (by decide +kernel) rfl⟩
theorem mt_X9_surety : ca_mt yX9_surety cX9_surety 4 (some .int) 3 := ⟨tb3 (i := 173) (by decide +kernel) rfl, tb1 (i := 1) (by decide +kernel) rfl, by decide +kernel, by decide +kernel, by decide +kernel⟩
theorem mv_X9_surety : ca_mv yX9_surety := ⟨tb3 (i := 171) (by decide +kernel) rfl, tb3 (i := 172) (by decide +kernel) rfl⟩
theorem mt_X9_suretyOf : ca_mt yX9_suretyOf cX9_suretyOf 3 (some .int) 2 := ⟨tb3 (i := 229) (by decide +kernel) rfl, tb1 (i := 1) (by decide +kernel) rfl, by decide +kernel, by decide +kernel, by decide +kernel⟩
theorem mv_X9_suretyOf : ca_mv yX9_suretyOf := ⟨tb3 (i := 227) (by decide +kernel) rfl, tb3 (i := 228) (by decide +kernel) rfl⟩
theorem mt_X9_tear : ca_mt yX9_tear cX9_tear 2 (some .int) 0 := ⟨tb5 (i := 60) (by decide +kernel) rfl, tb1 (i := 1) (by decide +kernel) rfl, by decide +kernel, by decide +kernel, by decide +kernel⟩
theorem mv_X9_tear : ca_mv yX9_tear := ⟨tb5 (i := 58) (by decide +kernel) rfl, tb5 (i := 59) (by decide +kernel) rfl⟩
theorem mt_X9_term : ca_mt yX9_term cX9_term 4 (some .int) 3 := ⟨tb2 (i := 226) (by decide +kernel) rfl, tb1 (i := 1) (by decide +kernel) rfl, by decide +kernel, by decide +kernel, by decide +kernel⟩
theorem mv_X9_term : ca_mv yX9_term := ⟨tb2 (i := 224) (by decide +kernel) rfl, tb2 (i := 225) (by decide +kernel) rfl⟩
theorem mt_X9_termOf : ca_mt yX9_termOf cX9_termOf 3 (some .int) 2 := ⟨tb3 (i := 13) (by decide +kernel) rfl, tb1 (i := 1) (by decide +kernel) rfl, by decide +kernel, by decide +kernel, by decide +kernel⟩
theorem mv_X9_termOf : ca_mv yX9_termOf := ⟨tb3 (i := 11) (by decide +kernel) rfl, tb3 (i := 12) (by decide +kernel) rfl⟩
theorem mt_X9_text : ca_mt yX9_text cX9_text 3 (some .int) 0 := ⟨tb4 (i := 42) (by decide +kernel) rfl, tb1 (i := 1) (by decide +kernel) rfl, by decide +kernel, by decide +kernel, by decide +kernel⟩
theorem mv_X9_text : ca_mv yX9_text := ⟨tb4 (i := 40) (by decide +kernel) rfl, tb4 (i := 41) (by decide +kernel) rfl⟩
theorem mt_X9_timesThere : ca_mt yX9_timesThere cX9_timesThere 7 (some .int) 2 := ⟨tb5 (i := 22) (by decide +kernel) rfl, tb1 (i := 1) (by decide +kernel) rfl, by decide +kernel, by decide +kernel, by decide +kernel⟩
theorem mv_X9_timesThere : ca_mv yX9_timesThere := ⟨tb5 (i := 21) (by decide +kernel) rfl, tbs (i := 34) (by decide +kernel) rfl⟩
theorem mt_X9_turn : ca_mt yX9_turn cX9_turn 4 (some .int) 2 := ⟨tb3 (i := 29) (by decide +kernel) rfl, tb1 (i := 1) (by decide +kernel) rfl, by decide +kernel, by decide +kernel, by decide +kernel⟩
theorem mv_X9_turn : ca_mv yX9_turn := ⟨tb3 (i := 27) (by decide +kernel) rfl, tb3 (i := 28) (by decide +kernel) rfl⟩
theorem mt_X9_undo : ca_mt yX9_undo cX9_undo 1 (some .int) 0 := ⟨tb5 (i := 55) (by decide +kernel) rfl, tb1 (i := 1) (by decide +kernel) rfl, by decide +kernel, by decide +kernel, by decide +kernel⟩
theorem mv_X9_undo : ca_mv yX9_undo := ⟨tb5 (i := 53) (by decide +kernel) rfl, tb5 (i := 54) (by decide +kernel) rfl⟩
theorem mt_X9_way : ca_mt yX9_way cX9_way 3 (some .int) 2 := ⟨tb3 (i := 89) (by decide +kernel) rfl, tb1 (i := 1) (by decide +kernel) rfl, by decide +kernel, by decide +kernel, by decide +kernel⟩
theorem mv_X9_way : ca_mv yX9_way := ⟨tb3 (i := 87) (by decide +kernel) rfl, tb3 (i := 88) (by decide +kernel) rfl⟩
theorem mt_X9_ways : ca_mt yX9_ways cX9_ways 3 (some .int) 2 := ⟨tb3 (i := 117) (by decide +kernel) rfl, tb1 (i := 1) (by decide +kernel) rfl, by decide +kernel, by decide +kernel, by decide +kernel⟩
theorem mv_X9_ways : ca_mv yX9_ways := ⟨tb3 (i := 115) (by decide +kernel) rfl, tb3 (i := 116) (by decide +kernel) rfl⟩
theorem mt_X9_where : ca_mt yX9_where cX9_where 4 (some .int) 2 := ⟨tb2 (i := 120) (by decide +kernel) rfl, tb1 (i := 1) (by decide +kernel) rfl, by decide +kernel, by decide +kernel, by decide +kernel⟩
theorem mv_X9_where : ca_mv yX9_where := ⟨tb2 (i := 118) (by decide +kernel) rfl, tb2 (i := 119) (by decide +kernel) rfl⟩
theorem mt_X9_wipe : ca_mt yX9_wipe cX9_wipe 2 (some .int) 0 := ⟨tb4 (i := 34) (by decide +kernel) rfl, tb1 (i := 1) (by decide +kernel) rfl, by decide +kernel, by decide +kernel, by decide +kernel⟩
theorem mv_X9_wipe : ca_mv yX9_wipe := ⟨tb4 (i := 32) (by decide +kernel) rfl, tb4 (i := 33) (by decide +kernel) rfl⟩
theorem mt_X9_write : ca_mt yX9_write cX9_write 4 (some .int) 3 := ⟨tb4 (i := 212) (by decide +kernel) rfl, tb1 (i := 1) (by decide +kernel) rfl, by decide +kernel, by decide +kernel, by decide +kernel⟩
theorem mv_X9_write : ca_mv yX9_write := ⟨tb4 (i := 210) (by decide +kernel) rfl, tb4 (i := 211) (by decide +kernel) rfl⟩
theorem ms_min : Cond.static Lib.Math.min.name ∈ T0 := tb3 (i := 143) (by decide +kernel) rfl
theorem mi_min : Cond.initialized "java/lang/Math" ∈ T0 := tb1 (i := 13) (by decide +kernel) rfl
theorem mc_min : Cond.code Lib.Math.min.name Lib.Math.min.code 2 (some .int) ∈ T0 := tb3 (i := 144) (by decide +kernel) rfl
theorem ms_acopy : Cond.static arraycopyName ∈ T0 := tb3 (i := 131) (by decide +kernel) rfl
theorem mn_acopy : Cond.native arraycopyName ∈ T0 := tb3 (i := 132) (by decide +kernel) rfl
theorem mi_acopy : Cond.initialized "java/lang/System" ∈ T0 := tb1 (i := 12) (by decide +kernel) rfl
