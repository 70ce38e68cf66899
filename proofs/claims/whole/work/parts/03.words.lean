theorem lk_L_9 : Cond.methodLink RL 9 yX9_init ∈ T0 := tb (i := 98) (by decide +kernel) rfl
theorem lk_X9_1 : Cond.methodLink RX9 1 objectInit ∈ T0 := tb (i := 101) (by decide +kernel) rfl
theorem lk_X9_9 : Cond.methodLink RX9 9 yX0_init ∈ T0 := tb (i := 106) (by decide +kernel) rfl
theorem lk_X0_3 : Cond.methodLink RX0 3 objectInit ∈ T0 := tb (i := 109) (by decide +kernel) rfl
theorem ln_X0_11 : Cond.methodLinkNest RX0 11 yX2_init "ReleaseTerms" ∈ ca_nest := List.mem_of_getElem? (i := 0) (by decide +kernel)
theorem lk_X2_3 : Cond.methodLink RX2 3 objectInit ∈ T0 := tb (i := 115) (by decide +kernel) rfl
theorem lf_X2_9 : Cond.fieldLink RX2 9 "ReleaseTerms$Places" "neighbours" "[I" ∈ T0 := tb (i := 116) (by decide +kernel) rfl
theorem ln_X0_20 : Cond.methodLinkNest RX0 20 yX5_init "ReleaseTerms" ∈ ca_nest := List.mem_of_getElem? (i := 1) (by decide +kernel)
theorem lk_X5_3 : Cond.methodLink RX5 3 objectInit ∈ T0 := tb (i := 126) (by decide +kernel) rfl
theorem lf_X5_11 : Cond.fieldLink RX5 11 "ReleaseTerms$Sightings" "rows" "[I" ∈ T0 := tb (i := 127) (by decide +kernel) rfl
theorem lf_X5_15 : Cond.fieldLink RX5 15 "ReleaseTerms$Sightings" "size" "I" ∈ T0 := tb (i := 128) (by decide +kernel) rfl
theorem ln_X0_27 : Cond.methodLinkNest RX0 27 yX7_init "ReleaseTerms" ∈ ca_nest := List.mem_of_getElem? (i := 2) (by decide +kernel)
theorem lk_X7_3 : Cond.methodLink RX7 3 objectInit ∈ T0 := tb (i := 139) (by decide +kernel) rfl
theorem lf_X7_11 : Cond.fieldLink RX7 11 "ReleaseTerms$Terms" "rows" "[I" ∈ T0 := tb (i := 140) (by decide +kernel) rfl
theorem lf_X7_15 : Cond.fieldLink RX7 15 "ReleaseTerms$Terms" "size" "I" ∈ T0 := tb (i := 141) (by decide +kernel) rfl
theorem ln_X0_34 : Cond.methodLinkNest RX0 34 yX6_init "ReleaseTerms" ∈ ca_nest := List.mem_of_getElem? (i := 3) (by decide +kernel)
theorem lk_X6_3 : Cond.methodLink RX6 3 objectInit ∈ T0 := tb (i := 152) (by decide +kernel) rfl
theorem lf_X6_9 : Cond.fieldLink RX6 9 "ReleaseTerms$Sureties" "rooms" "[I" ∈ T0 := tb (i := 153) (by decide +kernel) rfl
theorem lf_X6_15 : Cond.fieldLink RX6 15 "ReleaseTerms$Sureties" "backed" "[I" ∈ T0 := tb (i := 154) (by decide +kernel) rfl
theorem lf_X6_18 : Cond.fieldLink RX6 18 "ReleaseTerms$Sureties" "given" "[I" ∈ T0 := tb (i := 155) (by decide +kernel) rfl
theorem lf_X6_21 : Cond.fieldLink RX6 21 "ReleaseTerms$Sureties" "bails" "[I" ∈ T0 := tb (i := 156) (by decide +kernel) rfl
theorem lf_X0_12 : Cond.fieldLink RX0 12 "ReleaseTerms$Book" "places" "LReleaseTerms$Places;" ∈ T0 := tb (i := 166) (by decide +kernel) rfl
theorem lf_X9_62 : Cond.fieldLink RX9 62 "ReleaseTerms$Book" "places" "LReleaseTerms$Places;" ∈ T0 := tb (i := 167) (by decide +kernel) rfl
theorem lf_X1_49 : Cond.fieldLink RX1 49 "ReleaseTerms$Book" "places" "LReleaseTerms$Places;" ∈ T0 := tb (i := 168) (by decide +kernel) rfl
theorem lf_X8_55 : Cond.fieldLink RX8 55 "ReleaseTerms$Book" "places" "LReleaseTerms$Places;" ∈ T0 := tb (i := 169) (by decide +kernel) rfl
theorem lf_X0_21 : Cond.fieldLink RX0 21 "ReleaseTerms$Book" "sightings" "LReleaseTerms$Sightings;" ∈ T0 := tb (i := 170) (by decide +kernel) rfl
theorem lf_X1_37 : Cond.fieldLink RX1 37 "ReleaseTerms$Book" "sightings" "LReleaseTerms$Sightings;" ∈ T0 := tb (i := 171) (by decide +kernel) rfl
theorem lf_X8_18 : Cond.fieldLink RX8 18 "ReleaseTerms$Book" "sightings" "LReleaseTerms$Sightings;" ∈ T0 := tb (i := 172) (by decide +kernel) rfl
theorem lf_X9_89 : Cond.fieldLink RX9 89 "ReleaseTerms$Book" "sightings" "LReleaseTerms$Sightings;" ∈ T0 := tb (i := 173) (by decide +kernel) rfl
theorem lf_X0_28 : Cond.fieldLink RX0 28 "ReleaseTerms$Book" "terms" "LReleaseTerms$Terms;" ∈ T0 := tb (i := 174) (by decide +kernel) rfl
theorem lf_X8_24 : Cond.fieldLink RX8 24 "ReleaseTerms$Book" "terms" "LReleaseTerms$Terms;" ∈ T0 := tb (i := 175) (by decide +kernel) rfl
theorem lf_X1_77 : Cond.fieldLink RX1 77 "ReleaseTerms$Book" "terms" "LReleaseTerms$Terms;" ∈ T0 := tb (i := 176) (by decide +kernel) rfl
theorem lf_X9_137 : Cond.fieldLink RX9 137 "ReleaseTerms$Book" "terms" "LReleaseTerms$Terms;" ∈ T0 := tb (i := 177) (by decide +kernel) rfl
theorem lf_X0_35 : Cond.fieldLink RX0 35 "ReleaseTerms$Book" "sureties" "LReleaseTerms$Sureties;" ∈ T0 := tb (i := 178) (by decide +kernel) rfl
theorem lf_X9_224 : Cond.fieldLink RX9 224 "ReleaseTerms$Book" "sureties" "LReleaseTerms$Sureties;" ∈ T0 := tb (i := 179) (by decide +kernel) rfl
theorem lf_X0_39 : Cond.fieldLink RX0 39 "ReleaseTerms$Book" "hearings" "[I" ∈ T0 := tb (i := 180) (by decide +kernel) rfl
theorem lf_X9_263 : Cond.fieldLink RX9 263 "ReleaseTerms$Book" "hearings" "[I" ∈ T0 := tb (i := 181) (by decide +kernel) rfl
theorem lf_X0_43 : Cond.fieldLink RX0 43 "ReleaseTerms$Book" "spots" "[I" ∈ T0 := tb (i := 182) (by decide +kernel) rfl
theorem lf_X9_294 : Cond.fieldLink RX9 294 "ReleaseTerms$Book" "spots" "[I" ∈ T0 := tb (i := 183) (by decide +kernel) rfl
theorem lf_X0_46 : Cond.fieldLink RX0 46 "ReleaseTerms$Book" "z" "I" ∈ T0 := tb (i := 184) (by decide +kernel) rfl
theorem lf_X9_266 : Cond.fieldLink RX9 266 "ReleaseTerms$Book" "z" "I" ∈ T0 := tb (i := 185) (by decide +kernel) rfl
theorem ln_X9_25 : Cond.methodLinkNest RX9 25 yX3_init "ReleaseTerms" ∈ ca_nest := List.mem_of_getElem? (i := 4) (by decide +kernel)
theorem lk_X3_5 : Cond.methodLink RX3 5 objectInit ∈ T0 := tb (i := 206) (by decide +kernel) rfl
theorem lf_X3_11 : Cond.fieldLink RX3 11 "ReleaseTerms$Reader" "tape" "[I" ∈ T0 := tb (i := 207) (by decide +kernel) rfl
theorem lf_X3_21 : Cond.fieldLink RX3 21 "ReleaseTerms$Reader" "size" "I" ∈ T0 := tb (i := 208) (by decide +kernel) rfl
theorem lf_X3_15 : Cond.fieldLink RX3 15 "ReleaseTerms$Reader" "items" "[I" ∈ T0 := tb (i := 209) (by decide +kernel) rfl
theorem lf_X3_25 : Cond.fieldLink RX3 25 "ReleaseTerms$Reader" "itemCount" "I" ∈ T0 := tb (i := 210) (by decide +kernel) rfl
theorem lf_X3_40 : Cond.fieldLink RX3 40 "ReleaseTerms$Reader" "fault" "I" ∈ T0 := tb (i := 211) (by decide +kernel) rfl
theorem lf_X3_52 : Cond.fieldLink RX3 52 "ReleaseTerms$Reader" "sort" "I" ∈ T0 := tb (i := 212) (by decide +kernel) rfl
theorem lf_X3_114 : Cond.fieldLink RX3 114 "ReleaseTerms$Reader" "begin" "I" ∈ T0 := tb (i := 213) (by decide +kernel) rfl
theorem lf_X3_43 : Cond.fieldLink RX3 43 "ReleaseTerms$Reader" "behind" "I" ∈ T0 := tb (i := 214) (by decide +kernel) rfl
theorem lf_X3_68 : Cond.fieldLink RX3 68 "ReleaseTerms$Reader" "value" "I" ∈ T0 := tb (i := 215) (by decide +kernel) rfl
theorem lf_X3_33 : Cond.fieldLink RX3 33 "ReleaseTerms$Reader" "terms" "I" ∈ T0 := tb (i := 216) (by decide +kernel) rfl
theorem lf_X3_18 : Cond.fieldLink RX3 18 "ReleaseTerms$Reader" "termsOf" "[I" ∈ T0 := tb (i := 217) (by decide +kernel) rfl
theorem ln_X9_32 : Cond.methodLinkNest RX9 32 yX4_init "ReleaseTerms" ∈ ca_nest := List.mem_of_getElem? (i := 5) (by decide +kernel)
theorem lk_X4_1 : Cond.methodLink RX4 1 objectInit ∈ T0 := tb (i := 246) (by decide +kernel) rfl
theorem lf_X4_9 : Cond.fieldLink RX4 9 "ReleaseTerms$Sheets" "bits" "[I" ∈ T0 := tb (i := 247) (by decide +kernel) rfl
theorem lf_X4_13 : Cond.fieldLink RX4 13 "ReleaseTerms$Sheets" "sizes" "[I" ∈ T0 := tb (i := 248) (by decide +kernel) rfl
theorem lf_X4_16 : Cond.fieldLink RX4 16 "ReleaseTerms$Sheets" "numbers" "[I" ∈ T0 := tb (i := 249) (by decide +kernel) rfl
theorem ln_X9_39 : Cond.methodLinkNest RX9 39 yX1_init "ReleaseTerms" ∈ ca_nest := List.mem_of_getElem? (i := 6) (by decide +kernel)
theorem lk_X1_3 : Cond.methodLink RX1 3 objectInit ∈ T0 := tb (i := 262) (by decide +kernel) rfl
theorem lf_X1_9 : Cond.fieldLink RX1 9 "ReleaseTerms$DayWays" "allowed" "[I" ∈ T0 := tb (i := 263) (by decide +kernel) rfl
theorem lf_X1_15 : Cond.fieldLink RX1 15 "ReleaseTerms$DayWays" "steps" "[I" ∈ T0 := tb (i := 264) (by decide +kernel) rfl
theorem lf_X1_18 : Cond.fieldLink RX1 18 "ReleaseTerms$DayWays" "payments" "[I" ∈ T0 := tb (i := 265) (by decide +kernel) rfl
theorem lf_X1_21 : Cond.fieldLink RX1 21 "ReleaseTerms$DayWays" "reached" "[I" ∈ T0 := tb (i := 266) (by decide +kernel) rfl
theorem lf_X1_24 : Cond.fieldLink RX1 24 "ReleaseTerms$DayWays" "toGo" "[J" ∈ T0 := tb (i := 267) (by decide +kernel) rfl
theorem lf_X1_28 : Cond.fieldLink RX1 28 "ReleaseTerms$DayWays" "leading" "[I" ∈ T0 := tb (i := 268) (by decide +kernel) rfl
theorem lf_X1_31 : Cond.fieldLink RX1 31 "ReleaseTerms$DayWays" "leadingNext" "[I" ∈ T0 := tb (i := 269) (by decide +kernel) rfl
theorem lf_X1_34 : Cond.fieldLink RX1 34 "ReleaseTerms$DayWays" "ahead" "[I" ∈ T0 := tb (i := 270) (by decide +kernel) rfl
theorem lf_X1_59 : Cond.fieldLink RX1 59 "ReleaseTerms$DayWays" "firstDebt" "I" ∈ T0 := tb (i := 271) (by decide +kernel) rfl
theorem lf_X1_63 : Cond.fieldLink RX1 63 "ReleaseTerms$DayWays" "asking" "I" ∈ T0 := tb (i := 272) (by decide +kernel) rfl
theorem ln_X9_46 : Cond.methodLinkNest RX9 46 yX8_init "ReleaseTerms" ∈ ca_nest := List.mem_of_getElem? (i := 7) (by decide +kernel)
theorem lk_X8_3 : Cond.methodLink RX8 3 objectInit ∈ T0 := tb (i := 300) (by decide +kernel) rfl
theorem lf_X8_9 : Cond.fieldLink RX8 9 "ReleaseTerms$Trial" "open" "[I" ∈ T0 := tb (i := 301) (by decide +kernel) rfl
theorem lf_X8_15 : Cond.fieldLink RX8 15 "ReleaseTerms$Trial" "clean" "[I" ∈ T0 := tb (i := 302) (by decide +kernel) rfl
theorem lf_X8_44 : Cond.fieldLink RX8 44 "ReleaseTerms$Trial" "fouled" "I" ∈ T0 := tb (i := 303) (by decide +kernel) rfl
theorem lf_X9_10 : Cond.fieldLink RX9 10 "ReleaseTerms" "book" "LReleaseTerms$Book;" ∈ T0 := tb (i := 311) (by decide +kernel) rfl
theorem lf_X9_16 : Cond.fieldLink RX9 16 "ReleaseTerms" "keptBook" "LReleaseTerms$Book;" ∈ T0 := tb (i := 312) (by decide +kernel) rfl
theorem lf_X9_344 : Cond.fieldLink RX9 344 "ReleaseTerms" "isImageKept" "Z" ∈ T0 := tb (i := 313) (by decide +kernel) rfl
theorem lf_X9_19 : Cond.fieldLink RX9 19 "ReleaseTerms" "found" "[I" ∈ T0 := tb (i := 314) (by decide +kernel) rfl
theorem lf_X9_26 : Cond.fieldLink RX9 26 "ReleaseTerms" "reader" "LReleaseTerms$Reader;" ∈ T0 := tb (i := 315) (by decide +kernel) rfl
theorem lf_X9_33 : Cond.fieldLink RX9 33 "ReleaseTerms" "sheets" "LReleaseTerms$Sheets;" ∈ T0 := tb (i := 316) (by decide +kernel) rfl
theorem lf_X9_40 : Cond.fieldLink RX9 40 "ReleaseTerms" "dayWays" "LReleaseTerms$DayWays;" ∈ T0 := tb (i := 317) (by decide +kernel) rfl
theorem lf_X9_47 : Cond.fieldLink RX9 47 "ReleaseTerms" "trial" "LReleaseTerms$Trial;" ∈ T0 := tb (i := 318) (by decide +kernel) rfl
theorem lf_X9_51 : Cond.fieldLink RX9 51 "ReleaseTerms" "told" "[I" ∈ T0 := tb (i := 319) (by decide +kernel) rfl
theorem lf_X9_187 : Cond.fieldLink RX9 187 "ReleaseTerms" "isWayTold" "Z" ∈ T0 := tb (i := 320) (by decide +kernel) rfl
theorem lk_L_13 : Cond.methodLink RL 13 yX9_road ∈ T0 := tb (i := 342) (by decide +kernel) rfl
theorem lk_X9_54 : Cond.methodLink RX9 54 yX9_isPlace ∈ T0 := tb (i := 346) (by decide +kernel) rfl
theorem lk_X9_58 : Cond.methodLink RX9 58 yX9_finding ∈ T0 := tb (i := 349) (by decide +kernel) rfl
theorem lc_X9_357 : Cond.constant RX9 357 (-1000001) ∈ T0 := tb (i := 353) (by decide +kernel) rfl
theorem lk_X9_66 : Cond.methodLink RX9 66 yX2_areJoined ∈ T0 := tb (i := 354) (by decide +kernel) rfl
theorem ln_X2_15 : Cond.methodLinkNest RX2 15 yX9_has "ReleaseTerms" ∈ ca_nest := List.mem_of_getElem? (i := 8) (by decide +kernel)
theorem lk_X9_72 : Cond.methodLink RX9 72 yX2_join ∈ T0 := tb (i := 361) (by decide +kernel) rfl
theorem lk_L_18 : Cond.methodLink RL 18 yX9_roads ∈ T0 := tb (i := 365) (by decide +kernel) rfl
theorem lk_X9_76 : Cond.methodLink RX9 76 yX2_neighboursOf ∈ T0 := tb (i := 369) (by decide +kernel) rfl
theorem lk_L_23 : Cond.methodLink RL 23 yX9_far ∈ T0 := tb (i := 373) (by decide +kernel) rfl
theorem lk_X9_79 : Cond.methodLink RX9 79 yX2_fewestMoves ∈ T0 := tb (i := 377) (by decide +kernel) rfl
theorem lk_X2_19 : Cond.methodLink RX2 19 yX2_stepFrom ∈ T0 := tb (i := 381) (by decide +kernel) rfl
theorem lk_L_28 : Cond.methodLink RL 28 yX9_seen ∈ T0 := tb (i := 385) (by decide +kernel) rfl
theorem lk_X9_83 : Cond.methodLink RX9 83 yX9_isPerson ∈ T0 := tb (i := 389) (by decide +kernel) rfl
theorem lk_X9_86 : Cond.methodLink RX9 86 yX9_isWhen ∈ T0 := tb (i := 392) (by decide +kernel) rfl
theorem lk_X9_99 : Cond.methodLink RX9 99 yX9_dayOf ∈ T0 := tb (i := 395) (by decide +kernel) rfl
theorem lk_X9_102 : Cond.methodLink RX9 102 yX9_hourOf ∈ T0 := tb (i := 398) (by decide +kernel) rfl
theorem lk_X9_93 : Cond.methodLink RX9 93 yX5_hasRoom ∈ T0 := tb (i := 401) (by decide +kernel) rfl
theorem lk_X9_105 : Cond.methodLink RX9 105 yX5_add ∈ T0 := tb (i := 405) (by decide +kernel) rfl
theorem lk_L_33 : Cond.methodLink RL 33 yX9_seenOf ∈ T0 := tb (i := 409) (by decide +kernel) rfl
theorem lk_X9_109 : Cond.methodLink RX9 109 yX5_size ∈ T0 := tb (i := 413) (by decide +kernel) rfl
theorem lk_X9_113 : Cond.methodLink RX9 113 yX5_counts ∈ T0 := tb (i := 417) (by decide +kernel) rfl
theorem lk_X5_23 : Cond.methodLink RX5 23 yX5_field ∈ T0 := tb (i := 421) (by decide +kernel) rfl
theorem lk_X5_27 : Cond.methodLink RX5 27 yX5_latest ∈ T0 := tb (i := 425) (by decide +kernel) rfl
theorem lk_X5_19 : Cond.methodLink RX5 19 yX5_isOf ∈ T0 := tb (i := 429) (by decide +kernel) rfl
theorem lk_X9_116 : Cond.methodLink RX9 116 yX5_field ∈ T0 := tb (i := 433) (by decide +kernel) rfl
theorem lk_L_37 : Cond.methodLink RL 37 yX9_where ∈ T0 := tb (i := 434) (by decide +kernel) rfl
theorem lk_X9_119 : Cond.methodLink RX9 119 yX5_latest ∈ T0 := tb (i := 438) (by decide +kernel) rfl
theorem lk_L_41 : Cond.methodLink RL 41 yX9_could ∈ T0 := tb (i := 439) (by decide +kernel) rfl
theorem lk_X9_123 : Cond.methodLink RX9 123 yX9_placesOfWays ∈ T0 := tb (i := 443) (by decide +kernel) rfl
theorem lk_X9_330 : Cond.methodLink RX9 330 yX1_prepare ∈ T0 := tb (i := 447) (by decide +kernel) rfl
theorem lk_X1_43 : Cond.methodLink RX1 43 yX5_pin ∈ T0 := tb (i := 451) (by decide +kernel) rfl
theorem lk_X1_53 : Cond.methodLink RX1 53 yX2_stepFrom ∈ T0 := tb (i := 455) (by decide +kernel) rfl
theorem ln_X1_66 : Cond.methodLinkNest RX1 66 yX9_has "ReleaseTerms" ∈ ca_nest := List.mem_of_getElem? (i := 9) (by decide +kernel)
theorem lk_X1_70 : Cond.methodLink RX1 70 yX1_obey ∈ T0 := tb (i := 457) (by decide +kernel) rfl
theorem lk_X1_74 : Cond.methodLink RX1 74 yX0_badPlaces ∈ T0 := tb (i := 461) (by decide +kernel) rfl
theorem lk_X0_51 : Cond.methodLink RX0 51 yX7_field ∈ T0 := tb (i := 465) (by decide +kernel) rfl
theorem lk_X0_55 : Cond.methodLink RX0 55 yX2_neighboursOf ∈ T0 := tb (i := 469) (by decide +kernel) rfl
theorem lk_X1_81 : Cond.methodLink RX1 81 yX7_asked ∈ T0 := tb (i := 470) (by decide +kernel) rfl
theorem lf_X7_34 : Cond.fieldLink RX7 34 "ReleaseTerms$Terms" "ASKED" "[I" ∈ T0 := tb (i := 474) (by decide +kernel) rfl
theorem lk_X7_19 : Cond.methodLink RX7 19 yX7_field ∈ T0 := tb (i := 476) (by decide +kernel) rfl
theorem lk_X1_86 : Cond.methodLink RX1 86 yX7_field ∈ T0 := tb (i := 477) (by decide +kernel) rfl
theorem lk_X9_358 : Cond.methodLink RX9 358 yX1_exploreForth ∈ T0 := tb (i := 478) (by decide +kernel) rfl
theorem lk_X1_90 : Cond.methodLink RX1 90 yX1_row ∈ T0 := tb (i := 482) (by decide +kernel) rfl
theorem lk_X1_93 : Cond.methodLink RX1 93 yX1_arrive ∈ T0 := tb (i := 486) (by decide +kernel) rfl
theorem lk_X1_98 : Cond.methodLink RX1 98 yX1_pay ∈ T0 := tb (i := 490) (by decide +kernel) rfl
theorem lk_X1_97 : Cond.methodLink RX1 97 yX1_stepFrom ∈ T0 := tb (i := 494) (by decide +kernel) rfl
theorem lk_X9_184 : Cond.methodLink RX9 184 yX1_exploreBack ∈ T0 := tb (i := 498) (by decide +kernel) rfl
theorem lc_X1_102 : Cond.constantLong RX1 102 (-1) ∈ T0 := tb (i := 502) (by decide +kernel) rfl
theorem lk_X1_104 : Cond.methodLink RX1 104 yX1_setCost ∈ T0 := tb (i := 503) (by decide +kernel) rfl
theorem lc_X1_120 : Cond.constantLong RX1 120 (255) ∈ T0 := tb (i := 507) (by decide +kernel) rfl
theorem lk_X1_107 : Cond.methodLink RX1 107 yX1_weigh ∈ T0 := tb (i := 508) (by decide +kernel) rfl
theorem lk_X1_111 : Cond.methodLink RX1 111 yX1_lookAhead ∈ T0 := tb (i := 512) (by decide +kernel) rfl
theorem lk_X1_117 : Cond.methodLink RX1 117 yX1_cost ∈ T0 := tb (i := 516) (by decide +kernel) rfl
theorem lk_X1_114 : Cond.methodLink RX1 114 yX1_leastCost ∈ T0 := tb (i := 520) (by decide +kernel) rfl
theorem lk_X9_361 : Cond.methodLink RX9 361 yX1_placesIn ∈ T0 := tb (i := 524) (by decide +kernel) rfl
theorem lk_L_45 : Cond.methodLink RL 45 yX9_drift ∈ T0 := tb (i := 528) (by decide +kernel) rfl
theorem lk_X9_126 : Cond.methodLink RX9 126 yX9_isDay ∈ T0 := tb (i := 532) (by decide +kernel) rfl
theorem lk_X9_129 : Cond.methodLink RX9 129 yX0_draw ∈ T0 := tb (i := 535) (by decide +kernel) rfl
theorem lc_X0_50 : Cond.constant RX0 50 (1103515245) ∈ T0 := tb (i := 539) (by decide +kernel) rfl
theorem lk_L_49 : Cond.methodLink RL 49 yX9_term ∈ T0 := tb (i := 540) (by decide +kernel) rfl
theorem lk_X9_132 : Cond.methodLink RX9 132 yX7_isKind ∈ T0 := tb (i := 544) (by decide +kernel) rfl
theorem lk_X9_141 : Cond.methodLink RX9 141 yX7_hasRoomFor ∈ T0 := tb (i := 547) (by decide +kernel) rfl
theorem lk_X7_23 : Cond.methodLink RX7 23 yX7_howManyOf ∈ T0 := tb (i := 551) (by decide +kernel) rfl
theorem lk_X9_144 : Cond.methodLink RX9 144 yX7_add ∈ T0 := tb (i := 555) (by decide +kernel) rfl
theorem lk_X7_27 : Cond.methodLink RX7 27 yX7_setHours ∈ T0 := tb (i := 559) (by decide +kernel) rfl
theorem lk_X7_31 : Cond.methodLink RX7 31 yX7_setDays ∈ T0 := tb (i := 563) (by decide +kernel) rfl
theorem lk_L_53 : Cond.methodLink RL 53 yX9_termOf ∈ T0 := tb (i := 567) (by decide +kernel) rfl
theorem lk_X9_146 : Cond.methodLink RX9 146 yX7_isTerm ∈ T0 := tb (i := 571) (by decide +kernel) rfl
theorem lk_X9_149 : Cond.methodLink RX9 149 yX7_asked ∈ T0 := tb (i := 575) (by decide +kernel) rfl
theorem lk_X9_152 : Cond.methodLink RX9 152 yX7_field ∈ T0 := tb (i := 576) (by decide +kernel) rfl
theorem lk_L_57 : Cond.methodLink RL 57 yX9_span ∈ T0 := tb (i := 577) (by decide +kernel) rfl
theorem lk_X9_153 : Cond.methodLink RX9 153 yX7_setHours ∈ T0 := tb (i := 581) (by decide +kernel) rfl
theorem lk_X9_157 : Cond.methodLink RX9 157 yX7_setDays ∈ T0 := tb (i := 582) (by decide +kernel) rfl
theorem lk_L_62 : Cond.methodLink RL 62 yX9_turn ∈ T0 := tb (i := 583) (by decide +kernel) rfl
theorem lk_X9_160 : Cond.methodLink RX9 160 yX7_setKind ∈ T0 := tb (i := 587) (by decide +kernel) rfl
theorem lk_L_66 : Cond.methodLink RL 66 yX9_change ∈ T0 := tb (i := 591) (by decide +kernel) rfl
theorem lk_L_70 : Cond.methodLink RL 70 yX9_bad ∈ T0 := tb (i := 595) (by decide +kernel) rfl
theorem lk_X9_164 : Cond.methodLink RX9 164 yX0_badPlaces ∈ T0 := tb (i := 599) (by decide +kernel) rfl
theorem lk_L_74 : Cond.methodLink RL 74 yX9_inForce ∈ T0 := tb (i := 600) (by decide +kernel) rfl
theorem lk_X9_167 : Cond.methodLink RX9 167 yX7_binding ∈ T0 := tb (i := 604) (by decide +kernel) rfl
theorem lk_X7_40 : Cond.methodLink RX7 40 yX7_isBinding ∈ T0 := tb (i := 608) (by decide +kernel) rfl
theorem lk_L_78 : Cond.methodLink RL 78 yX9_kept ∈ T0 := tb (i := 612) (by decide +kernel) rfl
theorem lk_X9_170 : Cond.methodLink RX9 170 yX7_isBinding ∈ T0 := tb (i := 616) (by decide +kernel) rfl
theorem lk_X9_173 : Cond.methodLink RX9 173 yX8_verdict ∈ T0 := tb (i := 617) (by decide +kernel) rfl
theorem lk_X8_30 : Cond.methodLink RX8 30 yX7_field ∈ T0 := tb (i := 621) (by decide +kernel) rfl
theorem lk_X8_34 : Cond.methodLink RX8 34 yX5_pin ∈ T0 := tb (i := 622) (by decide +kernel) rfl
theorem lk_X8_40 : Cond.methodLink RX8 40 yX7_asked ∈ T0 := tb (i := 623) (by decide +kernel) rfl
theorem lk_X8_48 : Cond.methodLink RX8 48 yX8_goThrough ∈ T0 := tb (i := 624) (by decide +kernel) rfl
theorem lk_X8_52 : Cond.methodLink RX8 52 yX0_badPlaces ∈ T0 := tb (i := 628) (by decide +kernel) rfl
theorem lk_X8_59 : Cond.methodLink RX8 59 yX2_stepFrom ∈ T0 := tb (i := 629) (by decide +kernel) rfl
theorem lk_L_82 : Cond.methodLink RL 82 yX9_count ∈ T0 := tb (i := 630) (by decide +kernel) rfl
theorem lk_L_86 : Cond.methodLink RL 86 yX9_breach ∈ T0 := tb (i := 634) (by decide +kernel) rfl
theorem lk_X9_177 : Cond.methodLink RX9 177 yX9_isSomeTermBroken ∈ T0 := tb (i := 638) (by decide +kernel) rfl
theorem lk_X9_198 : Cond.methodLink RX9 198 yX9_has ∈ T0 := tb (i := 642) (by decide +kernel) rfl
theorem lk_L_90 : Cond.methodLink RL 90 yX9_way ∈ T0 := tb (i := 643) (by decide +kernel) rfl
theorem lk_X9_180 : Cond.methodLink RX9 180 yX9_isThereAWay ∈ T0 := tb (i := 647) (by decide +kernel) rfl
theorem lk_X9_364 : Cond.methodLink RX9 364 yX1_isThereOne ∈ T0 := tb (i := 651) (by decide +kernel) rfl
theorem lk_X9_191 : Cond.methodLink RX9 191 yX1_tellBest ∈ T0 := tb (i := 655) (by decide +kernel) rfl
theorem lk_X1_122 : Cond.methodLink RX1 122 yX1_bestNext ∈ T0 := tb (i := 659) (by decide +kernel) rfl
theorem lk_L_94 : Cond.methodLink RL 94 yX9_at ∈ T0 := tb (i := 663) (by decide +kernel) rfl
theorem lk_L_98 : Cond.methodLink RL 98 yX9_may ∈ T0 := tb (i := 667) (by decide +kernel) rfl
theorem lk_L_102 : Cond.methodLink RL 102 yX9_ways ∈ T0 := tb (i := 671) (by decide +kernel) rfl
theorem lk_X9_195 : Cond.methodLink RX9 195 yX1_howMany ∈ T0 := tb (i := 675) (by decide +kernel) rfl
theorem lk_X1_125 : Cond.methodLink RX1 125 yX1_clearNext ∈ T0 := tb (i := 679) (by decide +kernel) rfl
theorem lk_X1_129 : Cond.methodLink RX1 129 yX1_isAllowed ∈ T0 := tb (i := 683) (by decide +kernel) rfl
theorem lk_X1_132 : Cond.methodLink RX1 132 arraycopyName ∈ T0 := tb (i := 687) (by decide +kernel) rfl
theorem lk_X1_138 : Cond.methodLink RX1 138 yX1_leadOn ∈ T0 := tb (i := 690) (by decide +kernel) rfl
theorem lk_X1_147 : Cond.methodLink RX1 147 yX1_leadingTo ∈ T0 := tb (i := 694) (by decide +kernel) rfl
theorem lc_X1_141 : Cond.constant RX1 141 (1000000) ∈ T0 := tb (i := 698) (by decide +kernel) rfl
theorem lk_X1_142 : Cond.methodLink RX1 142 Lib.Math.min.name ∈ T0 := tb (i := 699) (by decide +kernel) rfl
theorem lk_L_106 : Cond.methodLink RL 106 yX9_bars ∈ T0 := tb (i := 702) (by decide +kernel) rfl
theorem lk_L_110 : Cond.methodLink RL 110 yX9_risk ∈ T0 := tb (i := 706) (by decide +kernel) rfl
theorem lk_X9_201 : Cond.methodLink RX9 201 yX9_areRiskBounds ∈ T0 := tb (i := 710) (by decide +kernel) rfl
theorem lk_X9_204 : Cond.methodLink RX9 204 yX9_riskAbove ∈ T0 := tb (i := 713) (by decide +kernel) rfl
theorem lk_X9_208 : Cond.methodLink RX9 208 yX9_power ∈ T0 := tb (i := 716) (by decide +kernel) rfl
theorem lk_X9_212 : Cond.methodLink RX9 212 yX9_commonDivisor ∈ T0 := tb (i := 719) (by decide +kernel) rfl
theorem lk_L_114 : Cond.methodLink RL 114 yX9_strict ∈ T0 := tb (i := 722) (by decide +kernel) rfl
theorem lc_X9_216 : Cond.constantLong RX9 216 (100) ∈ T0 := tb (i := 726) (by decide +kernel) rfl
theorem lk_L_118 : Cond.methodLink RL 118 yX9_surety ∈ T0 := tb (i := 727) (by decide +kernel) rfl
theorem lk_X9_218 : Cond.methodLink RX9 218 yX9_isSurety ∈ T0 := tb (i := 731) (by decide +kernel) rfl
theorem lk_X9_221 : Cond.methodLink RX9 221 yX9_isMoney ∈ T0 := tb (i := 734) (by decide +kernel) rfl
theorem lk_X9_228 : Cond.methodLink RX9 228 yX6_givenBy ∈ T0 := tb (i := 737) (by decide +kernel) rfl
theorem lk_X6_24 : Cond.methodLink RX6 24 yX6_givenOf ∈ T0 := tb (i := 741) (by decide +kernel) rfl
theorem lk_X9_233 : Cond.methodLink RX9 233 yX6_setUp ∈ T0 := tb (i := 745) (by decide +kernel) rfl
theorem lk_L_122 : Cond.methodLink RL 122 yX9_bail ∈ T0 := tb (i := 749) (by decide +kernel) rfl
theorem lk_X9_236 : Cond.methodLink RX9 236 yX6_givenFor ∈ T0 := tb (i := 753) (by decide +kernel) rfl
theorem lk_X9_239 : Cond.methodLink RX9 239 yX6_bailOf ∈ T0 := tb (i := 757) (by decide +kernel) rfl
theorem lk_X9_242 : Cond.methodLink RX9 242 yX6_setBail ∈ T0 := tb (i := 761) (by decide +kernel) rfl
theorem lk_L_126 : Cond.methodLink RL 126 yX9_call ∈ T0 := tb (i := 765) (by decide +kernel) rfl
theorem lk_X9_245 : Cond.methodLink RX9 245 yX6_takeBail ∈ T0 := tb (i := 769) (by decide +kernel) rfl
theorem ln_X6_28 : Cond.methodLinkNest RX6 28 yX9_has "ReleaseTerms" ∈ ca_nest := List.mem_of_getElem? (i := 10) (by decide +kernel)
theorem lk_X6_32 : Cond.methodLink RX6 32 Lib.Math.min.name ∈ T0 := tb (i := 774) (by decide +kernel) rfl
theorem lk_L_130 : Cond.methodLink RL 130 yX9_back ∈ T0 := tb (i := 775) (by decide +kernel) rfl
theorem lk_X9_248 : Cond.methodLink RX9 248 yX6_giveBack ∈ T0 := tb (i := 779) (by decide +kernel) rfl
theorem lk_L_134 : Cond.methodLink RL 134 yX9_suretyOf ∈ T0 := tb (i := 783) (by decide +kernel) rfl
theorem lk_X9_251 : Cond.methodLink RX9 251 yX6_roomOf ∈ T0 := tb (i := 787) (by decide +kernel) rfl
theorem lk_X9_254 : Cond.methodLink RX9 254 yX6_backedBy ∈ T0 := tb (i := 791) (by decide +kernel) rfl
theorem lk_X9_257 : Cond.methodLink RX9 257 yX6_givenOf ∈ T0 := tb (i := 795) (by decide +kernel) rfl
theorem lk_L_138 : Cond.methodLink RL 138 yX9_hearing ∈ T0 := tb (i := 796) (by decide +kernel) rfl
theorem lk_X9_260 : Cond.methodLink RX9 260 yX0_hearingsOfOthers ∈ T0 := tb (i := 800) (by decide +kernel) rfl
theorem lk_L_142 : Cond.methodLink RL 142 yX9_heard ∈ T0 := tb (i := 804) (by decide +kernel) rfl
theorem lk_L_146 : Cond.methodLink RL 146 yX9_seed ∈ T0 := tb (i := 808) (by decide +kernel) rfl
theorem lk_L_150 : Cond.methodLink RL 150 yX9_feed ∈ T0 := tb (i := 812) (by decide +kernel) rfl
theorem lk_X9_270 : Cond.methodLink RX9 270 yX3_room ∈ T0 := tb (i := 816) (by decide +kernel) rfl
theorem lk_X9_273 : Cond.methodLink RX9 273 yX3_put ∈ T0 := tb (i := 820) (by decide +kernel) rfl
theorem lk_X9_277 : Cond.methodLink RX9 277 yX3_size ∈ T0 := tb (i := 824) (by decide +kernel) rfl
theorem lk_L_154 : Cond.methodLink RL 154 yX9_wipe ∈ T0 := tb (i := 828) (by decide +kernel) rfl
theorem lk_X9_278 : Cond.methodLink RX9 278 yX3_clear ∈ T0 := tb (i := 832) (by decide +kernel) rfl
theorem lk_L_159 : Cond.methodLink RL 159 yX9_text ∈ T0 := tb (i := 836) (by decide +kernel) rfl
theorem lk_X9_281 : Cond.methodLink RX9 281 yX3_findFault ∈ T0 := tb (i := 840) (by decide +kernel) rfl
theorem lk_X3_28 : Cond.methodLink RX3 28 yX7_size ∈ T0 := tb (i := 844) (by decide +kernel) rfl
theorem lk_X3_36 : Cond.methodLink RX3 36 yX7_howManyOf ∈ T0 := tb (i := 848) (by decide +kernel) rfl
theorem lk_X3_46 : Cond.methodLink RX3 46 yX3_advance ∈ T0 := tb (i := 849) (by decide +kernel) rfl
theorem lk_X3_126 : Cond.methodLink RX3 126 yX3_sortAt ∈ T0 := tb (i := 853) (by decide +kernel) rfl
theorem lk_X3_129 : Cond.methodLink RX3 129 Lib.Math.min.name ∈ T0 := tb (i := 857) (by decide +kernel) rfl
theorem lk_X3_49 : Cond.methodLink RX3 49 yX3_readItem ∈ T0 := tb (i := 858) (by decide +kernel) rfl
theorem lk_X3_60 : Cond.methodLink RX3 60 yX3_takeWord ∈ T0 := tb (i := 863) (by decide +kernel) rfl
theorem lk_X3_97 : Cond.methodLink RX3 97 yX3_isTokenText ∈ T0 := tb (i := 867) (by decide +kernel) rfl
theorem lk_X3_117 : Cond.methodLink RX3 117 yJ0_length_8abf5 ∈ T0 := tb (i := 871) (by decide +kernel) rfl
theorem lk_J0_335 : Cond.methodLink RJ0 335 yJ0_coder_7d493 ∈ T0 := tb (i := 875) (by decide +kernel) rfl
theorem lf_J0_38 : Cond.fieldLink RJ0 38 "java/lang/String" "COMPACT_STRINGS" "Z" ∈ T0 := tb (i := 879) (by decide +kernel) rfl
theorem lk_X3_122 : Cond.methodLink RX3 122 yJ0_charAt_5068e ∈ T0 := tb (i := 881) (by decide +kernel) rfl
theorem lk_J0_492 : Cond.methodLink RJ0 492 yJ0_isLatin1_aae02 ∈ T0 := tb (i := 885) (by decide +kernel) rfl
theorem lk_J0_495 : Cond.methodLink RJ0 495 yJ1_charAt_3b067 ∈ T0 := tb (i := 889) (by decide +kernel) rfl
theorem lk_J1_9 : Cond.methodLink RJ1 9 yJ0_checkIndex_df160 ∈ T0 := tb (i := 892) (by decide +kernel) rfl
theorem lf_J0_1053 : Cond.fieldLink RJ0 1053 "jdk/internal/util/Preconditions" "SIOOBE_FORMATTER" "Ljava/util/function/BiFunction;" ∈ T0 := tb (i := 895) (by decide +kernel) rfl
theorem lk_J0_1059 : Cond.methodLink RJ0 1059 yJ3_checkIndex_8e157 ∈ T0 := tb (i := 897) (by decide +kernel) rfl
theorem lk_J0_498 : Cond.methodLink RJ0 498 yJ2_charAt_3b067 ∈ T0 := tb (i := 900) (by decide +kernel) rfl
theorem lk_J2_67 : Cond.methodLink RJ2 67 yJ2_checkIndex_2214a ∈ T0 := tb (i := 903) (by decide +kernel) rfl
theorem lk_J2_48 : Cond.methodLink RJ2 48 yJ2_length_9d52b ∈ T0 := tb (i := 906) (by decide +kernel) rfl
theorem lk_J2_414 : Cond.methodLink RJ2 414 yJ0_checkIndex_df160 ∈ T0 := tb (i := 909) (by decide +kernel) rfl
theorem lk_J2_71 : Cond.methodLink RJ2 71 yJ2_getChar_3b067 ∈ T0 := tb (i := 910) (by decide +kernel) rfl
theorem lf_J2_44 : Cond.fieldLink RJ2 44 "java/lang/StringUTF16" "$assertionsDisabled" "Z" ∈ T0 := tb (i := 913) (by decide +kernel) rfl
theorem lf_J2_59 : Cond.fieldLink RJ2 59 "java/lang/StringUTF16" "HI_BYTE_SHIFT" "I" ∈ T0 := tb (i := 915) (by decide +kernel) rfl
theorem lf_J2_63 : Cond.fieldLink RJ2 63 "java/lang/StringUTF16" "LO_BYTE_SHIFT" "I" ∈ T0 := tb (i := 917) (by decide +kernel) rfl
theorem lk_X3_64 : Cond.methodLink RX3 64 yX3_takeNumber ∈ T0 := tb (i := 919) (by decide +kernel) rfl
theorem lk_X3_55 : Cond.methodLink RX3 55 yX3_refuse ∈ T0 := tb (i := 923) (by decide +kernel) rfl
theorem lk_X3_71 : Cond.methodLink RX3 71 yX3_setDown ∈ T0 := tb (i := 927) (by decide +kernel) rfl
theorem lk_X3_77 : Cond.methodLink RX3 77 yX3_readTerm ∈ T0 := tb (i := 932) (by decide +kernel) rfl
theorem lk_X3_80 : Cond.methodLink RX3 80 yX3_kindOfWord ∈ T0 := tb (i := 936) (by decide +kernel) rfl
theorem lk_X3_93 : Cond.methodLink RX3 93 yX3_kindText ∈ T0 := tb (i := 940) (by decide +kernel) rfl
theorem ln_X3_83 : Cond.methodLinkNest RX3 83 yX9_isPerson "ReleaseTerms" ∈ ca_nest := List.mem_of_getElem? (i := 11) (by decide +kernel)
theorem lk_X9_285 : Cond.methodLink RX9 285 yX3_itemCount ∈ T0 := tb (i := 954) (by decide +kernel) rfl
theorem lk_X9_288 : Cond.methodLink RX9 288 yX9_carryOut ∈ T0 := tb (i := 958) (by decide +kernel) rfl
theorem lk_X9_367 : Cond.methodLink RX9 367 yX3_item ∈ T0 := tb (i := 962) (by decide +kernel) rfl
theorem lk_X9_370 : Cond.methodLink RX9 370 yX9_addTermOf ∈ T0 := tb (i := 966) (by decide +kernel) rfl
theorem lk_L_163 : Cond.methodLink RL 163 yX9_hold ∈ T0 := tb (i := 971) (by decide +kernel) rfl
theorem lk_X9_291 : Cond.methodLink RX9 291 yX9_isSpot ∈ T0 := tb (i := 975) (by decide +kernel) rfl
theorem lk_L_167 : Cond.methodLink RL 167 yX9_as ∈ T0 := tb (i := 978) (by decide +kernel) rfl
theorem lk_X9_297 : Cond.methodLink RX9 297 yX7_isOfKind ∈ T0 := tb (i := 982) (by decide +kernel) rfl
theorem lf_X7_37 : Cond.fieldLink RX7 37 "ReleaseTerms$Terms" "ABOVE" "[I" ∈ T0 := tb (i := 986) (by decide +kernel) rfl
theorem lk_L_171 : Cond.methodLink RL 171 yX9_sheet ∈ T0 := tb (i := 988) (by decide +kernel) rfl
theorem lk_X9_300 : Cond.methodLink RX9 300 yX4_isSheet ∈ T0 := tb (i := 992) (by decide +kernel) rfl
theorem lk_X9_303 : Cond.methodLink RX9 303 yX4_areBits ∈ T0 := tb (i := 995) (by decide +kernel) rfl
theorem lk_X9_306 : Cond.methodLink RX9 306 yX4_lay ∈ T0 := tb (i := 998) (by decide +kernel) rfl
theorem lk_X9_309 : Cond.methodLink RX9 309 yX4_size ∈ T0 := tb (i := 1002) (by decide +kernel) rfl
theorem lk_L_175 : Cond.methodLink RL 175 yX9_write ∈ T0 := tb (i := 1006) (by decide +kernel) rfl
theorem lk_X9_311 : Cond.methodLink RX9 311 yX4_isMissing ∈ T0 := tb (i := 1010) (by decide +kernel) rfl
theorem lk_X9_314 : Cond.methodLink RX9 314 yX4_set ∈ T0 := tb (i := 1014) (by decide +kernel) rfl
theorem lk_L_179 : Cond.methodLink RL 179 yX9_copy ∈ T0 := tb (i := 1018) (by decide +kernel) rfl
theorem lk_X9_317 : Cond.methodLink RX9 317 yX4_bitsOf ∈ T0 := tb (i := 1022) (by decide +kernel) rfl
theorem lk_X9_320 : Cond.methodLink RX9 320 yX4_hasPart ∈ T0 := tb (i := 1026) (by decide +kernel) rfl
theorem lk_X9_323 : Cond.methodLink RX9 323 yX4_move ∈ T0 := tb (i := 1030) (by decide +kernel) rfl
theorem lk_X4_19 : Cond.methodLink RX4 19 arraycopyName ∈ T0 := tb (i := 1034) (by decide +kernel) rfl
theorem lk_L_184 : Cond.methodLink RL 184 yX9_load ∈ T0 := tb (i := 1035) (by decide +kernel) rfl
theorem lk_X9_327 : Cond.methodLink RX9 327 yX4_get ∈ T0 := tb (i := 1039) (by decide +kernel) rfl
theorem lk_L_188 : Cond.methodLink RL 188 yX9_judge ∈ T0 := tb (i := 1043) (by decide +kernel) rfl
theorem lk_X9_334 : Cond.methodLink RX9 334 yX9_firstWrongNumber ∈ T0 := tb (i := 1047) (by decide +kernel) rfl
theorem lk_X9_373 : Cond.methodLink RX9 373 yX1_isAllowed ∈ T0 := tb (i := 1051) (by decide +kernel) rfl
theorem lk_X9_337 : Cond.methodLink RX9 337 yX9_leastTermTooSeldom ∈ T0 := tb (i := 1052) (by decide +kernel) rfl
theorem lk_X9_376 : Cond.methodLink RX9 376 yX9_timesThere ∈ T0 := tb (i := 1056) (by decide +kernel) rfl
theorem lk_L_192 : Cond.methodLink RL 192 yX9_image ∈ T0 := tb (i := 1060) (by decide +kernel) rfl
theorem lk_X9_340 : Cond.methodLink RX9 340 yX0_takeFrom ∈ T0 := tb (i := 1064) (by decide +kernel) rfl
theorem lk_X0_59 : Cond.methodLink RX0 59 yX2_takeFrom ∈ T0 := tb (i := 1068) (by decide +kernel) rfl
theorem lk_X2_28 : Cond.methodLink RX2 28 arraycopyName ∈ T0 := tb (i := 1072) (by decide +kernel) rfl
theorem lk_X0_63 : Cond.methodLink RX0 63 yX5_takeFrom ∈ T0 := tb (i := 1073) (by decide +kernel) rfl
theorem lk_X5_31 : Cond.methodLink RX5 31 arraycopyName ∈ T0 := tb (i := 1077) (by decide +kernel) rfl
theorem lk_X0_66 : Cond.methodLink RX0 66 yX7_takeFrom ∈ T0 := tb (i := 1078) (by decide +kernel) rfl
theorem lk_X7_44 : Cond.methodLink RX7 44 arraycopyName ∈ T0 := tb (i := 1082) (by decide +kernel) rfl
theorem lk_X0_69 : Cond.methodLink RX0 69 yX6_takeFrom ∈ T0 := tb (i := 1083) (by decide +kernel) rfl
theorem lk_X6_37 : Cond.methodLink RX6 37 arraycopyName ∈ T0 := tb (i := 1087) (by decide +kernel) rfl
theorem lk_X0_72 : Cond.methodLink RX0 72 arraycopyName ∈ T0 := tb (i := 1088) (by decide +kernel) rfl
theorem lk_L_196 : Cond.methodLink RL 196 yX9_undo ∈ T0 := tb (i := 1089) (by decide +kernel) rfl
theorem lk_X9_347 : Cond.methodLink RX9 347 yX7_size ∈ T0 := tb (i := 1093) (by decide +kernel) rfl
theorem lk_L_200 : Cond.methodLink RL 200 yX9_tear ∈ T0 := tb (i := 1094) (by decide +kernel) rfl
theorem lk_L_204 : Cond.methodLink RL 204 yX9_many ∈ T0 := tb (i := 1098) (by decide +kernel) rfl
theorem lk_X9_348 : Cond.methodLink RX9 348 yX2_roadCount ∈ T0 := tb (i := 1102) (by decide +kernel) rfl
theorem lk_X2_23 : Cond.methodLink RX2 23 yJ6_bitCount_0f7a4 ∈ T0 := tb (i := 1106) (by decide +kernel) rfl
theorem lc_J6_265 : Cond.constant RJ6 265 (1431655765) ∈ T0 := tb (i := 1109) (by decide +kernel) rfl
theorem lc_J6_266 : Cond.constant RJ6 266 (858993459) ∈ T0 := tb (i := 1110) (by decide +kernel) rfl
theorem lc_J6_267 : Cond.constant RJ6 267 (252645135) ∈ T0 := tb (i := 1111) (by decide +kernel) rfl
theorem lk_X9_351 : Cond.methodLink RX9 351 yX0_hearingCount ∈ T0 := tb (i := 1112) (by decide +kernel) rfl
theorem lk_X9_354 : Cond.methodLink RX9 354 yX6_roomOfAll ∈ T0 := tb (i := 1116) (by decide +kernel) rfl
theorem lk_L_208 : Cond.methodLink RL 208 yX9_status ∈ T0 := tb (i := 1120) (by decide +kernel) rfl
theorem lk_L_12 : Cond.methodLink RL 12 yX10_init ∈ T0 := tb (i := 1126) (by decide +kernel) rfl
theorem lk_X10_1 : Cond.methodLink RX10 1 objectInit ∈ T0 := tb (i := 1129) (by decide +kernel) rfl
theorem lf_X10_7 : Cond.fieldLink RX10 7 "ReleaseTermsModel" "s" "[I" ∈ T0 := tb (i := 1130) (by decide +kernel) rfl
theorem lf_X10_13 : Cond.fieldLink RX10 13 "ReleaseTermsModel" "keptS" "[I" ∈ T0 := tb (i := 1131) (by decide +kernel) rfl
theorem lf_X10_16 : Cond.fieldLink RX10 16 "ReleaseTermsModel" "other" "[I" ∈ T0 := tb (i := 1132) (by decide +kernel) rfl
theorem lf_X10_19 : Cond.fieldLink RX10 19 "ReleaseTermsModel" "statuses" "[I" ∈ T0 := tb (i := 1133) (by decide +kernel) rfl
theorem lf_X10_323 : Cond.fieldLink RX10 323 "ReleaseTermsModel" "isKept" "Z" ∈ T0 := tb (i := 1134) (by decide +kernel) rfl
theorem lf_X10_22 : Cond.fieldLink RX10 22 "ReleaseTermsModel" "sight" "[I" ∈ T0 := tb (i := 1135) (by decide +kernel) rfl
theorem lf_X10_25 : Cond.fieldLink RX10 25 "ReleaseTermsModel" "bound" "[I" ∈ T0 := tb (i := 1136) (by decide +kernel) rfl
theorem lf_X10_28 : Cond.fieldLink RX10 28 "ReleaseTermsModel" "radix" "[I" ∈ T0 := tb (i := 1137) (by decide +kernel) rfl
theorem lf_X10_31 : Cond.fieldLink RX10 31 "ReleaseTermsModel" "mult" "[I" ∈ T0 := tb (i := 1138) (by decide +kernel) rfl
theorem lf_X10_175 : Cond.fieldLink RX10 175 "ReleaseTermsModel" "boundMany" "I" ∈ T0 := tb (i := 1139) (by decide +kernel) rfl
theorem lf_X10_179 : Cond.fieldLink RX10 179 "ReleaseTermsModel" "codes" "I" ∈ T0 := tb (i := 1140) (by decide +kernel) rfl
theorem lf_X10_182 : Cond.fieldLink RX10 182 "ReleaseTermsModel" "firstCode" "I" ∈ T0 := tb (i := 1141) (by decide +kernel) rfl
theorem lf_X10_34 : Cond.fieldLink RX10 34 "ReleaseTermsModel" "now" "[I" ∈ T0 := tb (i := 1142) (by decide +kernel) rfl
theorem lf_X10_37 : Cond.fieldLink RX10 37 "ReleaseTermsModel" "behind" "[I" ∈ T0 := tb (i := 1143) (by decide +kernel) rfl
theorem lf_X10_40 : Cond.fieldLink RX10 40 "ReleaseTermsModel" "way" "[I" ∈ T0 := tb (i := 1144) (by decide +kernel) rfl
theorem lf_X10_203 : Cond.fieldLink RX10 203 "ReleaseTermsModel" "isTold" "Z" ∈ T0 := tb (i := 1145) (by decide +kernel) rfl
theorem lf_X10_43 : Cond.fieldLink RX10 43 "ReleaseTermsModel" "come" "[Z" ∈ T0 := tb (i := 1146) (by decide +kernel) rfl
theorem lf_X10_47 : Cond.fieldLink RX10 47 "ReleaseTermsModel" "went" "[Z" ∈ T0 := tb (i := 1147) (by decide +kernel) rfl
theorem lf_X10_50 : Cond.fieldLink RX10 50 "ReleaseTermsModel" "chances" "[I" ∈ T0 := tb (i := 1148) (by decide +kernel) rfl
theorem lf_X10_53 : Cond.fieldLink RX10 53 "ReleaseTermsModel" "tape" "[I" ∈ T0 := tb (i := 1149) (by decide +kernel) rfl
theorem lf_X10_235 : Cond.fieldLink RX10 235 "ReleaseTermsModel" "taped" "I" ∈ T0 := tb (i := 1150) (by decide +kernel) rfl
theorem lf_X10_249 : Cond.fieldLink RX10 249 "ReleaseTermsModel" "from" "I" ∈ T0 := tb (i := 1151) (by decide +kernel) rfl
theorem lf_X10_246 : Cond.fieldLink RX10 246 "ReleaseTermsModel" "to" "I" ∈ T0 := tb (i := 1152) (by decide +kernel) rfl
theorem lf_X10_270 : Cond.fieldLink RX10 270 "ReleaseTermsModel" "value" "I" ∈ T0 := tb (i := 1153) (by decide +kernel) rfl
theorem lf_X10_261 : Cond.fieldLink RX10 261 "ReleaseTermsModel" "isWrong" "Z" ∈ T0 := tb (i := 1154) (by decide +kernel) rfl
theorem lf_X10_56 : Cond.fieldLink RX10 56 "ReleaseTermsModel" "bitsOf" "[I" ∈ T0 := tb (i := 1155) (by decide +kernel) rfl
theorem lf_X10_59 : Cond.fieldLink RX10 59 "ReleaseTermsModel" "sizeOf" "[I" ∈ T0 := tb (i := 1156) (by decide +kernel) rfl
theorem lf_X10_62 : Cond.fieldLink RX10 62 "ReleaseTermsModel" "number" "[I" ∈ T0 := tb (i := 1157) (by decide +kernel) rfl
theorem lf_X10_65 : Cond.fieldLink RX10 65 "ReleaseTermsModel" "moved" "[I" ∈ T0 := tb (i := 1158) (by decide +kernel) rfl
theorem lk_L_17 : Cond.methodLink RL 17 yX10_road ∈ T0 := tb (i := 1219) (by decide +kernel) rfl
theorem lk_X10_82 : Cond.methodLink RX10 82 yX10_isPlace ∈ T0 := tb (i := 1223) (by decide +kernel) rfl
theorem lc_X10_75 : Cond.constantLong RX10 75 (7) ∈ T0 := tb (i := 1226) (by decide +kernel) rfl
theorem lk_X10_71 : Cond.methodLink RX10 71 yX10_in ∈ T0 := tb (i := 1227) (by decide +kernel) rfl
theorem lc_X10_68 : Cond.constant RX10 68 (-1000001) ∈ T0 := tb (i := 1230) (by decide +kernel) rfl
theorem lk_X10_86 : Cond.methodLink RX10 86 yX10_finds ∈ T0 := tb (i := 1231) (by decide +kernel) rfl
theorem lk_L_22 : Cond.methodLink RL 22 yX10_roads ∈ T0 := tb (i := 1235) (by decide +kernel) rfl
theorem lk_L_27 : Cond.methodLink RL 27 yX10_far ∈ T0 := tb (i := 1239) (by decide +kernel) rfl
theorem lk_X10_90 : Cond.methodLink RX10 90 yX10_has ∈ T0 := tb (i := 1243) (by decide +kernel) rfl
theorem lk_X10_94 : Cond.methodLink RX10 94 yX10_further ∈ T0 := tb (i := 1246) (by decide +kernel) rfl
theorem lc_X10_97 : Cond.constant RX10 97 (-1000004) ∈ T0 := tb (i := 1250) (by decide +kernel) rfl
theorem lk_L_32 : Cond.methodLink RL 32 yX10_seen ∈ T0 := tb (i := 1251) (by decide +kernel) rfl
theorem lk_X10_98 : Cond.methodLink RX10 98 yX10_isPerson ∈ T0 := tb (i := 1255) (by decide +kernel) rfl
theorem lc_X10_69 : Cond.constantLong RX10 69 (5) ∈ T0 := tb (i := 1258) (by decide +kernel) rfl
theorem lk_X10_101 : Cond.methodLink RX10 101 yX10_isWhen ∈ T0 := tb (i := 1259) (by decide +kernel) rfl
theorem lc_X10_79 : Cond.constantLong RX10 79 (2923) ∈ T0 := tb (i := 1262) (by decide +kernel) rfl
theorem lc_X10_104 : Cond.constant RX10 104 (-1000002) ∈ T0 := tb (i := 1263) (by decide +kernel) rfl
theorem lk_X10_105 : Cond.methodLink RX10 105 yX10_sees ∈ T0 := tb (i := 1264) (by decide +kernel) rfl
theorem lk_L_36 : Cond.methodLink RL 36 yX10_seenOf ∈ T0 := tb (i := 1268) (by decide +kernel) rfl
theorem lc_X10_109 : Cond.constantLong RX10 109 (4) ∈ T0 := tb (i := 1272) (by decide +kernel) rfl
theorem lk_X10_111 : Cond.methodLink RX10 111 yX10_latest ∈ T0 := tb (i := 1273) (by decide +kernel) rfl
theorem lk_L_40 : Cond.methodLink RL 40 yX10_where ∈ T0 := tb (i := 1277) (by decide +kernel) rfl
theorem lk_L_44 : Cond.methodLink RL 44 yX10_could ∈ T0 := tb (i := 1281) (by decide +kernel) rfl
theorem lk_X10_115 : Cond.methodLink RX10 115 yX10_looks ∈ T0 := tb (i := 1285) (by decide +kernel) rfl
theorem lk_X10_119 : Cond.methodLink RX10 119 yX10_open ∈ T0 := tb (i := 1289) (by decide +kernel) rfl
theorem lk_L_48 : Cond.methodLink RL 48 yX10_drift ∈ T0 := tb (i := 1293) (by decide +kernel) rfl
theorem lk_X10_122 : Cond.methodLink RX10 122 yX10_isDay ∈ T0 := tb (i := 1297) (by decide +kernel) rfl
theorem lc_X10_77 : Cond.constantLong RX10 77 (29) ∈ T0 := tb (i := 1300) (by decide +kernel) rfl
theorem lc_X10_125 : Cond.constantLong RX10 125 (20) ∈ T0 := tb (i := 1301) (by decide +kernel) rfl
theorem lk_X10_127 : Cond.methodLink RX10 127 yX10_next ∈ T0 := tb (i := 1302) (by decide +kernel) rfl
theorem lc_X10_81 : Cond.constant RX10 81 (1103515245) ∈ T0 := tb (i := 1306) (by decide +kernel) rfl
theorem lk_L_52 : Cond.methodLink RL 52 yX10_term ∈ T0 := tb (i := 1307) (by decide +kernel) rfl
theorem lc_X10_137 : Cond.constantLong RX10 137 (6) ∈ T0 := tb (i := 1311) (by decide +kernel) rfl
theorem lk_X10_139 : Cond.methodLink RX10 139 yX10_isRoomFor ∈ T0 := tb (i := 1312) (by decide +kernel) rfl
theorem lk_X10_134 : Cond.methodLink RX10 134 yX10_termsOf ∈ T0 := tb (i := 1316) (by decide +kernel) rfl
theorem lk_X10_131 : Cond.methodLink RX10 131 yX10_of ∈ T0 := tb (i := 1320) (by decide +kernel) rfl
theorem lk_X10_142 : Cond.methodLink RX10 142 yX10_newTerm ∈ T0 := tb (i := 1324) (by decide +kernel) rfl
theorem lk_L_56 : Cond.methodLink RL 56 yX10_termOf ∈ T0 := tb (i := 1328) (by decide +kernel) rfl
theorem lk_X10_145 : Cond.methodLink RX10 145 yX10_isTerm ∈ T0 := tb (i := 1332) (by decide +kernel) rfl
theorem lk_X10_148 : Cond.methodLink RX10 148 yX10_asked ∈ T0 := tb (i := 1336) (by decide +kernel) rfl
theorem lk_L_61 : Cond.methodLink RL 61 yX10_span ∈ T0 := tb (i := 1340) (by decide +kernel) rfl
theorem lc_X10_151 : Cond.constantLong RX10 151 (23) ∈ T0 := tb (i := 1344) (by decide +kernel) rfl
theorem lk_L_65 : Cond.methodLink RL 65 yX10_turn ∈ T0 := tb (i := 1345) (by decide +kernel) rfl
theorem lk_L_69 : Cond.methodLink RL 69 yX10_change ∈ T0 := tb (i := 1349) (by decide +kernel) rfl
theorem lc_X10_153 : Cond.constant RX10 153 (-1000005) ∈ T0 := tb (i := 1353) (by decide +kernel) rfl
theorem lk_L_73 : Cond.methodLink RL 73 yX10_bad ∈ T0 := tb (i := 1354) (by decide +kernel) rfl
theorem lk_X10_154 : Cond.methodLink RX10 154 yX10_badOf ∈ T0 := tb (i := 1358) (by decide +kernel) rfl
theorem lk_L_77 : Cond.methodLink RL 77 yX10_inForce ∈ T0 := tb (i := 1362) (by decide +kernel) rfl
theorem lk_X10_160 : Cond.methodLink RX10 160 yX10_inForceOf ∈ T0 := tb (i := 1366) (by decide +kernel) rfl
theorem lk_X10_157 : Cond.methodLink RX10 157 yX10_isInForce ∈ T0 := tb (i := 1370) (by decide +kernel) rfl
theorem lk_L_81 : Cond.methodLink RL 81 yX10_kept ∈ T0 := tb (i := 1374) (by decide +kernel) rfl
theorem lk_X10_170 : Cond.methodLink RX10 170 yX10_keptOf ∈ T0 := tb (i := 1378) (by decide +kernel) rfl
theorem lk_X10_163 : Cond.methodLink RX10 163 yX10_comes ∈ T0 := tb (i := 1382) (by decide +kernel) rfl
theorem lk_X10_167 : Cond.methodLink RX10 167 yX10_isAt ∈ T0 := tb (i := 1386) (by decide +kernel) rfl
theorem lk_L_85 : Cond.methodLink RL 85 yX10_count ∈ T0 := tb (i := 1390) (by decide +kernel) rfl
theorem lc_X10_173 : Cond.constantLong RX10 173 (3) ∈ T0 := tb (i := 1394) (by decide +kernel) rfl
theorem lk_L_89 : Cond.methodLink RL 89 yX10_breach ∈ T0 := tb (i := 1395) (by decide +kernel) rfl
theorem lk_L_93 : Cond.methodLink RL 93 yX10_way ∈ T0 := tb (i := 1399) (by decide +kernel) rfl
theorem lk_X10_196 : Cond.methodLink RX10 196 yX10_binds ∈ T0 := tb (i := 1403) (by decide +kernel) rfl
theorem lk_X10_200 : Cond.methodLink RX10 200 yX10_fewest ∈ T0 := tb (i := 1407) (by decide +kernel) rfl
theorem lk_X10_192 : Cond.methodLink RX10 192 yX10_backTo ∈ T0 := tb (i := 1411) (by decide +kernel) rfl
theorem lk_X10_185 : Cond.methodLink RX10 185 yX10_lawful ∈ T0 := tb (i := 1415) (by decide +kernel) rfl
theorem lk_X10_188 : Cond.methodLink RX10 188 yX10_after ∈ T0 := tb (i := 1419) (by decide +kernel) rfl
theorem lc_X10_191 : Cond.constant RX10 191 (1000000) ∈ T0 := tb (i := 1423) (by decide +kernel) rfl
theorem lk_L_97 : Cond.methodLink RL 97 yX10_at ∈ T0 := tb (i := 1424) (by decide +kernel) rfl
theorem lk_L_101 : Cond.methodLink RL 101 yX10_may ∈ T0 := tb (i := 1428) (by decide +kernel) rfl
theorem lk_L_105 : Cond.methodLink RL 105 yX10_ways ∈ T0 := tb (i := 1432) (by decide +kernel) rfl
theorem lk_L_109 : Cond.methodLink RL 109 yX10_bars ∈ T0 := tb (i := 1436) (by decide +kernel) rfl
theorem lk_L_113 : Cond.methodLink RL 113 yX10_risk ∈ T0 := tb (i := 1440) (by decide +kernel) rfl
theorem lc_X10_207 : Cond.constantLong RX10 207 (10) ∈ T0 := tb (i := 1444) (by decide +kernel) rfl
theorem lc_X10_209 : Cond.constantLong RX10 209 (9) ∈ T0 := tb (i := 1445) (by decide +kernel) rfl
theorem lk_X10_211 : Cond.methodLink RX10 211 yX10_risks ∈ T0 := tb (i := 1446) (by decide +kernel) rfl
theorem lk_X10_214 : Cond.methodLink RX10 214 yX10_tens ∈ T0 := tb (i := 1450) (by decide +kernel) rfl
theorem lk_L_117 : Cond.methodLink RL 117 yX10_strict ∈ T0 := tb (i := 1453) (by decide +kernel) rfl
theorem lc_X10_217 : Cond.constantLong RX10 217 (100) ∈ T0 := tb (i := 1457) (by decide +kernel) rfl
theorem lk_L_121 : Cond.methodLink RL 121 yX10_surety ∈ T0 := tb (i := 1458) (by decide +kernel) rfl
theorem lc_X10_222 : Cond.constantLong RX10 222 (9999) ∈ T0 := tb (i := 1462) (by decide +kernel) rfl
theorem lc_X10_224 : Cond.constantLong RX10 224 (63) ∈ T0 := tb (i := 1463) (by decide +kernel) rfl
theorem lk_X10_226 : Cond.methodLink RX10 226 yX10_givenBy ∈ T0 := tb (i := 1464) (by decide +kernel) rfl
theorem lk_X10_219 : Cond.methodLink RX10 219 yX10_given ∈ T0 := tb (i := 1468) (by decide +kernel) rfl
theorem lk_L_125 : Cond.methodLink RL 125 yX10_bail ∈ T0 := tb (i := 1472) (by decide +kernel) rfl
theorem lk_X10_229 : Cond.methodLink RX10 229 yX10_givenFor ∈ T0 := tb (i := 1476) (by decide +kernel) rfl
theorem lk_L_129 : Cond.methodLink RL 129 yX10_call ∈ T0 := tb (i := 1480) (by decide +kernel) rfl
theorem lk_L_133 : Cond.methodLink RL 133 yX10_back ∈ T0 := tb (i := 1484) (by decide +kernel) rfl
theorem lk_L_137 : Cond.methodLink RL 137 yX10_suretyOf ∈ T0 := tb (i := 1488) (by decide +kernel) rfl
theorem lk_L_141 : Cond.methodLink RL 141 yX10_hearing ∈ T0 := tb (i := 1492) (by decide +kernel) rfl
theorem lk_X10_232 : Cond.methodLink RX10 232 yX10_hearingsOn ∈ T0 := tb (i := 1496) (by decide +kernel) rfl
theorem lk_L_145 : Cond.methodLink RL 145 yX10_heard ∈ T0 := tb (i := 1500) (by decide +kernel) rfl
theorem lk_L_149 : Cond.methodLink RL 149 yX10_seed ∈ T0 := tb (i := 1504) (by decide +kernel) rfl
theorem lk_L_153 : Cond.methodLink RL 153 yX10_feed ∈ T0 := tb (i := 1508) (by decide +kernel) rfl
theorem lk_L_158 : Cond.methodLink RL 158 yX10_wipe ∈ T0 := tb (i := 1512) (by decide +kernel) rfl
theorem lk_L_162 : Cond.methodLink RL 162 yX10_text ∈ T0 := tb (i := 1516) (by decide +kernel) rfl
theorem lk_X10_300 : Cond.methodLink RX10 300 yX10_puts ∈ T0 := tb (i := 1520) (by decide +kernel) rfl
theorem lk_X10_264 : Cond.methodLink RX10 264 yX10_token ∈ T0 := tb (i := 1524) (by decide +kernel) rfl
theorem lk_X10_252 : Cond.methodLink RX10 252 yX10_byteAt ∈ T0 := tb (i := 1528) (by decide +kernel) rfl
theorem lk_X10_255 : Cond.methodLink RX10 255 yX10_isLetter ∈ T0 := tb (i := 1532) (by decide +kernel) rfl
theorem lc_X10_238 : Cond.constantLong RX10 238 (97) ∈ T0 := tb (i := 1535) (by decide +kernel) rfl
theorem lc_X10_240 : Cond.constantLong RX10 240 (122) ∈ T0 := tb (i := 1536) (by decide +kernel) rfl
theorem lk_X10_258 : Cond.methodLink RX10 258 yX10_isDigit ∈ T0 := tb (i := 1537) (by decide +kernel) rfl
theorem lc_X10_242 : Cond.constantLong RX10 242 (48) ∈ T0 := tb (i := 1540) (by decide +kernel) rfl
theorem lc_X10_244 : Cond.constantLong RX10 244 (57) ∈ T0 := tb (i := 1541) (by decide +kernel) rfl
theorem lk_X10_303 : Cond.methodLink RX10 303 yX10_item ∈ T0 := tb (i := 1542) (by decide +kernel) rfl
theorem lk_X10_289 : Cond.methodLink RX10 289 yX10_kindHere ∈ T0 := tb (i := 1546) (by decide +kernel) rfl
theorem lk_X10_277 : Cond.methodLink RX10 277 yX10_isWord ∈ T0 := tb (i := 1550) (by decide +kernel) rfl
theorem lk_X10_267 : Cond.methodLink RX10 267 yX10_isLetterAt ∈ T0 := tb (i := 1554) (by decide +kernel) rfl
theorem lk_X10_292 : Cond.methodLink RX10 292 yX10_termItem ∈ T0 := tb (i := 1558) (by decide +kernel) rfl
theorem lk_X10_273 : Cond.methodLink RX10 273 yX10_needs ∈ T0 := tb (i := 1562) (by decide +kernel) rfl
theorem lk_X10_283 : Cond.methodLink RX10 283 yX10_numberHere ∈ T0 := tb (i := 1566) (by decide +kernel) rfl
theorem lk_X10_281 : Cond.methodLink RX10 281 yX10_number ∈ T0 := tb (i := 1570) (by decide +kernel) rfl
theorem lk_X10_286 : Cond.methodLink RX10 286 yX10_spanItem ∈ T0 := tb (i := 1574) (by decide +kernel) rfl
theorem lk_X10_296 : Cond.methodLink RX10 296 yX10_road ∈ T0 := tb (i := 1578) (by decide +kernel) rfl
theorem lk_L_166 : Cond.methodLink RL 166 yX10_hold ∈ T0 := tb (i := 1579) (by decide +kernel) rfl
theorem lk_L_170 : Cond.methodLink RL 170 yX10_as ∈ T0 := tb (i := 1583) (by decide +kernel) rfl
theorem lc_X10_306 : Cond.constant RX10 306 (-1000006) ∈ T0 := tb (i := 1587) (by decide +kernel) rfl
theorem lk_X10_307 : Cond.methodLink RX10 307 yX10_isUnder ∈ T0 := tb (i := 1588) (by decide +kernel) rfl
theorem lc_X10_310 : Cond.constant RX10 310 (-1000003) ∈ T0 := tb (i := 1591) (by decide +kernel) rfl
theorem lk_L_174 : Cond.methodLink RL 174 yX10_sheet ∈ T0 := tb (i := 1592) (by decide +kernel) rfl
theorem lk_X10_311 : Cond.methodLink RX10 311 yX10_isOne ∈ T0 := tb (i := 1596) (by decide +kernel) rfl
theorem lc_X10_314 : Cond.constant RX10 314 (-1000007) ∈ T0 := tb (i := 1599) (by decide +kernel) rfl
theorem lk_L_178 : Cond.methodLink RL 178 yX10_write ∈ T0 := tb (i := 1600) (by decide +kernel) rfl
theorem lk_X10_315 : Cond.methodLink RX10 315 yX10_wrong ∈ T0 := tb (i := 1604) (by decide +kernel) rfl
theorem lk_X10_318 : Cond.methodLink RX10 318 yX10_narrowed ∈ T0 := tb (i := 1608) (by decide +kernel) rfl
theorem lk_L_183 : Cond.methodLink RL 183 yX10_copy ∈ T0 := tb (i := 1611) (by decide +kernel) rfl
theorem lk_L_187 : Cond.methodLink RL 187 yX10_load ∈ T0 := tb (i := 1615) (by decide +kernel) rfl
theorem lc_X10_321 : Cond.constantLong RX10 321 (-1) ∈ T0 := tb (i := 1619) (by decide +kernel) rfl
theorem lk_L_191 : Cond.methodLink RL 191 yX10_judge ∈ T0 := tb (i := 1620) (by decide +kernel) rfl
theorem lk_L_195 : Cond.methodLink RL 195 yX10_image ∈ T0 := tb (i := 1624) (by decide +kernel) rfl
theorem lk_L_199 : Cond.methodLink RL 199 yX10_undo ∈ T0 := tb (i := 1628) (by decide +kernel) rfl
theorem lk_L_203 : Cond.methodLink RL 203 yX10_tear ∈ T0 := tb (i := 1632) (by decide +kernel) rfl
theorem lk_L_207 : Cond.methodLink RL 207 yX10_many ∈ T0 := tb (i := 1636) (by decide +kernel) rfl
theorem lk_L_211 : Cond.methodLink RL 211 yX10_status ∈ T0 := tb (i := 1640) (by decide +kernel) rfl
theorem lf_J0_9 : Cond.fieldLink RJ0 9 "java/lang/String" "value" "[B" ∈ T0 := tb (i := 1644) (by decide +kernel) rfl
theorem lf_J0_15 : Cond.fieldLink RJ0 15 "java/lang/String" "coder" "B" ∈ T0 := tb (i := 1645) (by decide +kernel) rfl
theorem inX0 : ∀ w ∈ u_ws RX0 TX0 7, w ∈ T0 := by
  intro w hw
  obtain ⟨k, hk, rfl⟩ := List.mem_map.mp hw
  have hk := List.mem_range.mp hk
  match k, hk with
  | 0, _ => exact tb (i := 186) (by decide +kernel) rfl
  | 1, _ => exact tb (i := 188) (by decide +kernel) rfl
  | 2, _ => exact tb (i := 190) (by decide +kernel) rfl
  | 3, _ => exact tb (i := 192) (by decide +kernel) rfl
  | 4, _ => exact tb (i := 194) (by decide +kernel) rfl
  | 5, _ => exact tb (i := 196) (by decide +kernel) rfl
  | 6, _ => exact tb (i := 198) (by decide +kernel) rfl
  | k + 7, hk => omega
theorem inX1 : ∀ w ∈ u_ws RX1 TX1 10, w ∈ T0 := by
  intro w hw
  obtain ⟨k, hk, rfl⟩ := List.mem_map.mp hw
  have hk := List.mem_range.mp hk
  match k, hk with
  | 0, _ => exact tb (i := 273) (by decide +kernel) rfl
  | 1, _ => exact tb (i := 275) (by decide +kernel) rfl
  | 2, _ => exact tb (i := 277) (by decide +kernel) rfl
  | 3, _ => exact tb (i := 279) (by decide +kernel) rfl
  | 4, _ => exact tb (i := 281) (by decide +kernel) rfl
  | 5, _ => exact tb (i := 283) (by decide +kernel) rfl
  | 6, _ => exact tb (i := 285) (by decide +kernel) rfl
  | 7, _ => exact tb (i := 287) (by decide +kernel) rfl
  | 8, _ => exact tb (i := 289) (by decide +kernel) rfl
  | 9, _ => exact tb (i := 291) (by decide +kernel) rfl
  | k + 10, hk => omega
theorem inX10 : ∀ w ∈ u_ws RX10 TX10 29, w ∈ T0 := by
  intro w hw
  obtain ⟨k, hk, rfl⟩ := List.mem_map.mp hw
  have hk := List.mem_range.mp hk
  match k, hk with
  | 0, _ => exact tb (i := 1159) (by decide +kernel) rfl
  | 1, _ => exact tb (i := 1161) (by decide +kernel) rfl
  | 2, _ => exact tb (i := 1163) (by decide +kernel) rfl
  | 3, _ => exact tb (i := 1165) (by decide +kernel) rfl
  | 4, _ => exact tb (i := 1167) (by decide +kernel) rfl
  | 5, _ => exact tb (i := 1169) (by decide +kernel) rfl
  | 6, _ => exact tb (i := 1171) (by decide +kernel) rfl
  | 7, _ => exact tb (i := 1173) (by decide +kernel) rfl
  | 8, _ => exact tb (i := 1175) (by decide +kernel) rfl
  | 9, _ => exact tb (i := 1177) (by decide +kernel) rfl
  | 10, _ => exact tb (i := 1179) (by decide +kernel) rfl
  | 11, _ => exact tb (i := 1181) (by decide +kernel) rfl
  | 12, _ => exact tb (i := 1183) (by decide +kernel) rfl
  | 13, _ => exact tb (i := 1185) (by decide +kernel) rfl
  | 14, _ => exact tb (i := 1187) (by decide +kernel) rfl
  | 15, _ => exact tb (i := 1189) (by decide +kernel) rfl
  | 16, _ => exact tb (i := 1191) (by decide +kernel) rfl
  | 17, _ => exact tb (i := 1193) (by decide +kernel) rfl
  | 18, _ => exact tb (i := 1195) (by decide +kernel) rfl
  | 19, _ => exact tb (i := 1197) (by decide +kernel) rfl
  | 20, _ => exact tb (i := 1199) (by decide +kernel) rfl
  | 21, _ => exact tb (i := 1201) (by decide +kernel) rfl
  | 22, _ => exact tb (i := 1203) (by decide +kernel) rfl
  | 23, _ => exact tb (i := 1205) (by decide +kernel) rfl
  | 24, _ => exact tb (i := 1207) (by decide +kernel) rfl
  | 25, _ => exact tb (i := 1209) (by decide +kernel) rfl
  | 26, _ => exact tb (i := 1211) (by decide +kernel) rfl
  | 27, _ => exact tb (i := 1213) (by decide +kernel) rfl
  | 28, _ => exact tb (i := 1215) (by decide +kernel) rfl
  | k + 29, hk => omega
theorem inX2 : ∀ w ∈ u_ws RX2 TX2 1, w ∈ T0 := by
  intro w hw
  obtain ⟨k, hk, rfl⟩ := List.mem_map.mp hw
  have hk := List.mem_range.mp hk
  match k, hk with
  | 0, _ => exact tb (i := 117) (by decide +kernel) rfl
  | k + 1, hk => omega
theorem inX3 : ∀ w ∈ u_ws RX3 TX3 11, w ∈ T0 := by
  intro w hw
  obtain ⟨k, hk, rfl⟩ := List.mem_map.mp hw
  have hk := List.mem_range.mp hk
  match k, hk with
  | 0, _ => exact tb (i := 218) (by decide +kernel) rfl
  | 1, _ => exact tb (i := 220) (by decide +kernel) rfl
  | 2, _ => exact tb (i := 222) (by decide +kernel) rfl
  | 3, _ => exact tb (i := 224) (by decide +kernel) rfl
  | 4, _ => exact tb (i := 226) (by decide +kernel) rfl
  | 5, _ => exact tb (i := 228) (by decide +kernel) rfl
  | 6, _ => exact tb (i := 230) (by decide +kernel) rfl
  | 7, _ => exact tb (i := 232) (by decide +kernel) rfl
  | 8, _ => exact tb (i := 234) (by decide +kernel) rfl
  | 9, _ => exact tb (i := 236) (by decide +kernel) rfl
  | 10, _ => exact tb (i := 238) (by decide +kernel) rfl
  | k + 11, hk => omega
theorem inX4 : ∀ w ∈ u_ws RX4 TX4 3, w ∈ T0 := by
  intro w hw
  obtain ⟨k, hk, rfl⟩ := List.mem_map.mp hw
  have hk := List.mem_range.mp hk
  match k, hk with
  | 0, _ => exact tb (i := 250) (by decide +kernel) rfl
  | 1, _ => exact tb (i := 252) (by decide +kernel) rfl
  | 2, _ => exact tb (i := 254) (by decide +kernel) rfl
  | k + 3, hk => omega
theorem inX5 : ∀ w ∈ u_ws RX5 TX5 2, w ∈ T0 := by
  intro w hw
  obtain ⟨k, hk, rfl⟩ := List.mem_map.mp hw
  have hk := List.mem_range.mp hk
  match k, hk with
  | 0, _ => exact tb (i := 129) (by decide +kernel) rfl
  | 1, _ => exact tb (i := 131) (by decide +kernel) rfl
  | k + 2, hk => omega
theorem inX6 : ∀ w ∈ u_ws RX6 TX6 4, w ∈ T0 := by
  intro w hw
  obtain ⟨k, hk, rfl⟩ := List.mem_map.mp hw
  have hk := List.mem_range.mp hk
  match k, hk with
  | 0, _ => exact tb (i := 157) (by decide +kernel) rfl
  | 1, _ => exact tb (i := 159) (by decide +kernel) rfl
  | 2, _ => exact tb (i := 161) (by decide +kernel) rfl
  | 3, _ => exact tb (i := 163) (by decide +kernel) rfl
  | k + 4, hk => omega
theorem inX7 : ∀ w ∈ u_ws RX7 TX7 2, w ∈ T0 := by
  intro w hw
  obtain ⟨k, hk, rfl⟩ := List.mem_map.mp hw
  have hk := List.mem_range.mp hk
  match k, hk with
  | 0, _ => exact tb (i := 142) (by decide +kernel) rfl
  | 1, _ => exact tb (i := 144) (by decide +kernel) rfl
  | k + 2, hk => omega
theorem inX8 : ∀ w ∈ u_ws RX8 TX8 3, w ∈ T0 := by
  intro w hw
  obtain ⟨k, hk, rfl⟩ := List.mem_map.mp hw
  have hk := List.mem_range.mp hk
  match k, hk with
  | 0, _ => exact tb (i := 304) (by decide +kernel) rfl
  | 1, _ => exact tb (i := 306) (by decide +kernel) rfl
  | 2, _ => exact tb (i := 308) (by decide +kernel) rfl
  | k + 3, hk => omega
theorem inX9 : ∀ w ∈ u_ws RX9 TX9 10, w ∈ T0 := by
  intro w hw
  obtain ⟨k, hk, rfl⟩ := List.mem_map.mp hw
  have hk := List.mem_range.mp hk
  match k, hk with
  | 0, _ => exact tb (i := 321) (by decide +kernel) rfl
  | 1, _ => exact tb (i := 323) (by decide +kernel) rfl
  | 2, _ => exact tb (i := 325) (by decide +kernel) rfl
  | 3, _ => exact tb (i := 327) (by decide +kernel) rfl
  | 4, _ => exact tb (i := 329) (by decide +kernel) rfl
  | 5, _ => exact tb (i := 331) (by decide +kernel) rfl
  | 6, _ => exact tb (i := 333) (by decide +kernel) rfl
  | 7, _ => exact tb (i := 335) (by decide +kernel) rfl
  | 8, _ => exact tb (i := 337) (by decide +kernel) rfl
  | 9, _ => exact tb (i := 339) (by decide +kernel) rfl
  | k + 10, hk => omega
theorem mt_J0_charAt_5068e : ca_mt yJ0_charAt_5068e cJ0_charAt_5068e 2 (some .char) 1 := ⟨tb (i := 884) (by decide +kernel) rfl, tb (i := 91) (by decide +kernel) rfl, by decide +kernel, by decide +kernel, by decide +kernel⟩
theorem mv_J0_charAt_5068e : ca_mv yJ0_charAt_5068e := ⟨tb (i := 882) (by decide +kernel) rfl, tb (i := 883) (by decide +kernel) rfl⟩
theorem mt_J0_checkIndex_df160 : ca_mt yJ0_checkIndex_df160 cJ0_checkIndex_df160 2 none 2 := ⟨tb (i := 894) (by decide +kernel) rfl, tb (i := 91) (by decide +kernel) rfl, by decide +kernel, by decide +kernel, by decide +kernel⟩
theorem ms_J0_checkIndex_df160 : Cond.static yJ0_checkIndex_df160 ∈ T0 := tb (i := 893) (by decide +kernel) rfl
theorem mt_J0_coder_7d493 : ca_mt yJ0_coder_7d493 cJ0_coder_7d493 1 (some .byte) 0 := ⟨tb (i := 878) (by decide +kernel) rfl, tb (i := 91) (by decide +kernel) rfl, by decide +kernel, by decide +kernel, by decide +kernel⟩
theorem mv_J0_coder_7d493 : ca_mv yJ0_coder_7d493 := ⟨tb (i := 876) (by decide +kernel) rfl, tb (i := 877) (by decide +kernel) rfl⟩
theorem mt_J0_isLatin1_aae02 : ca_mt yJ0_isLatin1_aae02 cJ0_isLatin1_aae02 1 (some .boolean) 0 := ⟨tb (i := 888) (by decide +kernel) rfl, tb (i := 91) (by decide +kernel) rfl, by decide +kernel, by decide +kernel, by decide +kernel⟩
theorem mv_J0_isLatin1_aae02 : ca_mv yJ0_isLatin1_aae02 := ⟨tb (i := 886) (by decide +kernel) rfl, tb (i := 887) (by decide +kernel) rfl⟩
theorem mt_J0_length_8abf5 : ca_mt yJ0_length_8abf5 cJ0_length_8abf5 1 (some .int) 0 := ⟨tb (i := 874) (by decide +kernel) rfl, tb (i := 91) (by decide +kernel) rfl, by decide +kernel, by decide +kernel, by decide +kernel⟩
theorem mv_J0_length_8abf5 : ca_mv yJ0_length_8abf5 := ⟨tb (i := 872) (by decide +kernel) rfl, tb (i := 873) (by decide +kernel) rfl⟩
theorem mt_J1_charAt_3b067 : ca_mt yJ1_charAt_3b067 cJ1_charAt_3b067 2 (some .char) 2 := ⟨tb (i := 891) (by decide +kernel) rfl, tb (i := 92) (by decide +kernel) rfl, by decide +kernel, by decide +kernel, by decide +kernel⟩
theorem ms_J1_charAt_3b067 : Cond.static yJ1_charAt_3b067 ∈ T0 := tb (i := 890) (by decide +kernel) rfl
theorem mt_J2_charAt_3b067 : ca_mt yJ2_charAt_3b067 cJ2_charAt_3b067 2 (some .char) 2 := ⟨tb (i := 902) (by decide +kernel) rfl, tb (i := 94) (by decide +kernel) rfl, by decide +kernel, by decide +kernel, by decide +kernel⟩
theorem ms_J2_charAt_3b067 : Cond.static yJ2_charAt_3b067 ∈ T0 := tb (i := 901) (by decide +kernel) rfl
theorem mt_J2_checkIndex_2214a : ca_mt yJ2_checkIndex_2214a cJ2_checkIndex_2214a 2 none 2 := ⟨tb (i := 905) (by decide +kernel) rfl, tb (i := 94) (by decide +kernel) rfl, by decide +kernel, by decide +kernel, by decide +kernel⟩
theorem ms_J2_checkIndex_2214a : Cond.static yJ2_checkIndex_2214a ∈ T0 := tb (i := 904) (by decide +kernel) rfl
theorem mt_J2_getChar_3b067 : ca_mt yJ2_getChar_3b067 cJ2_getChar_3b067 2 (some .char) 2 := ⟨tb (i := 912) (by decide +kernel) rfl, tb (i := 94) (by decide +kernel) rfl, by decide +kernel, by decide +kernel, by decide +kernel⟩
theorem ms_J2_getChar_3b067 : Cond.static yJ2_getChar_3b067 ∈ T0 := tb (i := 911) (by decide +kernel) rfl
theorem mt_J2_length_9d52b : ca_mt yJ2_length_9d52b cJ2_length_9d52b 1 (some .int) 1 := ⟨tb (i := 908) (by decide +kernel) rfl, tb (i := 94) (by decide +kernel) rfl, by decide +kernel, by decide +kernel, by decide +kernel⟩
theorem ms_J2_length_9d52b : Cond.static yJ2_length_9d52b ∈ T0 := tb (i := 907) (by decide +kernel) rfl
theorem mt_J3_checkIndex_8e157 : ca_mt yJ3_checkIndex_8e157 cJ3_checkIndex_8e157 3 (some .int) 3 := ⟨tb (i := 899) (by decide +kernel) rfl, tb (i := 93) (by decide +kernel) rfl, by decide +kernel, by decide +kernel, by decide +kernel⟩
theorem ms_J3_checkIndex_8e157 : Cond.static yJ3_checkIndex_8e157 ∈ T0 := tb (i := 898) (by decide +kernel) rfl
theorem mt_J6_bitCount_0f7a4 : ca_mt yJ6_bitCount_0f7a4 cJ6_bitCount_0f7a4 1 (some .int) 1 := ⟨tb (i := 1108) (by decide +kernel) rfl, tb (i := 95) (by decide +kernel) rfl, by decide +kernel, by decide +kernel, by decide +kernel⟩
theorem ms_J6_bitCount_0f7a4 : Cond.static yJ6_bitCount_0f7a4 ∈ T0 := tb (i := 1107) (by decide +kernel) rfl
theorem mt_J9_min_7cf53 : ca_mt yJ9_min_7cf53 cJ9_min_7cf53 2 (some .int) 2 := ⟨tb (i := 701) (by decide +kernel) rfl, tb (i := 90) (by decide +kernel) rfl, by decide +kernel, by decide +kernel, by decide +kernel⟩
theorem ms_J9_min_7cf53 : Cond.static yJ9_min_7cf53 ∈ T0 := tb (i := 700) (by decide +kernel) rfl
theorem mt_X0_badPlaces : ca_mt yX0_badPlaces cX0_badPlaces 3 (some .int) 1 := ⟨tb (i := 464) (by decide +kernel) rfl, tb (i := 79) (by decide +kernel) rfl, by decide +kernel, by decide +kernel, by decide +kernel⟩
theorem mv_X0_badPlaces : ca_mv yX0_badPlaces := ⟨tb (i := 462) (by decide +kernel) rfl, tb (i := 463) (by decide +kernel) rfl⟩
theorem mt_X0_draw : ca_mt yX0_draw cX0_draw 1 (some .int) 0 := ⟨tb (i := 538) (by decide +kernel) rfl, tb (i := 79) (by decide +kernel) rfl, by decide +kernel, by decide +kernel, by decide +kernel⟩
theorem mv_X0_draw : ca_mv yX0_draw := ⟨tb (i := 536) (by decide +kernel) rfl, tb (i := 537) (by decide +kernel) rfl⟩
theorem mt_X0_hearingCount : ca_mt yX0_hearingCount cX0_hearingCount 3 (some .int) 0 := ⟨tb (i := 1115) (by decide +kernel) rfl, tb (i := 79) (by decide +kernel) rfl, by decide +kernel, by decide +kernel, by decide +kernel⟩
theorem mv_X0_hearingCount : ca_mv yX0_hearingCount := ⟨tb (i := 1113) (by decide +kernel) rfl, tb (i := 1114) (by decide +kernel) rfl⟩
theorem mt_X0_hearingsOfOthers : ca_mt yX0_hearingsOfOthers cX0_hearingsOfOthers 5 (some .int) 2 := ⟨tb (i := 803) (by decide +kernel) rfl, tb (i := 79) (by decide +kernel) rfl, by decide +kernel, by decide +kernel, by decide +kernel⟩
theorem mv_X0_hearingsOfOthers : ca_mv yX0_hearingsOfOthers := ⟨tb (i := 801) (by decide +kernel) rfl, tb (i := 802) (by decide +kernel) rfl⟩
theorem mt_X0_init : ca_mt yX0_init cX0_init 2 none 0 := ⟨tb (i := 108) (by decide +kernel) rfl, tb (i := 79) (by decide +kernel) rfl, by decide +kernel, by decide +kernel, by decide +kernel⟩
theorem mt_X0_takeFrom : ca_mt yX0_takeFrom cX0_takeFrom 2 none 1 := ⟨tb (i := 1067) (by decide +kernel) rfl, tb (i := 79) (by decide +kernel) rfl, by decide +kernel, by decide +kernel, by decide +kernel⟩
theorem mv_X0_takeFrom : ca_mv yX0_takeFrom := ⟨tb (i := 1065) (by decide +kernel) rfl, tb (i := 1066) (by decide +kernel) rfl⟩
theorem mt_X10_after : ca_mt yX10_after cX10_after 7 (some .int) 3 := ⟨tb (i := 1422) (by decide +kernel) rfl, tb (i := 88) (by decide +kernel) rfl, by decide +kernel, by decide +kernel, by decide +kernel⟩
theorem mv_X10_after : ca_mv yX10_after := ⟨tb (i := 1421) (by decide +kernel) rfl, tb (i := 58) (by decide +kernel) rfl⟩
theorem mt_X10_as : ca_mt yX10_as cX10_as 4 (some .int) 2 := ⟨tb (i := 1586) (by decide +kernel) rfl, tb (i := 88) (by decide +kernel) rfl, by decide +kernel, by decide +kernel, by decide +kernel⟩
theorem mv_X10_as : ca_mv yX10_as := ⟨tb (i := 1584) (by decide +kernel) rfl, tb (i := 1585) (by decide +kernel) rfl⟩
theorem mt_X10_asked : ca_mt yX10_asked cX10_asked 3 (some .int) 1 := ⟨tb (i := 1339) (by decide +kernel) rfl, tb (i := 88) (by decide +kernel) rfl, by decide +kernel, by decide +kernel, by decide +kernel⟩
theorem mv_X10_asked : ca_mv yX10_asked := ⟨tb (i := 1338) (by decide +kernel) rfl, tb (i := 47) (by decide +kernel) rfl⟩
theorem mt_X10_at : ca_mt yX10_at cX10_at 2 (some .int) 1 := ⟨tb (i := 1427) (by decide +kernel) rfl, tb (i := 88) (by decide +kernel) rfl, by decide +kernel, by decide +kernel, by decide +kernel⟩
theorem mv_X10_at : ca_mv yX10_at := ⟨tb (i := 1425) (by decide +kernel) rfl, tb (i := 1426) (by decide +kernel) rfl⟩
theorem mt_X10_back : ca_mt yX10_back cX10_back 4 (some .int) 1 := ⟨tb (i := 1487) (by decide +kernel) rfl, tb (i := 88) (by decide +kernel) rfl, by decide +kernel, by decide +kernel, by decide +kernel⟩
theorem mv_X10_back : ca_mv yX10_back := ⟨tb (i := 1485) (by decide +kernel) rfl, tb (i := 1486) (by decide +kernel) rfl⟩
theorem mt_X10_backTo : ca_mt yX10_backTo cX10_backTo 11 none 2 := ⟨tb (i := 1414) (by decide +kernel) rfl, tb (i := 88) (by decide +kernel) rfl, by decide +kernel, by decide +kernel, by decide +kernel⟩
theorem mv_X10_backTo : ca_mv yX10_backTo := ⟨tb (i := 1413) (by decide +kernel) rfl, tb (i := 56) (by decide +kernel) rfl⟩
theorem mt_X10_bad : ca_mt yX10_bad cX10_bad 2 (some .int) 1 := ⟨tb (i := 1357) (by decide +kernel) rfl, tb (i := 88) (by decide +kernel) rfl, by decide +kernel, by decide +kernel, by decide +kernel⟩
theorem mv_X10_bad : ca_mv yX10_bad := ⟨tb (i := 1355) (by decide +kernel) rfl, tb (i := 1356) (by decide +kernel) rfl⟩
theorem mt_X10_badOf : ca_mt yX10_badOf cX10_badOf 3 (some .int) 1 := ⟨tb (i := 1361) (by decide +kernel) rfl, tb (i := 88) (by decide +kernel) rfl, by decide +kernel, by decide +kernel, by decide +kernel⟩
theorem mv_X10_badOf : ca_mv yX10_badOf := ⟨tb (i := 1360) (by decide +kernel) rfl, tb (i := 48) (by decide +kernel) rfl⟩
theorem mt_X10_bail : ca_mt yX10_bail cX10_bail 4 (some .int) 2 := ⟨tb (i := 1475) (by decide +kernel) rfl, tb (i := 88) (by decide +kernel) rfl, by decide +kernel, by decide +kernel, by decide +kernel⟩
theorem mv_X10_bail : ca_mv yX10_bail := ⟨tb (i := 1473) (by decide +kernel) rfl, tb (i := 1474) (by decide +kernel) rfl⟩
theorem mt_X10_bars : ca_mt yX10_bars cX10_bars 6 (some .int) 2 := ⟨tb (i := 1439) (by decide +kernel) rfl, tb (i := 88) (by decide +kernel) rfl, by decide +kernel, by decide +kernel, by decide +kernel⟩
theorem mv_X10_bars : ca_mv yX10_bars := ⟨tb (i := 1437) (by decide +kernel) rfl, tb (i := 1438) (by decide +kernel) rfl⟩
theorem mt_X10_binds : ca_mt yX10_binds cX10_binds 6 none 3 := ⟨tb (i := 1406) (by decide +kernel) rfl, tb (i := 88) (by decide +kernel) rfl, by decide +kernel, by decide +kernel, by decide +kernel⟩
theorem mv_X10_binds : ca_mv yX10_binds := ⟨tb (i := 1405) (by decide +kernel) rfl, tb (i := 54) (by decide +kernel) rfl⟩
theorem mt_X10_breach : ca_mt yX10_breach cX10_breach 6 (some .int) 2 := ⟨tb (i := 1398) (by decide +kernel) rfl, tb (i := 88) (by decide +kernel) rfl, by decide +kernel, by decide +kernel, by decide +kernel⟩
theorem mv_X10_breach : ca_mv yX10_breach := ⟨tb (i := 1396) (by decide +kernel) rfl, tb (i := 1397) (by decide +kernel) rfl⟩
theorem mt_X10_byteAt : ca_mt yX10_byteAt cX10_byteAt 2 (some .int) 1 := ⟨tb (i := 1531) (by decide +kernel) rfl, tb (i := 88) (by decide +kernel) rfl, by decide +kernel, by decide +kernel, by decide +kernel⟩
theorem mv_X10_byteAt : ca_mv yX10_byteAt := ⟨tb (i := 1530) (by decide +kernel) rfl, tb (i := 66) (by decide +kernel) rfl⟩
theorem mt_X10_call : ca_mt yX10_call cX10_call 5 (some .int) 1 := ⟨tb (i := 1483) (by decide +kernel) rfl, tb (i := 88) (by decide +kernel) rfl, by decide +kernel, by decide +kernel, by decide +kernel⟩
theorem mv_X10_call : ca_mv yX10_call := ⟨tb (i := 1481) (by decide +kernel) rfl, tb (i := 1482) (by decide +kernel) rfl⟩
theorem mt_X10_change : ca_mt yX10_change cX10_change 6 (some .int) 3 := ⟨tb (i := 1352) (by decide +kernel) rfl, tb (i := 88) (by decide +kernel) rfl, by decide +kernel, by decide +kernel, by decide +kernel⟩
theorem mv_X10_change : ca_mv yX10_change := ⟨tb (i := 1350) (by decide +kernel) rfl, tb (i := 1351) (by decide +kernel) rfl⟩
theorem mt_X10_comes : ca_mt yX10_comes cX10_comes 13 (some .long) 4 := ⟨tb (i := 1385) (by decide +kernel) rfl, tb (i := 88) (by decide +kernel) rfl, by decide +kernel, by decide +kernel, by decide +kernel⟩
theorem mv_X10_comes : ca_mv yX10_comes := ⟨tb (i := 1384) (by decide +kernel) rfl, tb (i := 52) (by decide +kernel) rfl⟩
theorem mt_X10_copy : ca_mt yX10_copy cX10_copy 7 (some .int) 5 := ⟨tb (i := 1614) (by decide +kernel) rfl, tb (i := 88) (by decide +kernel) rfl, by decide +kernel, by decide +kernel, by decide +kernel⟩
theorem mv_X10_copy : ca_mv yX10_copy := ⟨tb (i := 1612) (by decide +kernel) rfl, tb (i := 1613) (by decide +kernel) rfl⟩
theorem mt_X10_could : ca_mt yX10_could cX10_could 7 (some .int) 2 := ⟨tb (i := 1284) (by decide +kernel) rfl, tb (i := 88) (by decide +kernel) rfl, by decide +kernel, by decide +kernel, by decide +kernel⟩
theorem mv_X10_could : ca_mv yX10_could := ⟨tb (i := 1282) (by decide +kernel) rfl, tb (i := 1283) (by decide +kernel) rfl⟩
theorem mt_X10_count : ca_mt yX10_count cX10_count 7 (some .int) 4 := ⟨tb (i := 1393) (by decide +kernel) rfl, tb (i := 88) (by decide +kernel) rfl, by decide +kernel, by decide +kernel, by decide +kernel⟩
theorem mv_X10_count : ca_mv yX10_count := ⟨tb (i := 1391) (by decide +kernel) rfl, tb (i := 1392) (by decide +kernel) rfl⟩
theorem mt_X10_drift : ca_mt yX10_drift cX10_drift 8 (some .int) 3 := ⟨tb (i := 1296) (by decide +kernel) rfl, tb (i := 88) (by decide +kernel) rfl, by decide +kernel, by decide +kernel, by decide +kernel⟩
theorem mv_X10_drift : ca_mv yX10_drift := ⟨tb (i := 1294) (by decide +kernel) rfl, tb (i := 1295) (by decide +kernel) rfl⟩
theorem mt_X10_far : ca_mt yX10_far cX10_far 5 (some .int) 2 := ⟨tb (i := 1242) (by decide +kernel) rfl, tb (i := 88) (by decide +kernel) rfl, by decide +kernel, by decide +kernel, by decide +kernel⟩
theorem mv_X10_far : ca_mv yX10_far := ⟨tb (i := 1240) (by decide +kernel) rfl, tb (i := 1241) (by decide +kernel) rfl⟩
theorem mt_X10_feed : ca_mt yX10_feed cX10_feed 4 (some .int) 2 := ⟨tb (i := 1511) (by decide +kernel) rfl, tb (i := 88) (by decide +kernel) rfl, by decide +kernel, by decide +kernel, by decide +kernel⟩
theorem mv_X10_feed : ca_mv yX10_feed := ⟨tb (i := 1509) (by decide +kernel) rfl, tb (i := 1510) (by decide +kernel) rfl⟩
theorem mt_X10_fewest : ca_mt yX10_fewest cX10_fewest 5 (some .int) 0 := ⟨tb (i := 1410) (by decide +kernel) rfl, tb (i := 88) (by decide +kernel) rfl, by decide +kernel, by decide +kernel, by decide +kernel⟩
theorem mv_X10_fewest : ca_mv yX10_fewest := ⟨tb (i := 1409) (by decide +kernel) rfl, tb (i := 55) (by decide +kernel) rfl⟩
theorem mt_X10_finds : ca_mt yX10_finds cX10_finds 2 (some .int) 1 := ⟨tb (i := 1234) (by decide +kernel) rfl, tb (i := 88) (by decide +kernel) rfl, by decide +kernel, by decide +kernel, by decide +kernel⟩
theorem mv_X10_finds : ca_mv yX10_finds := ⟨tb (i := 1233) (by decide +kernel) rfl, tb (i := 35) (by decide +kernel) rfl⟩
theorem mt_X10_further : ca_mt yX10_further cX10_further 4 (some .int) 1 := ⟨tb (i := 1249) (by decide +kernel) rfl, tb (i := 88) (by decide +kernel) rfl, by decide +kernel, by decide +kernel, by decide +kernel⟩
theorem mv_X10_further : ca_mv yX10_further := ⟨tb (i := 1248) (by decide +kernel) rfl, tb (i := 36) (by decide +kernel) rfl⟩
theorem mt_X10_given : ca_mt yX10_given cX10_given 3 (some .int) 2 := ⟨tb (i := 1471) (by decide +kernel) rfl, tb (i := 88) (by decide +kernel) rfl, by decide +kernel, by decide +kernel, by decide +kernel⟩
theorem mv_X10_given : ca_mv yX10_given := ⟨tb (i := 1470) (by decide +kernel) rfl, tb (i := 61) (by decide +kernel) rfl⟩
theorem mt_X10_givenBy : ca_mt yX10_givenBy cX10_givenBy 4 (some .int) 1 := ⟨tb (i := 1467) (by decide +kernel) rfl, tb (i := 88) (by decide +kernel) rfl, by decide +kernel, by decide +kernel, by decide +kernel⟩
theorem mv_X10_givenBy : ca_mv yX10_givenBy := ⟨tb (i := 1466) (by decide +kernel) rfl, tb (i := 60) (by decide +kernel) rfl⟩
theorem mt_X10_givenFor : ca_mt yX10_givenFor cX10_givenFor 4 (some .int) 1 := ⟨tb (i := 1479) (by decide +kernel) rfl, tb (i := 88) (by decide +kernel) rfl, by decide +kernel, by decide +kernel, by decide +kernel⟩
theorem mv_X10_givenFor : ca_mv yX10_givenFor := ⟨tb (i := 1478) (by decide +kernel) rfl, tb (i := 62) (by decide +kernel) rfl⟩
theorem mt_X10_has : ca_mt yX10_has cX10_has 2 (some .boolean) 2 := ⟨tb (i := 1245) (by decide +kernel) rfl, tb (i := 88) (by decide +kernel) rfl, by decide +kernel, by decide +kernel, by decide +kernel⟩
theorem ms_X10_has : Cond.static yX10_has ∈ T0 := tb (i := 1244) (by decide +kernel) rfl
theorem mt_X10_heard : ca_mt yX10_heard cX10_heard 2 (some .int) 1 := ⟨tb (i := 1503) (by decide +kernel) rfl, tb (i := 88) (by decide +kernel) rfl, by decide +kernel, by decide +kernel, by decide +kernel⟩
theorem mv_X10_heard : ca_mv yX10_heard := ⟨tb (i := 1501) (by decide +kernel) rfl, tb (i := 1502) (by decide +kernel) rfl⟩
theorem mt_X10_hearing : ca_mt yX10_hearing cX10_hearing 3 (some .int) 2 := ⟨tb (i := 1495) (by decide +kernel) rfl, tb (i := 88) (by decide +kernel) rfl, by decide +kernel, by decide +kernel, by decide +kernel⟩
theorem mv_X10_hearing : ca_mv yX10_hearing := ⟨tb (i := 1493) (by decide +kernel) rfl, tb (i := 1494) (by decide +kernel) rfl⟩
theorem mt_X10_hearingsOn : ca_mt yX10_hearingsOn cX10_hearingsOn 5 (some .int) 2 := ⟨tb (i := 1499) (by decide +kernel) rfl, tb (i := 88) (by decide +kernel) rfl, by decide +kernel, by decide +kernel, by decide +kernel⟩
theorem mv_X10_hearingsOn : ca_mv yX10_hearingsOn := ⟨tb (i := 1498) (by decide +kernel) rfl, tb (i := 63) (by decide +kernel) rfl⟩
theorem mt_X10_hold : ca_mt yX10_hold cX10_hold 3 (some .int) 2 := ⟨tb (i := 1582) (by decide +kernel) rfl, tb (i := 88) (by decide +kernel) rfl, by decide +kernel, by decide +kernel, by decide +kernel⟩
theorem mv_X10_hold : ca_mv yX10_hold := ⟨tb (i := 1580) (by decide +kernel) rfl, tb (i := 1581) (by decide +kernel) rfl⟩
theorem mt_X10_image : ca_mt yX10_image cX10_image 2 (some .int) 0 := ⟨tb (i := 1627) (by decide +kernel) rfl, tb (i := 88) (by decide +kernel) rfl, by decide +kernel, by decide +kernel, by decide +kernel⟩
theorem mv_X10_image : ca_mv yX10_image := ⟨tb (i := 1625) (by decide +kernel) rfl, tb (i := 1626) (by decide +kernel) rfl⟩
theorem mt_X10_in : ca_mt yX10_in cX10_in 6 (some .boolean) 3 := ⟨tb (i := 1229) (by decide +kernel) rfl, tb (i := 88) (by decide +kernel) rfl, by decide +kernel, by decide +kernel, by decide +kernel⟩
theorem ms_X10_in : Cond.static yX10_in ∈ T0 := tb (i := 1228) (by decide +kernel) rfl
theorem mt_X10_inForce : ca_mt yX10_inForce cX10_inForce 3 (some .int) 2 := ⟨tb (i := 1365) (by decide +kernel) rfl, tb (i := 88) (by decide +kernel) rfl, by decide +kernel, by decide +kernel, by decide +kernel⟩
theorem mv_X10_inForce : ca_mv yX10_inForce := ⟨tb (i := 1363) (by decide +kernel) rfl, tb (i := 1364) (by decide +kernel) rfl⟩
theorem mt_X10_inForceOf : ca_mt yX10_inForceOf cX10_inForceOf 5 (some .int) 2 := ⟨tb (i := 1369) (by decide +kernel) rfl, tb (i := 88) (by decide +kernel) rfl, by decide +kernel, by decide +kernel, by decide +kernel⟩
theorem mv_X10_inForceOf : ca_mv yX10_inForceOf := ⟨tb (i := 1368) (by decide +kernel) rfl, tb (i := 49) (by decide +kernel) rfl⟩
theorem mt_X10_init : ca_mt yX10_init cX10_init 2 none 0 := ⟨tb (i := 1128) (by decide +kernel) rfl, tb (i := 88) (by decide +kernel) rfl, by decide +kernel, by decide +kernel, by decide +kernel⟩
theorem mt_X10_isAt : ca_mt yX10_isAt cX10_isAt 3 (some .boolean) 2 := ⟨tb (i := 1389) (by decide +kernel) rfl, tb (i := 88) (by decide +kernel) rfl, by decide +kernel, by decide +kernel, by decide +kernel⟩
theorem mv_X10_isAt : ca_mv yX10_isAt := ⟨tb (i := 1388) (by decide +kernel) rfl, tb (i := 53) (by decide +kernel) rfl⟩
theorem mt_X10_isDay : ca_mt yX10_isDay cX10_isDay 1 (some .boolean) 1 := ⟨tb (i := 1299) (by decide +kernel) rfl, tb (i := 88) (by decide +kernel) rfl, by decide +kernel, by decide +kernel, by decide +kernel⟩
theorem ms_X10_isDay : Cond.static yX10_isDay ∈ T0 := tb (i := 1298) (by decide +kernel) rfl
theorem mt_X10_isDigit : ca_mt yX10_isDigit cX10_isDigit 1 (some .boolean) 1 := ⟨tb (i := 1539) (by decide +kernel) rfl, tb (i := 88) (by decide +kernel) rfl, by decide +kernel, by decide +kernel, by decide +kernel⟩
theorem ms_X10_isDigit : Cond.static yX10_isDigit ∈ T0 := tb (i := 1538) (by decide +kernel) rfl
theorem mt_X10_isInForce : ca_mt yX10_isInForce cX10_isInForce 3 (some .boolean) 2 := ⟨tb (i := 1373) (by decide +kernel) rfl, tb (i := 88) (by decide +kernel) rfl, by decide +kernel, by decide +kernel, by decide +kernel⟩
theorem mv_X10_isInForce : ca_mv yX10_isInForce := ⟨tb (i := 1372) (by decide +kernel) rfl, tb (i := 50) (by decide +kernel) rfl⟩
theorem mt_X10_isLetter : ca_mt yX10_isLetter cX10_isLetter 1 (some .boolean) 1 := ⟨tb (i := 1534) (by decide +kernel) rfl, tb (i := 88) (by decide +kernel) rfl, by decide +kernel, by decide +kernel, by decide +kernel⟩
theorem ms_X10_isLetter : Cond.static yX10_isLetter ∈ T0 := tb (i := 1533) (by decide +kernel) rfl
theorem mt_X10_isLetterAt : ca_mt yX10_isLetterAt cX10_isLetterAt 3 (some .boolean) 2 := ⟨tb (i := 1557) (by decide +kernel) rfl, tb (i := 88) (by decide +kernel) rfl, by decide +kernel, by decide +kernel, by decide +kernel⟩
theorem mv_X10_isLetterAt : ca_mv yX10_isLetterAt := ⟨tb (i := 1556) (by decide +kernel) rfl, tb (i := 70) (by decide +kernel) rfl⟩
theorem mt_X10_isOne : ca_mt yX10_isOne cX10_isOne 1 (some .boolean) 1 := ⟨tb (i := 1598) (by decide +kernel) rfl, tb (i := 88) (by decide +kernel) rfl, by decide +kernel, by decide +kernel, by decide +kernel⟩
theorem ms_X10_isOne : Cond.static yX10_isOne ∈ T0 := tb (i := 1597) (by decide +kernel) rfl
theorem mt_X10_isPerson : ca_mt yX10_isPerson cX10_isPerson 1 (some .boolean) 1 := ⟨tb (i := 1257) (by decide +kernel) rfl, tb (i := 88) (by decide +kernel) rfl, by decide +kernel, by decide +kernel, by decide +kernel⟩
theorem ms_X10_isPerson : Cond.static yX10_isPerson ∈ T0 := tb (i := 1256) (by decide +kernel) rfl
theorem mt_X10_isPlace : ca_mt yX10_isPlace cX10_isPlace 1 (some .boolean) 1 := ⟨tb (i := 1225) (by decide +kernel) rfl, tb (i := 88) (by decide +kernel) rfl, by decide +kernel, by decide +kernel, by decide +kernel⟩
theorem ms_X10_isPlace : Cond.static yX10_isPlace ∈ T0 := tb (i := 1224) (by decide +kernel) rfl
theorem mt_X10_isRoomFor : ca_mt yX10_isRoomFor cX10_isRoomFor 2 (some .boolean) 1 := ⟨tb (i := 1315) (by decide +kernel) rfl, tb (i := 88) (by decide +kernel) rfl, by decide +kernel, by decide +kernel, by decide +kernel⟩
theorem mv_X10_isRoomFor : ca_mv yX10_isRoomFor := ⟨tb (i := 1314) (by decide +kernel) rfl, tb (i := 42) (by decide +kernel) rfl⟩
theorem mt_X10_isTerm : ca_mt yX10_isTerm cX10_isTerm 2 (some .boolean) 1 := ⟨tb (i := 1335) (by decide +kernel) rfl, tb (i := 88) (by decide +kernel) rfl, by decide +kernel, by decide +kernel, by decide +kernel⟩
theorem mv_X10_isTerm : ca_mv yX10_isTerm := ⟨tb (i := 1334) (by decide +kernel) rfl, tb (i := 46) (by decide +kernel) rfl⟩
theorem mt_X10_isUnder : ca_mt yX10_isUnder cX10_isUnder 2 (some .boolean) 2 := ⟨tb (i := 1590) (by decide +kernel) rfl, tb (i := 88) (by decide +kernel) rfl, by decide +kernel, by decide +kernel, by decide +kernel⟩
theorem ms_X10_isUnder : Cond.static yX10_isUnder ∈ T0 := tb (i := 1589) (by decide +kernel) rfl
theorem mt_X10_isWhen : ca_mt yX10_isWhen cX10_isWhen 1 (some .boolean) 1 := ⟨tb (i := 1261) (by decide +kernel) rfl, tb (i := 88) (by decide +kernel) rfl, by decide +kernel, by decide +kernel, by decide +kernel⟩
theorem ms_X10_isWhen : Cond.static yX10_isWhen ∈ T0 := tb (i := 1260) (by decide +kernel) rfl
theorem mt_X10_isWord : ca_mt yX10_isWord cX10_isWord 9 (some .boolean) 7 := ⟨tb (i := 1553) (by decide +kernel) rfl, tb (i := 88) (by decide +kernel) rfl, by decide +kernel, by decide +kernel, by decide +kernel⟩
theorem mv_X10_isWord : ca_mv yX10_isWord := ⟨tb (i := 1552) (by decide +kernel) rfl, tb (i := 69) (by decide +kernel) rfl⟩
theorem mt_X10_item : ca_mt yX10_item cX10_item 5 none 0 := ⟨tb (i := 1545) (by decide +kernel) rfl, tb (i := 88) (by decide +kernel) rfl, by decide +kernel, by decide +kernel, by decide +kernel⟩
theorem mv_X10_item : ca_mv yX10_item := ⟨tb (i := 1544) (by decide +kernel) rfl, tb (i := 67) (by decide +kernel) rfl⟩
theorem mt_X10_judge : ca_mt yX10_judge cX10_judge 9 (some .int) 3 := ⟨tb (i := 1623) (by decide +kernel) rfl, tb (i := 88) (by decide +kernel) rfl, by decide +kernel, by decide +kernel, by decide +kernel⟩
theorem mv_X10_judge : ca_mv yX10_judge := ⟨tb (i := 1621) (by decide +kernel) rfl, tb (i := 1622) (by decide +kernel) rfl⟩
theorem mt_X10_kept : ca_mt yX10_kept cX10_kept 3 (some .int) 2 := ⟨tb (i := 1377) (by decide +kernel) rfl, tb (i := 88) (by decide +kernel) rfl, by decide +kernel, by decide +kernel, by decide +kernel⟩
theorem mv_X10_kept : ca_mv yX10_kept := ⟨tb (i := 1375) (by decide +kernel) rfl, tb (i := 1376) (by decide +kernel) rfl⟩
theorem mt_X10_keptOf : ca_mt yX10_keptOf cX10_keptOf 10 (some .int) 2 := ⟨tb (i := 1381) (by decide +kernel) rfl, tb (i := 88) (by decide +kernel) rfl, by decide +kernel, by decide +kernel, by decide +kernel⟩
theorem mv_X10_keptOf : ca_mv yX10_keptOf := ⟨tb (i := 1380) (by decide +kernel) rfl, tb (i := 51) (by decide +kernel) rfl⟩
theorem mt_X10_kindHere : ca_mt yX10_kindHere cX10_kindHere 1 (some .int) 0 := ⟨tb (i := 1549) (by decide +kernel) rfl, tb (i := 88) (by decide +kernel) rfl, by decide +kernel, by decide +kernel, by decide +kernel⟩
theorem mv_X10_kindHere : ca_mv yX10_kindHere := ⟨tb (i := 1548) (by decide +kernel) rfl, tb (i := 68) (by decide +kernel) rfl⟩
theorem mt_X10_latest : ca_mt yX10_latest cX10_latest 5 (some .int) 2 := ⟨tb (i := 1276) (by decide +kernel) rfl, tb (i := 88) (by decide +kernel) rfl, by decide +kernel, by decide +kernel, by decide +kernel⟩
theorem mv_X10_latest : ca_mv yX10_latest := ⟨tb (i := 1275) (by decide +kernel) rfl, tb (i := 38) (by decide +kernel) rfl⟩
theorem mt_X10_lawful : ca_mt yX10_lawful cX10_lawful 4 (some .int) 1 := ⟨tb (i := 1418) (by decide +kernel) rfl, tb (i := 88) (by decide +kernel) rfl, by decide +kernel, by decide +kernel, by decide +kernel⟩
theorem mv_X10_lawful : ca_mv yX10_lawful := ⟨tb (i := 1417) (by decide +kernel) rfl, tb (i := 57) (by decide +kernel) rfl⟩
theorem mt_X10_load : ca_mt yX10_load cX10_load 9 (some .int) 3 := ⟨tb (i := 1618) (by decide +kernel) rfl, tb (i := 88) (by decide +kernel) rfl, by decide +kernel, by decide +kernel, by decide +kernel⟩
theorem mv_X10_load : ca_mv yX10_load := ⟨tb (i := 1616) (by decide +kernel) rfl, tb (i := 1617) (by decide +kernel) rfl⟩
theorem mt_X10_looks : ca_mt yX10_looks cX10_looks 5 none 2 := ⟨tb (i := 1288) (by decide +kernel) rfl, tb (i := 88) (by decide +kernel) rfl, by decide +kernel, by decide +kernel, by decide +kernel⟩
theorem mv_X10_looks : ca_mv yX10_looks := ⟨tb (i := 1287) (by decide +kernel) rfl, tb (i := 39) (by decide +kernel) rfl⟩
theorem mt_X10_many : ca_mt yX10_many cX10_many 5 (some .int) 1 := ⟨tb (i := 1639) (by decide +kernel) rfl, tb (i := 88) (by decide +kernel) rfl, by decide +kernel, by decide +kernel, by decide +kernel⟩
theorem mv_X10_many : ca_mv yX10_many := ⟨tb (i := 1637) (by decide +kernel) rfl, tb (i := 1638) (by decide +kernel) rfl⟩
theorem mt_X10_may : ca_mt yX10_may cX10_may 9 (some .int) 2 := ⟨tb (i := 1431) (by decide +kernel) rfl, tb (i := 88) (by decide +kernel) rfl, by decide +kernel, by decide +kernel, by decide +kernel⟩
theorem mv_X10_may : ca_mv yX10_may := ⟨tb (i := 1429) (by decide +kernel) rfl, tb (i := 1430) (by decide +kernel) rfl⟩
theorem mt_X10_narrowed : ca_mt yX10_narrowed cX10_narrowed 2 (some .int) 2 := ⟨tb (i := 1610) (by decide +kernel) rfl, tb (i := 88) (by decide +kernel) rfl, by decide +kernel, by decide +kernel, by decide +kernel⟩
theorem ms_X10_narrowed : Cond.static yX10_narrowed ∈ T0 := tb (i := 1609) (by decide +kernel) rfl
theorem mt_X10_needs : ca_mt yX10_needs cX10_needs 2 none 1 := ⟨tb (i := 1565) (by decide +kernel) rfl, tb (i := 88) (by decide +kernel) rfl, by decide +kernel, by decide +kernel, by decide +kernel⟩
theorem mv_X10_needs : ca_mv yX10_needs := ⟨tb (i := 1564) (by decide +kernel) rfl, tb (i := 72) (by decide +kernel) rfl⟩
theorem mt_X10_newTerm : ca_mt yX10_newTerm cX10_newTerm 5 (some .int) 3 := ⟨tb (i := 1327) (by decide +kernel) rfl, tb (i := 88) (by decide +kernel) rfl, by decide +kernel, by decide +kernel, by decide +kernel⟩
theorem mv_X10_newTerm : ca_mv yX10_newTerm := ⟨tb (i := 1326) (by decide +kernel) rfl, tb (i := 45) (by decide +kernel) rfl⟩
theorem mt_X10_next : ca_mt yX10_next cX10_next 1 (some .int) 0 := ⟨tb (i := 1305) (by decide +kernel) rfl, tb (i := 88) (by decide +kernel) rfl, by decide +kernel, by decide +kernel, by decide +kernel⟩
theorem mv_X10_next : ca_mv yX10_next := ⟨tb (i := 1304) (by decide +kernel) rfl, tb (i := 41) (by decide +kernel) rfl⟩
theorem mt_X10_number : ca_mt yX10_number cX10_number 6 none 2 := ⟨tb (i := 1573) (by decide +kernel) rfl, tb (i := 88) (by decide +kernel) rfl, by decide +kernel, by decide +kernel, by decide +kernel⟩
theorem mv_X10_number : ca_mv yX10_number := ⟨tb (i := 1572) (by decide +kernel) rfl, tb (i := 74) (by decide +kernel) rfl⟩
theorem mt_X10_numberHere : ca_mt yX10_numberHere cX10_numberHere 3 (some .int) 0 := ⟨tb (i := 1569) (by decide +kernel) rfl, tb (i := 88) (by decide +kernel) rfl, by decide +kernel, by decide +kernel, by decide +kernel⟩
theorem mv_X10_numberHere : ca_mv yX10_numberHere := ⟨tb (i := 1568) (by decide +kernel) rfl, tb (i := 73) (by decide +kernel) rfl⟩
theorem mt_X10_of : ca_mt yX10_of cX10_of 3 (some .int) 2 := ⟨tb (i := 1323) (by decide +kernel) rfl, tb (i := 88) (by decide +kernel) rfl, by decide +kernel, by decide +kernel, by decide +kernel⟩
theorem mv_X10_of : ca_mv yX10_of := ⟨tb (i := 1322) (by decide +kernel) rfl, tb (i := 44) (by decide +kernel) rfl⟩
theorem mt_X10_open : ca_mt yX10_open cX10_open 2 (some .int) 1 := ⟨tb (i := 1292) (by decide +kernel) rfl, tb (i := 88) (by decide +kernel) rfl, by decide +kernel, by decide +kernel, by decide +kernel⟩
theorem mv_X10_open : ca_mv yX10_open := ⟨tb (i := 1291) (by decide +kernel) rfl, tb (i := 40) (by decide +kernel) rfl⟩
theorem mt_X10_puts : ca_mt yX10_puts cX10_puts 2 none 0 := ⟨tb (i := 1523) (by decide +kernel) rfl, tb (i := 88) (by decide +kernel) rfl, by decide +kernel, by decide +kernel, by decide +kernel⟩
theorem mv_X10_puts : ca_mv yX10_puts := ⟨tb (i := 1522) (by decide +kernel) rfl, tb (i := 64) (by decide +kernel) rfl⟩
theorem mt_X10_risk : ca_mt yX10_risk cX10_risk 10 (some .int) 4 := ⟨tb (i := 1443) (by decide +kernel) rfl, tb (i := 88) (by decide +kernel) rfl, by decide +kernel, by decide +kernel, by decide +kernel⟩
theorem mv_X10_risk : ca_mv yX10_risk := ⟨tb (i := 1441) (by decide +kernel) rfl, tb (i := 1442) (by decide +kernel) rfl⟩
theorem mt_X10_risks : ca_mt yX10_risks cX10_risks 6 (some .int) 3 := ⟨tb (i := 1449) (by decide +kernel) rfl, tb (i := 88) (by decide +kernel) rfl, by decide +kernel, by decide +kernel, by decide +kernel⟩
theorem mv_X10_risks : ca_mv yX10_risks := ⟨tb (i := 1448) (by decide +kernel) rfl, tb (i := 59) (by decide +kernel) rfl⟩
theorem mt_X10_road : ca_mt yX10_road cX10_road 5 (some .int) 3 := ⟨tb (i := 1222) (by decide +kernel) rfl, tb (i := 88) (by decide +kernel) rfl, by decide +kernel, by decide +kernel, by decide +kernel⟩
theorem mv_X10_road : ca_mv yX10_road := ⟨tb (i := 1220) (by decide +kernel) rfl, tb (i := 1221) (by decide +kernel) rfl⟩
theorem mt_X10_roads : ca_mt yX10_roads cX10_roads 2 (some .int) 1 := ⟨tb (i := 1238) (by decide +kernel) rfl, tb (i := 88) (by decide +kernel) rfl, by decide +kernel, by decide +kernel, by decide +kernel⟩
theorem mv_X10_roads : ca_mv yX10_roads := ⟨tb (i := 1236) (by decide +kernel) rfl, tb (i := 1237) (by decide +kernel) rfl⟩
theorem mt_X10_seed : ca_mt yX10_seed cX10_seed 3 (some .int) 1 := ⟨tb (i := 1507) (by decide +kernel) rfl, tb (i := 88) (by decide +kernel) rfl, by decide +kernel, by decide +kernel, by decide +kernel⟩
theorem mv_X10_seed : ca_mv yX10_seed := ⟨tb (i := 1505) (by decide +kernel) rfl, tb (i := 1506) (by decide +kernel) rfl⟩
theorem mt_X10_seen : ca_mt yX10_seen cX10_seen 4 (some .int) 3 := ⟨tb (i := 1254) (by decide +kernel) rfl, tb (i := 88) (by decide +kernel) rfl, by decide +kernel, by decide +kernel, by decide +kernel⟩
theorem mv_X10_seen : ca_mv yX10_seen := ⟨tb (i := 1252) (by decide +kernel) rfl, tb (i := 1253) (by decide +kernel) rfl⟩
theorem mt_X10_seenOf : ca_mt yX10_seenOf cX10_seenOf 4 (some .int) 2 := ⟨tb (i := 1271) (by decide +kernel) rfl, tb (i := 88) (by decide +kernel) rfl, by decide +kernel, by decide +kernel, by decide +kernel⟩
theorem mv_X10_seenOf : ca_mv yX10_seenOf := ⟨tb (i := 1269) (by decide +kernel) rfl, tb (i := 1270) (by decide +kernel) rfl⟩
theorem mt_X10_sees : ca_mt yX10_sees cX10_sees 5 (some .int) 3 := ⟨tb (i := 1267) (by decide +kernel) rfl, tb (i := 88) (by decide +kernel) rfl, by decide +kernel, by decide +kernel, by decide +kernel⟩
theorem mv_X10_sees : ca_mv yX10_sees := ⟨tb (i := 1266) (by decide +kernel) rfl, tb (i := 37) (by decide +kernel) rfl⟩
theorem mt_X10_sheet : ca_mt yX10_sheet cX10_sheet 5 (some .int) 3 := ⟨tb (i := 1595) (by decide +kernel) rfl, tb (i := 88) (by decide +kernel) rfl, by decide +kernel, by decide +kernel, by decide +kernel⟩
theorem mv_X10_sheet : ca_mv yX10_sheet := ⟨tb (i := 1593) (by decide +kernel) rfl, tb (i := 1594) (by decide +kernel) rfl⟩
theorem mt_X10_span : ca_mt yX10_span cX10_span 5 (some .int) 4 := ⟨tb (i := 1343) (by decide +kernel) rfl, tb (i := 88) (by decide +kernel) rfl, by decide +kernel, by decide +kernel, by decide +kernel⟩
theorem mv_X10_span : ca_mv yX10_span := ⟨tb (i := 1341) (by decide +kernel) rfl, tb (i := 1342) (by decide +kernel) rfl⟩
theorem mt_X10_spanItem : ca_mt yX10_spanItem cX10_spanItem 4 none 2 := ⟨tb (i := 1577) (by decide +kernel) rfl, tb (i := 88) (by decide +kernel) rfl, by decide +kernel, by decide +kernel, by decide +kernel⟩
theorem mv_X10_spanItem : ca_mv yX10_spanItem := ⟨tb (i := 1576) (by decide +kernel) rfl, tb (i := 75) (by decide +kernel) rfl⟩
theorem mt_X10_status : ca_mt yX10_status cX10_status 4 (some .int) 1 := ⟨tb (i := 1643) (by decide +kernel) rfl, tb (i := 88) (by decide +kernel) rfl, by decide +kernel, by decide +kernel, by decide +kernel⟩
theorem mv_X10_status : ca_mv yX10_status := ⟨tb (i := 1641) (by decide +kernel) rfl, tb (i := 1642) (by decide +kernel) rfl⟩
theorem mt_X10_strict : ca_mt yX10_strict cX10_strict 5 (some .int) 3 := ⟨tb (i := 1456) (by decide +kernel) rfl, tb (i := 88) (by decide +kernel) rfl, by decide +kernel, by decide +kernel, by decide +kernel⟩
theorem mv_X10_strict : ca_mv yX10_strict := ⟨tb (i := 1454) (by decide +kernel) rfl, tb (i := 1455) (by decide +kernel) rfl⟩
theorem mt_X10_surety : ca_mt yX10_surety cX10_surety 4 (some .int) 3 := ⟨tb (i := 1461) (by decide +kernel) rfl, tb (i := 88) (by decide +kernel) rfl, by decide +kernel, by decide +kernel, by decide +kernel⟩
theorem mv_X10_surety : ca_mv yX10_surety := ⟨tb (i := 1459) (by decide +kernel) rfl, tb (i := 1460) (by decide +kernel) rfl⟩
theorem mt_X10_suretyOf : ca_mt yX10_suretyOf cX10_suretyOf 3 (some .int) 2 := ⟨tb (i := 1491) (by decide +kernel) rfl, tb (i := 88) (by decide +kernel) rfl, by decide +kernel, by decide +kernel, by decide +kernel⟩
theorem mv_X10_suretyOf : ca_mv yX10_suretyOf := ⟨tb (i := 1489) (by decide +kernel) rfl, tb (i := 1490) (by decide +kernel) rfl⟩
theorem mt_X10_tear : ca_mt yX10_tear cX10_tear 2 (some .int) 0 := ⟨tb (i := 1635) (by decide +kernel) rfl, tb (i := 88) (by decide +kernel) rfl, by decide +kernel, by decide +kernel, by decide +kernel⟩
theorem mv_X10_tear : ca_mv yX10_tear := ⟨tb (i := 1633) (by decide +kernel) rfl, tb (i := 1634) (by decide +kernel) rfl⟩
theorem mt_X10_tens : ca_mt yX10_tens cX10_tens 3 (some .int) 1 := ⟨tb (i := 1452) (by decide +kernel) rfl, tb (i := 88) (by decide +kernel) rfl, by decide +kernel, by decide +kernel, by decide +kernel⟩
theorem ms_X10_tens : Cond.static yX10_tens ∈ T0 := tb (i := 1451) (by decide +kernel) rfl
theorem mt_X10_term : ca_mt yX10_term cX10_term 4 (some .int) 3 := ⟨tb (i := 1310) (by decide +kernel) rfl, tb (i := 88) (by decide +kernel) rfl, by decide +kernel, by decide +kernel, by decide +kernel⟩
theorem mv_X10_term : ca_mv yX10_term := ⟨tb (i := 1308) (by decide +kernel) rfl, tb (i := 1309) (by decide +kernel) rfl⟩
theorem mt_X10_termItem : ca_mt yX10_termItem cX10_termItem 4 none 1 := ⟨tb (i := 1561) (by decide +kernel) rfl, tb (i := 88) (by decide +kernel) rfl, by decide +kernel, by decide +kernel, by decide +kernel⟩
theorem mv_X10_termItem : ca_mv yX10_termItem := ⟨tb (i := 1560) (by decide +kernel) rfl, tb (i := 71) (by decide +kernel) rfl⟩
theorem mt_X10_termOf : ca_mt yX10_termOf cX10_termOf 3 (some .int) 2 := ⟨tb (i := 1331) (by decide +kernel) rfl, tb (i := 88) (by decide +kernel) rfl, by decide +kernel, by decide +kernel, by decide +kernel⟩
theorem mv_X10_termOf : ca_mv yX10_termOf := ⟨tb (i := 1329) (by decide +kernel) rfl, tb (i := 1330) (by decide +kernel) rfl⟩
theorem mt_X10_termsOf : ca_mt yX10_termsOf cX10_termsOf 4 (some .int) 1 := ⟨tb (i := 1319) (by decide +kernel) rfl, tb (i := 88) (by decide +kernel) rfl, by decide +kernel, by decide +kernel, by decide +kernel⟩
theorem mv_X10_termsOf : ca_mv yX10_termsOf := ⟨tb (i := 1318) (by decide +kernel) rfl, tb (i := 43) (by decide +kernel) rfl⟩
theorem mt_X10_text : ca_mt yX10_text cX10_text 3 (some .int) 0 := ⟨tb (i := 1519) (by decide +kernel) rfl, tb (i := 88) (by decide +kernel) rfl, by decide +kernel, by decide +kernel, by decide +kernel⟩
theorem mv_X10_text : ca_mv yX10_text := ⟨tb (i := 1517) (by decide +kernel) rfl, tb (i := 1518) (by decide +kernel) rfl⟩
theorem mt_X10_token : ca_mt yX10_token cX10_token 3 none 0 := ⟨tb (i := 1527) (by decide +kernel) rfl, tb (i := 88) (by decide +kernel) rfl, by decide +kernel, by decide +kernel, by decide +kernel⟩
theorem mv_X10_token : ca_mv yX10_token := ⟨tb (i := 1526) (by decide +kernel) rfl, tb (i := 65) (by decide +kernel) rfl⟩
theorem mt_X10_turn : ca_mt yX10_turn cX10_turn 4 (some .int) 2 := ⟨tb (i := 1348) (by decide +kernel) rfl, tb (i := 88) (by decide +kernel) rfl, by decide +kernel, by decide +kernel, by decide +kernel⟩
theorem mv_X10_turn : ca_mv yX10_turn := ⟨tb (i := 1346) (by decide +kernel) rfl, tb (i := 1347) (by decide +kernel) rfl⟩
theorem mt_X10_undo : ca_mt yX10_undo cX10_undo 2 (some .int) 0 := ⟨tb (i := 1631) (by decide +kernel) rfl, tb (i := 88) (by decide +kernel) rfl, by decide +kernel, by decide +kernel, by decide +kernel⟩
theorem mv_X10_undo : ca_mv yX10_undo := ⟨tb (i := 1629) (by decide +kernel) rfl, tb (i := 1630) (by decide +kernel) rfl⟩
theorem mt_X10_way : ca_mt yX10_way cX10_way 12 (some .int) 2 := ⟨tb (i := 1402) (by decide +kernel) rfl, tb (i := 88) (by decide +kernel) rfl, by decide +kernel, by decide +kernel, by decide +kernel⟩
theorem mv_X10_way : ca_mv yX10_way := ⟨tb (i := 1400) (by decide +kernel) rfl, tb (i := 1401) (by decide +kernel) rfl⟩
theorem mt_X10_ways : ca_mt yX10_ways cX10_ways 6 (some .int) 2 := ⟨tb (i := 1435) (by decide +kernel) rfl, tb (i := 88) (by decide +kernel) rfl, by decide +kernel, by decide +kernel, by decide +kernel⟩
theorem mv_X10_ways : ca_mv yX10_ways := ⟨tb (i := 1433) (by decide +kernel) rfl, tb (i := 1434) (by decide +kernel) rfl⟩
theorem mt_X10_where : ca_mt yX10_where cX10_where 4 (some .int) 2 := ⟨tb (i := 1280) (by decide +kernel) rfl, tb (i := 88) (by decide +kernel) rfl, by decide +kernel, by decide +kernel, by decide +kernel⟩
theorem mv_X10_where : ca_mv yX10_where := ⟨tb (i := 1278) (by decide +kernel) rfl, tb (i := 1279) (by decide +kernel) rfl⟩
theorem mt_X10_wipe : ca_mt yX10_wipe cX10_wipe 2 (some .int) 0 := ⟨tb (i := 1515) (by decide +kernel) rfl, tb (i := 88) (by decide +kernel) rfl, by decide +kernel, by decide +kernel, by decide +kernel⟩
theorem mv_X10_wipe : ca_mv yX10_wipe := ⟨tb (i := 1513) (by decide +kernel) rfl, tb (i := 1514) (by decide +kernel) rfl⟩
theorem mt_X10_write : ca_mt yX10_write cX10_write 5 (some .int) 3 := ⟨tb (i := 1603) (by decide +kernel) rfl, tb (i := 88) (by decide +kernel) rfl, by decide +kernel, by decide +kernel, by decide +kernel⟩
theorem mv_X10_write : ca_mv yX10_write := ⟨tb (i := 1601) (by decide +kernel) rfl, tb (i := 1602) (by decide +kernel) rfl⟩
theorem mt_X10_wrong : ca_mt yX10_wrong cX10_wrong 2 (some .int) 1 := ⟨tb (i := 1607) (by decide +kernel) rfl, tb (i := 88) (by decide +kernel) rfl, by decide +kernel, by decide +kernel, by decide +kernel⟩
theorem mv_X10_wrong : ca_mv yX10_wrong := ⟨tb (i := 1606) (by decide +kernel) rfl, tb (i := 76) (by decide +kernel) rfl⟩
theorem mt_X1_arrive : ca_mt yX1_arrive cX1_arrive 5 none 3 := ⟨tb (i := 489) (by decide +kernel) rfl, tb (i := 86) (by decide +kernel) rfl, by decide +kernel, by decide +kernel, by decide +kernel⟩
theorem mv_X1_arrive : ca_mv yX1_arrive := ⟨tb (i := 488) (by decide +kernel) rfl, tb (i := 5) (by decide +kernel) rfl⟩
theorem mt_X1_bestNext : ca_mt yX1_bestNext cX1_bestNext 7 (some .int) 3 := ⟨tb (i := 662) (by decide +kernel) rfl, tb (i := 86) (by decide +kernel) rfl, by decide +kernel, by decide +kernel, by decide +kernel⟩
theorem mv_X1_bestNext : ca_mv yX1_bestNext := ⟨tb (i := 661) (by decide +kernel) rfl, tb (i := 16) (by decide +kernel) rfl⟩
theorem mt_X1_clearNext : ca_mt yX1_clearNext cX1_clearNext 3 none 1 := ⟨tb (i := 682) (by decide +kernel) rfl, tb (i := 86) (by decide +kernel) rfl, by decide +kernel, by decide +kernel, by decide +kernel⟩
theorem mv_X1_clearNext : ca_mv yX1_clearNext := ⟨tb (i := 681) (by decide +kernel) rfl, tb (i := 17) (by decide +kernel) rfl⟩
theorem mt_X1_cost : ca_mt yX1_cost cX1_cost 3 (some .int) 2 := ⟨tb (i := 519) (by decide +kernel) rfl, tb (i := 86) (by decide +kernel) rfl, by decide +kernel, by decide +kernel, by decide +kernel⟩
theorem mv_X1_cost : ca_mv yX1_cost := ⟨tb (i := 518) (by decide +kernel) rfl, tb (i := 11) (by decide +kernel) rfl⟩
theorem mt_X1_exploreBack : ca_mt yX1_exploreBack cX1_exploreBack 4 none 0 := ⟨tb (i := 501) (by decide +kernel) rfl, tb (i := 86) (by decide +kernel) rfl, by decide +kernel, by decide +kernel, by decide +kernel⟩
theorem mv_X1_exploreBack : ca_mv yX1_exploreBack := ⟨tb (i := 499) (by decide +kernel) rfl, tb (i := 500) (by decide +kernel) rfl⟩
theorem mt_X1_exploreForth : ca_mt yX1_exploreForth cX1_exploreForth 5 none 0 := ⟨tb (i := 481) (by decide +kernel) rfl, tb (i := 86) (by decide +kernel) rfl, by decide +kernel, by decide +kernel, by decide +kernel⟩
theorem mv_X1_exploreForth : ca_mv yX1_exploreForth := ⟨tb (i := 479) (by decide +kernel) rfl, tb (i := 480) (by decide +kernel) rfl⟩
theorem mt_X1_howMany : ca_mt yX1_howMany cX1_howMany 4 (some .int) 0 := ⟨tb (i := 678) (by decide +kernel) rfl, tb (i := 86) (by decide +kernel) rfl, by decide +kernel, by decide +kernel, by decide +kernel⟩
theorem mv_X1_howMany : ca_mv yX1_howMany := ⟨tb (i := 676) (by decide +kernel) rfl, tb (i := 677) (by decide +kernel) rfl⟩
theorem mt_X1_init : ca_mt yX1_init cX1_init 1 none 0 := ⟨tb (i := 261) (by decide +kernel) rfl, tb (i := 86) (by decide +kernel) rfl, by decide +kernel, by decide +kernel, by decide +kernel⟩
theorem mt_X1_isAllowed : ca_mt yX1_isAllowed cX1_isAllowed 3 (some .boolean) 2 := ⟨tb (i := 686) (by decide +kernel) rfl, tb (i := 86) (by decide +kernel) rfl, by decide +kernel, by decide +kernel, by decide +kernel⟩
theorem mv_X1_isAllowed : ca_mv yX1_isAllowed := ⟨tb (i := 684) (by decide +kernel) rfl, tb (i := 685) (by decide +kernel) rfl⟩
theorem mt_X1_isThereOne : ca_mt yX1_isThereOne cX1_isThereOne 1 (some .boolean) 0 := ⟨tb (i := 654) (by decide +kernel) rfl, tb (i := 86) (by decide +kernel) rfl, by decide +kernel, by decide +kernel, by decide +kernel⟩
theorem mv_X1_isThereOne : ca_mv yX1_isThereOne := ⟨tb (i := 652) (by decide +kernel) rfl, tb (i := 653) (by decide +kernel) rfl⟩
theorem mt_X1_leadOn : ca_mt yX1_leadOn cX1_leadOn 5 none 2 := ⟨tb (i := 693) (by decide +kernel) rfl, tb (i := 86) (by decide +kernel) rfl, by decide +kernel, by decide +kernel, by decide +kernel⟩
theorem mv_X1_leadOn : ca_mv yX1_leadOn := ⟨tb (i := 692) (by decide +kernel) rfl, tb (i := 18) (by decide +kernel) rfl⟩
theorem mt_X1_leadingTo : ca_mt yX1_leadingTo cX1_leadingTo 5 (some .int) 2 := ⟨tb (i := 697) (by decide +kernel) rfl, tb (i := 86) (by decide +kernel) rfl, by decide +kernel, by decide +kernel, by decide +kernel⟩
theorem mv_X1_leadingTo : ca_mv yX1_leadingTo := ⟨tb (i := 696) (by decide +kernel) rfl, tb (i := 19) (by decide +kernel) rfl⟩
theorem mt_X1_leastCost : ca_mt yX1_leastCost cX1_leastCost 4 (some .int) 1 := ⟨tb (i := 523) (by decide +kernel) rfl, tb (i := 86) (by decide +kernel) rfl, by decide +kernel, by decide +kernel, by decide +kernel⟩
theorem mv_X1_leastCost : ca_mv yX1_leastCost := ⟨tb (i := 522) (by decide +kernel) rfl, tb (i := 12) (by decide +kernel) rfl⟩
theorem mt_X1_lookAhead : ca_mt yX1_lookAhead cX1_lookAhead 4 none 2 := ⟨tb (i := 515) (by decide +kernel) rfl, tb (i := 86) (by decide +kernel) rfl, by decide +kernel, by decide +kernel, by decide +kernel⟩
theorem mv_X1_lookAhead : ca_mv yX1_lookAhead := ⟨tb (i := 514) (by decide +kernel) rfl, tb (i := 10) (by decide +kernel) rfl⟩
theorem mt_X1_obey : ca_mt yX1_obey cX1_obey 10 none 2 := ⟨tb (i := 460) (by decide +kernel) rfl, tb (i := 86) (by decide +kernel) rfl, by decide +kernel, by decide +kernel, by decide +kernel⟩
theorem mv_X1_obey : ca_mv yX1_obey := ⟨tb (i := 459) (by decide +kernel) rfl, tb (i := 3) (by decide +kernel) rfl⟩
theorem mt_X1_pay : ca_mt yX1_pay cX1_pay 4 (some .int) 3 := ⟨tb (i := 493) (by decide +kernel) rfl, tb (i := 86) (by decide +kernel) rfl, by decide +kernel, by decide +kernel, by decide +kernel⟩
theorem mv_X1_pay : ca_mv yX1_pay := ⟨tb (i := 492) (by decide +kernel) rfl, tb (i := 6) (by decide +kernel) rfl⟩
theorem mt_X1_placesIn : ca_mt yX1_placesIn cX1_placesIn 6 (some .int) 1 := ⟨tb (i := 527) (by decide +kernel) rfl, tb (i := 86) (by decide +kernel) rfl, by decide +kernel, by decide +kernel, by decide +kernel⟩
theorem mv_X1_placesIn : ca_mv yX1_placesIn := ⟨tb (i := 525) (by decide +kernel) rfl, tb (i := 526) (by decide +kernel) rfl⟩
theorem mt_X1_prepare : ca_mt yX1_prepare cX1_prepare 6 none 4 := ⟨tb (i := 450) (by decide +kernel) rfl, tb (i := 86) (by decide +kernel) rfl, by decide +kernel, by decide +kernel, by decide +kernel⟩
theorem mv_X1_prepare : ca_mv yX1_prepare := ⟨tb (i := 448) (by decide +kernel) rfl, tb (i := 449) (by decide +kernel) rfl⟩
theorem mt_X1_row : ca_mt yX1_row cX1_row 3 (some .int) 2 := ⟨tb (i := 485) (by decide +kernel) rfl, tb (i := 86) (by decide +kernel) rfl, by decide +kernel, by decide +kernel, by decide +kernel⟩
theorem mv_X1_row : ca_mv yX1_row := ⟨tb (i := 484) (by decide +kernel) rfl, tb (i := 4) (by decide +kernel) rfl⟩
theorem mt_X1_setCost : ca_mt yX1_setCost cX1_setCost 5 none 3 := ⟨tb (i := 506) (by decide +kernel) rfl, tb (i := 86) (by decide +kernel) rfl, by decide +kernel, by decide +kernel, by decide +kernel⟩
theorem mv_X1_setCost : ca_mv yX1_setCost := ⟨tb (i := 505) (by decide +kernel) rfl, tb (i := 8) (by decide +kernel) rfl⟩
theorem mt_X1_stepFrom : ca_mt yX1_stepFrom cX1_stepFrom 4 (some .int) 1 := ⟨tb (i := 497) (by decide +kernel) rfl, tb (i := 86) (by decide +kernel) rfl, by decide +kernel, by decide +kernel, by decide +kernel⟩
theorem mv_X1_stepFrom : ca_mv yX1_stepFrom := ⟨tb (i := 496) (by decide +kernel) rfl, tb (i := 7) (by decide +kernel) rfl⟩
theorem mt_X1_tellBest : ca_mt yX1_tellBest cX1_tellBest 6 (some .int) 1 := ⟨tb (i := 658) (by decide +kernel) rfl, tb (i := 86) (by decide +kernel) rfl, by decide +kernel, by decide +kernel, by decide +kernel⟩
theorem mv_X1_tellBest : ca_mv yX1_tellBest := ⟨tb (i := 656) (by decide +kernel) rfl, tb (i := 657) (by decide +kernel) rfl⟩
theorem mt_X1_weigh : ca_mt yX1_weigh cX1_weigh 6 none 2 := ⟨tb (i := 511) (by decide +kernel) rfl, tb (i := 86) (by decide +kernel) rfl, by decide +kernel, by decide +kernel, by decide +kernel⟩
theorem mv_X1_weigh : ca_mv yX1_weigh := ⟨tb (i := 510) (by decide +kernel) rfl, tb (i := 9) (by decide +kernel) rfl⟩
theorem mt_X2_areJoined : ca_mt yX2_areJoined cX2_areJoined 3 (some .boolean) 2 := ⟨tb (i := 357) (by decide +kernel) rfl, tb (i := 80) (by decide +kernel) rfl, by decide +kernel, by decide +kernel, by decide +kernel⟩
theorem mv_X2_areJoined : ca_mv yX2_areJoined := ⟨tb (i := 355) (by decide +kernel) rfl, tb (i := 356) (by decide +kernel) rfl⟩
theorem mt_X2_fewestMoves : ca_mt yX2_fewestMoves cX2_fewestMoves 5 (some .int) 2 := ⟨tb (i := 380) (by decide +kernel) rfl, tb (i := 80) (by decide +kernel) rfl, by decide +kernel, by decide +kernel, by decide +kernel⟩
theorem mv_X2_fewestMoves : ca_mv yX2_fewestMoves := ⟨tb (i := 378) (by decide +kernel) rfl, tb (i := 379) (by decide +kernel) rfl⟩
theorem mt_X2_init : ca_mt yX2_init cX2_init 1 none 0 := ⟨tb (i := 114) (by decide +kernel) rfl, tb (i := 80) (by decide +kernel) rfl, by decide +kernel, by decide +kernel, by decide +kernel⟩
theorem mt_X2_join : ca_mt yX2_join cX2_join 4 none 3 := ⟨tb (i := 364) (by decide +kernel) rfl, tb (i := 80) (by decide +kernel) rfl, by decide +kernel, by decide +kernel, by decide +kernel⟩
theorem mv_X2_join : ca_mv yX2_join := ⟨tb (i := 362) (by decide +kernel) rfl, tb (i := 363) (by decide +kernel) rfl⟩
theorem mt_X2_neighboursOf : ca_mt yX2_neighboursOf cX2_neighboursOf 2 (some .int) 1 := ⟨tb (i := 372) (by decide +kernel) rfl, tb (i := 80) (by decide +kernel) rfl, by decide +kernel, by decide +kernel, by decide +kernel⟩
theorem mv_X2_neighboursOf : ca_mv yX2_neighboursOf := ⟨tb (i := 370) (by decide +kernel) rfl, tb (i := 371) (by decide +kernel) rfl⟩
theorem mt_X2_roadCount : ca_mt yX2_roadCount cX2_roadCount 3 (some .int) 0 := ⟨tb (i := 1105) (by decide +kernel) rfl, tb (i := 80) (by decide +kernel) rfl, by decide +kernel, by decide +kernel, by decide +kernel⟩
theorem mv_X2_roadCount : ca_mv yX2_roadCount := ⟨tb (i := 1103) (by decide +kernel) rfl, tb (i := 1104) (by decide +kernel) rfl⟩
theorem mt_X2_stepFrom : ca_mt yX2_stepFrom cX2_stepFrom 4 (some .int) 1 := ⟨tb (i := 384) (by decide +kernel) rfl, tb (i := 80) (by decide +kernel) rfl, by decide +kernel, by decide +kernel, by decide +kernel⟩
theorem mv_X2_stepFrom : ca_mv yX2_stepFrom := ⟨tb (i := 382) (by decide +kernel) rfl, tb (i := 383) (by decide +kernel) rfl⟩
theorem mt_X2_takeFrom : ca_mt yX2_takeFrom cX2_takeFrom 2 none 1 := ⟨tb (i := 1071) (by decide +kernel) rfl, tb (i := 80) (by decide +kernel) rfl, by decide +kernel, by decide +kernel, by decide +kernel⟩
theorem mv_X2_takeFrom : ca_mv yX2_takeFrom := ⟨tb (i := 1069) (by decide +kernel) rfl, tb (i := 1070) (by decide +kernel) rfl⟩
theorem mt_X3_advance : ca_mt yX3_advance cX3_advance 2 none 0 := ⟨tb (i := 852) (by decide +kernel) rfl, tb (i := 84) (by decide +kernel) rfl, by decide +kernel, by decide +kernel, by decide +kernel⟩
theorem mv_X3_advance : ca_mv yX3_advance := ⟨tb (i := 851) (by decide +kernel) rfl, tb (i := 20) (by decide +kernel) rfl⟩
theorem mt_X3_clear : ca_mt yX3_clear cX3_clear 1 none 0 := ⟨tb (i := 835) (by decide +kernel) rfl, tb (i := 84) (by decide +kernel) rfl, by decide +kernel, by decide +kernel, by decide +kernel⟩
theorem mv_X3_clear : ca_mv yX3_clear := ⟨tb (i := 833) (by decide +kernel) rfl, tb (i := 834) (by decide +kernel) rfl⟩
theorem mt_X3_findFault : ca_mt yX3_findFault cX3_findFault 3 (some .int) 1 := ⟨tb (i := 843) (by decide +kernel) rfl, tb (i := 84) (by decide +kernel) rfl, by decide +kernel, by decide +kernel, by decide +kernel⟩
theorem mv_X3_findFault : ca_mv yX3_findFault := ⟨tb (i := 841) (by decide +kernel) rfl, tb (i := 842) (by decide +kernel) rfl⟩
theorem mt_X3_init : ca_mt yX3_init cX3_init 1 none 0 := ⟨tb (i := 205) (by decide +kernel) rfl, tb (i := 84) (by decide +kernel) rfl, by decide +kernel, by decide +kernel, by decide +kernel⟩
theorem mt_X3_isTokenText : ca_mt yX3_isTokenText cX3_isTokenText 3 (some .boolean) 1 := ⟨tb (i := 870) (by decide +kernel) rfl, tb (i := 84) (by decide +kernel) rfl, by decide +kernel, by decide +kernel, by decide +kernel⟩
theorem mv_X3_isTokenText : ca_mv yX3_isTokenText := ⟨tb (i := 869) (by decide +kernel) rfl, tb (i := 24) (by decide +kernel) rfl⟩
theorem mt_X3_item : ca_mt yX3_item cX3_item 3 (some .int) 2 := ⟨tb (i := 965) (by decide +kernel) rfl, tb (i := 84) (by decide +kernel) rfl, by decide +kernel, by decide +kernel, by decide +kernel⟩
theorem mv_X3_item : ca_mv yX3_item := ⟨tb (i := 963) (by decide +kernel) rfl, tb (i := 964) (by decide +kernel) rfl⟩
theorem mt_X3_itemCount : ca_mt yX3_itemCount cX3_itemCount 1 (some .int) 0 := ⟨tb (i := 957) (by decide +kernel) rfl, tb (i := 84) (by decide +kernel) rfl, by decide +kernel, by decide +kernel, by decide +kernel⟩
theorem mv_X3_itemCount : ca_mv yX3_itemCount := ⟨tb (i := 955) (by decide +kernel) rfl, tb (i := 956) (by decide +kernel) rfl⟩
theorem mt_X3_kindOfWord : ca_mt yX3_kindOfWord cX3_kindOfWord 2 (some .int) 0 := ⟨tb (i := 939) (by decide +kernel) rfl, tb (i := 84) (by decide +kernel) rfl, by decide +kernel, by decide +kernel, by decide +kernel⟩
theorem mv_X3_kindOfWord : ca_mv yX3_kindOfWord := ⟨tb (i := 938) (by decide +kernel) rfl, tb (i := 29) (by decide +kernel) rfl⟩
theorem mt_X3_kindText : ca_mt yX3_kindText cX3_kindText 1 (some (.object "java/lang/String")) 1 := ⟨tb (i := 942) (by decide +kernel) rfl, tb (i := 84) (by decide +kernel) rfl, by decide +kernel, by decide +kernel, by decide +kernel⟩
theorem ms_X3_kindText : Cond.static yX3_kindText ∈ T0 := tb (i := 941) (by decide +kernel) rfl
theorem mt_X3_put : ca_mt yX3_put cX3_put 2 none 1 := ⟨tb (i := 823) (by decide +kernel) rfl, tb (i := 84) (by decide +kernel) rfl, by decide +kernel, by decide +kernel, by decide +kernel⟩
theorem mv_X3_put : ca_mv yX3_put := ⟨tb (i := 821) (by decide +kernel) rfl, tb (i := 822) (by decide +kernel) rfl⟩
theorem mt_X3_readItem : ca_mt yX3_readItem cX3_readItem 3 none 0 := ⟨tb (i := 861) (by decide +kernel) rfl, tb (i := 84) (by decide +kernel) rfl, by decide +kernel, by decide +kernel, by decide +kernel⟩
theorem mv_X3_readItem : ca_mv yX3_readItem := ⟨tb (i := 860) (by decide +kernel) rfl, tb (i := 22) (by decide +kernel) rfl⟩
theorem mt_X3_readTerm : ca_mt yX3_readTerm cX3_readTerm 11 none 0 := ⟨tb (i := 935) (by decide +kernel) rfl, tb (i := 84) (by decide +kernel) rfl, by decide +kernel, by decide +kernel, by decide +kernel⟩
theorem mv_X3_readTerm : ca_mv yX3_readTerm := ⟨tb (i := 934) (by decide +kernel) rfl, tb (i := 28) (by decide +kernel) rfl⟩
theorem mt_X3_refuse : ca_mt yX3_refuse cX3_refuse 1 (some .int) 0 := ⟨tb (i := 926) (by decide +kernel) rfl, tb (i := 84) (by decide +kernel) rfl, by decide +kernel, by decide +kernel, by decide +kernel⟩
theorem mv_X3_refuse : ca_mv yX3_refuse := ⟨tb (i := 925) (by decide +kernel) rfl, tb (i := 26) (by decide +kernel) rfl⟩
theorem mt_X3_room : ca_mt yX3_room cX3_room 1 (some .int) 0 := ⟨tb (i := 819) (by decide +kernel) rfl, tb (i := 84) (by decide +kernel) rfl, by decide +kernel, by decide +kernel, by decide +kernel⟩
theorem mv_X3_room : ca_mv yX3_room := ⟨tb (i := 817) (by decide +kernel) rfl, tb (i := 818) (by decide +kernel) rfl⟩
theorem mt_X3_setDown : ca_mt yX3_setDown cX3_setDown 5 none 3 := ⟨tb (i := 930) (by decide +kernel) rfl, tb (i := 84) (by decide +kernel) rfl, by decide +kernel, by decide +kernel, by decide +kernel⟩
theorem mv_X3_setDown : ca_mv yX3_setDown := ⟨tb (i := 929) (by decide +kernel) rfl, tb (i := 27) (by decide +kernel) rfl⟩
theorem mt_X3_size : ca_mt yX3_size cX3_size 1 (some .int) 0 := ⟨tb (i := 827) (by decide +kernel) rfl, tb (i := 84) (by decide +kernel) rfl, by decide +kernel, by decide +kernel, by decide +kernel⟩
theorem mv_X3_size : ca_mv yX3_size := ⟨tb (i := 825) (by decide +kernel) rfl, tb (i := 826) (by decide +kernel) rfl⟩
theorem mt_X3_sortAt : ca_mt yX3_sortAt cX3_sortAt 3 (some .int) 1 := ⟨tb (i := 856) (by decide +kernel) rfl, tb (i := 84) (by decide +kernel) rfl, by decide +kernel, by decide +kernel, by decide +kernel⟩
theorem mv_X3_sortAt : ca_mv yX3_sortAt := ⟨tb (i := 855) (by decide +kernel) rfl, tb (i := 21) (by decide +kernel) rfl⟩
theorem mt_X3_takeNumber : ca_mt yX3_takeNumber cX3_takeNumber 4 (some .int) 2 := ⟨tb (i := 922) (by decide +kernel) rfl, tb (i := 84) (by decide +kernel) rfl, by decide +kernel, by decide +kernel, by decide +kernel⟩
theorem mv_X3_takeNumber : ca_mv yX3_takeNumber := ⟨tb (i := 921) (by decide +kernel) rfl, tb (i := 25) (by decide +kernel) rfl⟩
theorem mt_X3_takeWord : ca_mt yX3_takeWord cX3_takeWord 2 (some .boolean) 1 := ⟨tb (i := 866) (by decide +kernel) rfl, tb (i := 84) (by decide +kernel) rfl, by decide +kernel, by decide +kernel, by decide +kernel⟩
theorem mv_X3_takeWord : ca_mv yX3_takeWord := ⟨tb (i := 865) (by decide +kernel) rfl, tb (i := 23) (by decide +kernel) rfl⟩
theorem mt_X4_areBits : ca_mt yX4_areBits cX4_areBits 1 (some .boolean) 1 := ⟨tb (i := 997) (by decide +kernel) rfl, tb (i := 85) (by decide +kernel) rfl, by decide +kernel, by decide +kernel, by decide +kernel⟩
theorem ms_X4_areBits : Cond.static yX4_areBits ∈ T0 := tb (i := 996) (by decide +kernel) rfl
theorem mt_X4_bitsOf : ca_mt yX4_bitsOf cX4_bitsOf 2 (some .int) 1 := ⟨tb (i := 1025) (by decide +kernel) rfl, tb (i := 85) (by decide +kernel) rfl, by decide +kernel, by decide +kernel, by decide +kernel⟩
theorem mv_X4_bitsOf : ca_mv yX4_bitsOf := ⟨tb (i := 1023) (by decide +kernel) rfl, tb (i := 1024) (by decide +kernel) rfl⟩
theorem mt_X4_get : ca_mt yX4_get cX4_get 3 (some .int) 2 := ⟨tb (i := 1042) (by decide +kernel) rfl, tb (i := 85) (by decide +kernel) rfl, by decide +kernel, by decide +kernel, by decide +kernel⟩
theorem mv_X4_get : ca_mv yX4_get := ⟨tb (i := 1040) (by decide +kernel) rfl, tb (i := 1041) (by decide +kernel) rfl⟩
theorem mt_X4_hasPart : ca_mt yX4_hasPart cX4_hasPart 4 (some .boolean) 3 := ⟨tb (i := 1029) (by decide +kernel) rfl, tb (i := 85) (by decide +kernel) rfl, by decide +kernel, by decide +kernel, by decide +kernel⟩
theorem mv_X4_hasPart : ca_mv yX4_hasPart := ⟨tb (i := 1027) (by decide +kernel) rfl, tb (i := 1028) (by decide +kernel) rfl⟩
theorem mt_X4_init : ca_mt yX4_init cX4_init 1 none 0 := ⟨tb (i := 245) (by decide +kernel) rfl, tb (i := 85) (by decide +kernel) rfl, by decide +kernel, by decide +kernel, by decide +kernel⟩
theorem mt_X4_isMissing : ca_mt yX4_isMissing cX4_isMissing 2 (some .boolean) 1 := ⟨tb (i := 1013) (by decide +kernel) rfl, tb (i := 85) (by decide +kernel) rfl, by decide +kernel, by decide +kernel, by decide +kernel⟩
theorem mv_X4_isMissing : ca_mv yX4_isMissing := ⟨tb (i := 1011) (by decide +kernel) rfl, tb (i := 1012) (by decide +kernel) rfl⟩
theorem mt_X4_isSheet : ca_mt yX4_isSheet cX4_isSheet 1 (some .boolean) 1 := ⟨tb (i := 994) (by decide +kernel) rfl, tb (i := 85) (by decide +kernel) rfl, by decide +kernel, by decide +kernel, by decide +kernel⟩
theorem ms_X4_isSheet : Cond.static yX4_isSheet ∈ T0 := tb (i := 993) (by decide +kernel) rfl
theorem mt_X4_lay : ca_mt yX4_lay cX4_lay 5 none 3 := ⟨tb (i := 1001) (by decide +kernel) rfl, tb (i := 85) (by decide +kernel) rfl, by decide +kernel, by decide +kernel, by decide +kernel⟩
theorem mv_X4_lay : ca_mv yX4_lay := ⟨tb (i := 999) (by decide +kernel) rfl, tb (i := 1000) (by decide +kernel) rfl⟩
theorem mt_X4_move : ca_mt yX4_move cX4_move 6 none 5 := ⟨tb (i := 1033) (by decide +kernel) rfl, tb (i := 85) (by decide +kernel) rfl, by decide +kernel, by decide +kernel, by decide +kernel⟩
theorem mv_X4_move : ca_mv yX4_move := ⟨tb (i := 1031) (by decide +kernel) rfl, tb (i := 1032) (by decide +kernel) rfl⟩
theorem mt_X4_set : ca_mt yX4_set cX4_set 5 none 3 := ⟨tb (i := 1017) (by decide +kernel) rfl, tb (i := 85) (by decide +kernel) rfl, by decide +kernel, by decide +kernel, by decide +kernel⟩
theorem mv_X4_set : ca_mv yX4_set := ⟨tb (i := 1015) (by decide +kernel) rfl, tb (i := 1016) (by decide +kernel) rfl⟩
theorem mt_X4_size : ca_mt yX4_size cX4_size 2 (some .int) 1 := ⟨tb (i := 1005) (by decide +kernel) rfl, tb (i := 85) (by decide +kernel) rfl, by decide +kernel, by decide +kernel, by decide +kernel⟩
theorem mv_X4_size : ca_mv yX4_size := ⟨tb (i := 1003) (by decide +kernel) rfl, tb (i := 1004) (by decide +kernel) rfl⟩
theorem mt_X5_add : ca_mt yX5_add cX5_add 6 (some .int) 4 := ⟨tb (i := 408) (by decide +kernel) rfl, tb (i := 81) (by decide +kernel) rfl, by decide +kernel, by decide +kernel, by decide +kernel⟩
theorem mv_X5_add : ca_mv yX5_add := ⟨tb (i := 406) (by decide +kernel) rfl, tb (i := 407) (by decide +kernel) rfl⟩
theorem mt_X5_counts : ca_mt yX5_counts cX5_counts 2 (some .boolean) 1 := ⟨tb (i := 420) (by decide +kernel) rfl, tb (i := 81) (by decide +kernel) rfl, by decide +kernel, by decide +kernel, by decide +kernel⟩
theorem mv_X5_counts : ca_mv yX5_counts := ⟨tb (i := 418) (by decide +kernel) rfl, tb (i := 419) (by decide +kernel) rfl⟩
theorem mt_X5_field : ca_mt yX5_field cX5_field 3 (some .int) 2 := ⟨tb (i := 424) (by decide +kernel) rfl, tb (i := 81) (by decide +kernel) rfl, by decide +kernel, by decide +kernel, by decide +kernel⟩
theorem mv_X5_field : ca_mv yX5_field := ⟨tb (i := 422) (by decide +kernel) rfl, tb (i := 423) (by decide +kernel) rfl⟩
theorem mt_X5_hasRoom : ca_mt yX5_hasRoom cX5_hasRoom 1 (some .boolean) 0 := ⟨tb (i := 404) (by decide +kernel) rfl, tb (i := 81) (by decide +kernel) rfl, by decide +kernel, by decide +kernel, by decide +kernel⟩
theorem mv_X5_hasRoom : ca_mv yX5_hasRoom := ⟨tb (i := 402) (by decide +kernel) rfl, tb (i := 403) (by decide +kernel) rfl⟩
theorem mt_X5_init : ca_mt yX5_init cX5_init 1 none 0 := ⟨tb (i := 125) (by decide +kernel) rfl, tb (i := 81) (by decide +kernel) rfl, by decide +kernel, by decide +kernel, by decide +kernel⟩
theorem mt_X5_isOf : ca_mt yX5_isOf cX5_isOf 4 (some .boolean) 3 := ⟨tb (i := 432) (by decide +kernel) rfl, tb (i := 81) (by decide +kernel) rfl, by decide +kernel, by decide +kernel, by decide +kernel⟩
theorem mv_X5_isOf : ca_mv yX5_isOf := ⟨tb (i := 431) (by decide +kernel) rfl, tb (i := 1) (by decide +kernel) rfl⟩
theorem mt_X5_latest : ca_mt yX5_latest cX5_latest 5 (some .int) 3 := ⟨tb (i := 428) (by decide +kernel) rfl, tb (i := 81) (by decide +kernel) rfl, by decide +kernel, by decide +kernel, by decide +kernel⟩
theorem mv_X5_latest : ca_mv yX5_latest := ⟨tb (i := 426) (by decide +kernel) rfl, tb (i := 427) (by decide +kernel) rfl⟩
theorem mt_X5_pin : ca_mt yX5_pin cX5_pin 5 none 3 := ⟨tb (i := 454) (by decide +kernel) rfl, tb (i := 81) (by decide +kernel) rfl, by decide +kernel, by decide +kernel, by decide +kernel⟩
theorem mv_X5_pin : ca_mv yX5_pin := ⟨tb (i := 452) (by decide +kernel) rfl, tb (i := 453) (by decide +kernel) rfl⟩
theorem mt_X5_size : ca_mt yX5_size cX5_size 1 (some .int) 0 := ⟨tb (i := 416) (by decide +kernel) rfl, tb (i := 81) (by decide +kernel) rfl, by decide +kernel, by decide +kernel, by decide +kernel⟩
theorem mv_X5_size : ca_mv yX5_size := ⟨tb (i := 414) (by decide +kernel) rfl, tb (i := 415) (by decide +kernel) rfl⟩
theorem mt_X5_takeFrom : ca_mt yX5_takeFrom cX5_takeFrom 2 none 1 := ⟨tb (i := 1076) (by decide +kernel) rfl, tb (i := 81) (by decide +kernel) rfl, by decide +kernel, by decide +kernel, by decide +kernel⟩
theorem mv_X5_takeFrom : ca_mv yX5_takeFrom := ⟨tb (i := 1074) (by decide +kernel) rfl, tb (i := 1075) (by decide +kernel) rfl⟩
theorem mt_X6_backedBy : ca_mt yX6_backedBy cX6_backedBy 2 (some .int) 1 := ⟨tb (i := 794) (by decide +kernel) rfl, tb (i := 83) (by decide +kernel) rfl, by decide +kernel, by decide +kernel, by decide +kernel⟩
theorem mv_X6_backedBy : ca_mv yX6_backedBy := ⟨tb (i := 792) (by decide +kernel) rfl, tb (i := 793) (by decide +kernel) rfl⟩
theorem mt_X6_bailOf : ca_mt yX6_bailOf cX6_bailOf 2 (some .int) 1 := ⟨tb (i := 760) (by decide +kernel) rfl, tb (i := 83) (by decide +kernel) rfl, by decide +kernel, by decide +kernel, by decide +kernel⟩
theorem mv_X6_bailOf : ca_mv yX6_bailOf := ⟨tb (i := 758) (by decide +kernel) rfl, tb (i := 759) (by decide +kernel) rfl⟩
theorem mt_X6_giveBack : ca_mt yX6_giveBack cX6_giveBack 5 (some .int) 1 := ⟨tb (i := 782) (by decide +kernel) rfl, tb (i := 83) (by decide +kernel) rfl, by decide +kernel, by decide +kernel, by decide +kernel⟩
theorem mv_X6_giveBack : ca_mv yX6_giveBack := ⟨tb (i := 780) (by decide +kernel) rfl, tb (i := 781) (by decide +kernel) rfl⟩
theorem mt_X6_givenBy : ca_mt yX6_givenBy cX6_givenBy 4 (some .int) 1 := ⟨tb (i := 740) (by decide +kernel) rfl, tb (i := 83) (by decide +kernel) rfl, by decide +kernel, by decide +kernel, by decide +kernel⟩
theorem mv_X6_givenBy : ca_mv yX6_givenBy := ⟨tb (i := 738) (by decide +kernel) rfl, tb (i := 739) (by decide +kernel) rfl⟩
theorem mt_X6_givenFor : ca_mt yX6_givenFor cX6_givenFor 4 (some .int) 1 := ⟨tb (i := 756) (by decide +kernel) rfl, tb (i := 83) (by decide +kernel) rfl, by decide +kernel, by decide +kernel, by decide +kernel⟩
theorem mv_X6_givenFor : ca_mv yX6_givenFor := ⟨tb (i := 754) (by decide +kernel) rfl, tb (i := 755) (by decide +kernel) rfl⟩
theorem mt_X6_givenOf : ca_mt yX6_givenOf cX6_givenOf 3 (some .int) 2 := ⟨tb (i := 744) (by decide +kernel) rfl, tb (i := 83) (by decide +kernel) rfl, by decide +kernel, by decide +kernel, by decide +kernel⟩
theorem mv_X6_givenOf : ca_mv yX6_givenOf := ⟨tb (i := 742) (by decide +kernel) rfl, tb (i := 743) (by decide +kernel) rfl⟩
theorem mt_X6_init : ca_mt yX6_init cX6_init 1 none 0 := ⟨tb (i := 151) (by decide +kernel) rfl, tb (i := 83) (by decide +kernel) rfl, by decide +kernel, by decide +kernel, by decide +kernel⟩
theorem mt_X6_roomOf : ca_mt yX6_roomOf cX6_roomOf 2 (some .int) 1 := ⟨tb (i := 790) (by decide +kernel) rfl, tb (i := 83) (by decide +kernel) rfl, by decide +kernel, by decide +kernel, by decide +kernel⟩
theorem mv_X6_roomOf : ca_mv yX6_roomOf := ⟨tb (i := 788) (by decide +kernel) rfl, tb (i := 789) (by decide +kernel) rfl⟩
theorem mt_X6_roomOfAll : ca_mt yX6_roomOfAll cX6_roomOfAll 3 (some .int) 0 := ⟨tb (i := 1119) (by decide +kernel) rfl, tb (i := 83) (by decide +kernel) rfl, by decide +kernel, by decide +kernel, by decide +kernel⟩
theorem mv_X6_roomOfAll : ca_mv yX6_roomOfAll := ⟨tb (i := 1117) (by decide +kernel) rfl, tb (i := 1118) (by decide +kernel) rfl⟩
theorem mt_X6_setBail : ca_mt yX6_setBail cX6_setBail 3 none 2 := ⟨tb (i := 764) (by decide +kernel) rfl, tb (i := 83) (by decide +kernel) rfl, by decide +kernel, by decide +kernel, by decide +kernel⟩
theorem mv_X6_setBail : ca_mv yX6_setBail := ⟨tb (i := 762) (by decide +kernel) rfl, tb (i := 763) (by decide +kernel) rfl⟩
theorem mt_X6_setUp : ca_mt yX6_setUp cX6_setUp 4 none 3 := ⟨tb (i := 748) (by decide +kernel) rfl, tb (i := 83) (by decide +kernel) rfl, by decide +kernel, by decide +kernel, by decide +kernel⟩
theorem mv_X6_setUp : ca_mv yX6_setUp := ⟨tb (i := 746) (by decide +kernel) rfl, tb (i := 747) (by decide +kernel) rfl⟩
theorem mt_X6_takeBail : ca_mt yX6_takeBail cX6_takeBail 5 (some .int) 1 := ⟨tb (i := 772) (by decide +kernel) rfl, tb (i := 83) (by decide +kernel) rfl, by decide +kernel, by decide +kernel, by decide +kernel⟩
theorem mv_X6_takeBail : ca_mv yX6_takeBail := ⟨tb (i := 770) (by decide +kernel) rfl, tb (i := 771) (by decide +kernel) rfl⟩
theorem mt_X6_takeFrom : ca_mt yX6_takeFrom cX6_takeFrom 2 none 1 := ⟨tb (i := 1086) (by decide +kernel) rfl, tb (i := 83) (by decide +kernel) rfl, by decide +kernel, by decide +kernel, by decide +kernel⟩
theorem mv_X6_takeFrom : ca_mv yX6_takeFrom := ⟨tb (i := 1084) (by decide +kernel) rfl, tb (i := 1085) (by decide +kernel) rfl⟩
theorem mt_X7_add : ca_mt yX7_add cX7_add 5 (some .int) 3 := ⟨tb (i := 558) (by decide +kernel) rfl, tb (i := 82) (by decide +kernel) rfl, by decide +kernel, by decide +kernel, by decide +kernel⟩
theorem mv_X7_add : ca_mv yX7_add := ⟨tb (i := 556) (by decide +kernel) rfl, tb (i := 557) (by decide +kernel) rfl⟩
theorem mt_X7_asked : ca_mt yX7_asked cX7_asked 2 (some .int) 1 := ⟨tb (i := 473) (by decide +kernel) rfl, tb (i := 82) (by decide +kernel) rfl, by decide +kernel, by decide +kernel, by decide +kernel⟩
theorem mv_X7_asked : ca_mv yX7_asked := ⟨tb (i := 471) (by decide +kernel) rfl, tb (i := 472) (by decide +kernel) rfl⟩
theorem mt_X7_binding : ca_mt yX7_binding cX7_binding 5 (some .int) 2 := ⟨tb (i := 607) (by decide +kernel) rfl, tb (i := 82) (by decide +kernel) rfl, by decide +kernel, by decide +kernel, by decide +kernel⟩
theorem mv_X7_binding : ca_mv yX7_binding := ⟨tb (i := 605) (by decide +kernel) rfl, tb (i := 606) (by decide +kernel) rfl⟩
theorem mt_X7_field : ca_mt yX7_field cX7_field 3 (some .int) 2 := ⟨tb (i := 468) (by decide +kernel) rfl, tb (i := 82) (by decide +kernel) rfl, by decide +kernel, by decide +kernel, by decide +kernel⟩
theorem mv_X7_field : ca_mv yX7_field := ⟨tb (i := 466) (by decide +kernel) rfl, tb (i := 467) (by decide +kernel) rfl⟩
theorem mt_X7_hasRoomFor : ca_mt yX7_hasRoomFor cX7_hasRoomFor 2 (some .boolean) 1 := ⟨tb (i := 550) (by decide +kernel) rfl, tb (i := 82) (by decide +kernel) rfl, by decide +kernel, by decide +kernel, by decide +kernel⟩
theorem mv_X7_hasRoomFor : ca_mv yX7_hasRoomFor := ⟨tb (i := 548) (by decide +kernel) rfl, tb (i := 549) (by decide +kernel) rfl⟩
theorem mt_X7_howManyOf : ca_mt yX7_howManyOf cX7_howManyOf 4 (some .int) 1 := ⟨tb (i := 554) (by decide +kernel) rfl, tb (i := 82) (by decide +kernel) rfl, by decide +kernel, by decide +kernel, by decide +kernel⟩
theorem mv_X7_howManyOf : ca_mv yX7_howManyOf := ⟨tb (i := 552) (by decide +kernel) rfl, tb (i := 553) (by decide +kernel) rfl⟩
theorem mt_X7_init : ca_mt yX7_init cX7_init 1 none 0 := ⟨tb (i := 138) (by decide +kernel) rfl, tb (i := 82) (by decide +kernel) rfl, by decide +kernel, by decide +kernel, by decide +kernel⟩
theorem mt_X7_isBinding : ca_mt yX7_isBinding cX7_isBinding 3 (some .boolean) 2 := ⟨tb (i := 611) (by decide +kernel) rfl, tb (i := 82) (by decide +kernel) rfl, by decide +kernel, by decide +kernel, by decide +kernel⟩
theorem mv_X7_isBinding : ca_mv yX7_isBinding := ⟨tb (i := 609) (by decide +kernel) rfl, tb (i := 610) (by decide +kernel) rfl⟩
theorem mt_X7_isKind : ca_mt yX7_isKind cX7_isKind 1 (some .boolean) 1 := ⟨tb (i := 546) (by decide +kernel) rfl, tb (i := 82) (by decide +kernel) rfl, by decide +kernel, by decide +kernel, by decide +kernel⟩
theorem ms_X7_isKind : Cond.static yX7_isKind ∈ T0 := tb (i := 545) (by decide +kernel) rfl
theorem mt_X7_isOfKind : ca_mt yX7_isOfKind cX7_isOfKind 5 (some .boolean) 2 := ⟨tb (i := 985) (by decide +kernel) rfl, tb (i := 82) (by decide +kernel) rfl, by decide +kernel, by decide +kernel, by decide +kernel⟩
theorem mv_X7_isOfKind : ca_mv yX7_isOfKind := ⟨tb (i := 983) (by decide +kernel) rfl, tb (i := 984) (by decide +kernel) rfl⟩
theorem mt_X7_isTerm : ca_mt yX7_isTerm cX7_isTerm 2 (some .boolean) 1 := ⟨tb (i := 574) (by decide +kernel) rfl, tb (i := 82) (by decide +kernel) rfl, by decide +kernel, by decide +kernel, by decide +kernel⟩
theorem mv_X7_isTerm : ca_mv yX7_isTerm := ⟨tb (i := 572) (by decide +kernel) rfl, tb (i := 573) (by decide +kernel) rfl⟩
theorem mt_X7_setDays : ca_mt yX7_setDays cX7_setDays 4 none 3 := ⟨tb (i := 566) (by decide +kernel) rfl, tb (i := 82) (by decide +kernel) rfl, by decide +kernel, by decide +kernel, by decide +kernel⟩
theorem mv_X7_setDays : ca_mv yX7_setDays := ⟨tb (i := 564) (by decide +kernel) rfl, tb (i := 565) (by decide +kernel) rfl⟩
theorem mt_X7_setHours : ca_mt yX7_setHours cX7_setHours 4 none 3 := ⟨tb (i := 562) (by decide +kernel) rfl, tb (i := 82) (by decide +kernel) rfl, by decide +kernel, by decide +kernel, by decide +kernel⟩
theorem mv_X7_setHours : ca_mv yX7_setHours := ⟨tb (i := 560) (by decide +kernel) rfl, tb (i := 561) (by decide +kernel) rfl⟩
theorem mt_X7_setKind : ca_mt yX7_setKind cX7_setKind 3 none 2 := ⟨tb (i := 590) (by decide +kernel) rfl, tb (i := 82) (by decide +kernel) rfl, by decide +kernel, by decide +kernel, by decide +kernel⟩
theorem mv_X7_setKind : ca_mv yX7_setKind := ⟨tb (i := 588) (by decide +kernel) rfl, tb (i := 589) (by decide +kernel) rfl⟩
theorem mt_X7_size : ca_mt yX7_size cX7_size 1 (some .int) 0 := ⟨tb (i := 847) (by decide +kernel) rfl, tb (i := 82) (by decide +kernel) rfl, by decide +kernel, by decide +kernel, by decide +kernel⟩
theorem mv_X7_size : ca_mv yX7_size := ⟨tb (i := 845) (by decide +kernel) rfl, tb (i := 846) (by decide +kernel) rfl⟩
theorem mt_X7_takeFrom : ca_mt yX7_takeFrom cX7_takeFrom 2 none 1 := ⟨tb (i := 1081) (by decide +kernel) rfl, tb (i := 82) (by decide +kernel) rfl, by decide +kernel, by decide +kernel, by decide +kernel⟩
theorem mv_X7_takeFrom : ca_mv yX7_takeFrom := ⟨tb (i := 1079) (by decide +kernel) rfl, tb (i := 1080) (by decide +kernel) rfl⟩
theorem mt_X8_goThrough : ca_mt yX8_goThrough cX8_goThrough 10 none 3 := ⟨tb (i := 627) (by decide +kernel) rfl, tb (i := 87) (by decide +kernel) rfl, by decide +kernel, by decide +kernel, by decide +kernel⟩
theorem mv_X8_goThrough : ca_mv yX8_goThrough := ⟨tb (i := 626) (by decide +kernel) rfl, tb (i := 13) (by decide +kernel) rfl⟩
theorem mt_X8_init : ca_mt yX8_init cX8_init 1 none 0 := ⟨tb (i := 299) (by decide +kernel) rfl, tb (i := 87) (by decide +kernel) rfl, by decide +kernel, by decide +kernel, by decide +kernel⟩
theorem mt_X8_verdict : ca_mt yX8_verdict cX8_verdict 5 (some .int) 3 := ⟨tb (i := 620) (by decide +kernel) rfl, tb (i := 87) (by decide +kernel) rfl, by decide +kernel, by decide +kernel, by decide +kernel⟩
theorem mv_X8_verdict : ca_mv yX8_verdict := ⟨tb (i := 618) (by decide +kernel) rfl, tb (i := 619) (by decide +kernel) rfl⟩
theorem mt_X9_addTermOf : ca_mt yX9_addTermOf cX9_addTermOf 5 none 3 := ⟨tb (i := 969) (by decide +kernel) rfl, tb (i := 78) (by decide +kernel) rfl, by decide +kernel, by decide +kernel, by decide +kernel⟩
theorem mv_X9_addTermOf : ca_mv yX9_addTermOf := ⟨tb (i := 968) (by decide +kernel) rfl, tb (i := 31) (by decide +kernel) rfl⟩
theorem mt_X9_areRiskBounds : ca_mt yX9_areRiskBounds cX9_areRiskBounds 2 (some .boolean) 2 := ⟨tb (i := 712) (by decide +kernel) rfl, tb (i := 78) (by decide +kernel) rfl, by decide +kernel, by decide +kernel, by decide +kernel⟩
theorem ms_X9_areRiskBounds : Cond.static yX9_areRiskBounds ∈ T0 := tb (i := 711) (by decide +kernel) rfl
theorem mt_X9_as : ca_mt yX9_as cX9_as 4 (some .int) 2 := ⟨tb (i := 981) (by decide +kernel) rfl, tb (i := 78) (by decide +kernel) rfl, by decide +kernel, by decide +kernel, by decide +kernel⟩
theorem mv_X9_as : ca_mv yX9_as := ⟨tb (i := 979) (by decide +kernel) rfl, tb (i := 980) (by decide +kernel) rfl⟩
theorem mt_X9_at : ca_mt yX9_at cX9_at 2 (some .int) 1 := ⟨tb (i := 666) (by decide +kernel) rfl, tb (i := 78) (by decide +kernel) rfl, by decide +kernel, by decide +kernel, by decide +kernel⟩
theorem mv_X9_at : ca_mv yX9_at := ⟨tb (i := 664) (by decide +kernel) rfl, tb (i := 665) (by decide +kernel) rfl⟩
theorem mt_X9_back : ca_mt yX9_back cX9_back 2 (some .int) 1 := ⟨tb (i := 778) (by decide +kernel) rfl, tb (i := 78) (by decide +kernel) rfl, by decide +kernel, by decide +kernel, by decide +kernel⟩
theorem mv_X9_back : ca_mv yX9_back := ⟨tb (i := 776) (by decide +kernel) rfl, tb (i := 777) (by decide +kernel) rfl⟩
theorem mt_X9_bad : ca_mt yX9_bad cX9_bad 2 (some .int) 1 := ⟨tb (i := 598) (by decide +kernel) rfl, tb (i := 78) (by decide +kernel) rfl, by decide +kernel, by decide +kernel, by decide +kernel⟩
theorem mv_X9_bad : ca_mv yX9_bad := ⟨tb (i := 596) (by decide +kernel) rfl, tb (i := 597) (by decide +kernel) rfl⟩
theorem mt_X9_bail : ca_mt yX9_bail cX9_bail 4 (some .int) 2 := ⟨tb (i := 752) (by decide +kernel) rfl, tb (i := 78) (by decide +kernel) rfl, by decide +kernel, by decide +kernel, by decide +kernel⟩
theorem mv_X9_bail : ca_mv yX9_bail := ⟨tb (i := 750) (by decide +kernel) rfl, tb (i := 751) (by decide +kernel) rfl⟩
theorem mt_X9_bars : ca_mt yX9_bars cX9_bars 5 (some .int) 2 := ⟨tb (i := 705) (by decide +kernel) rfl, tb (i := 78) (by decide +kernel) rfl, by decide +kernel, by decide +kernel, by decide +kernel⟩
theorem mv_X9_bars : ca_mv yX9_bars := ⟨tb (i := 703) (by decide +kernel) rfl, tb (i := 704) (by decide +kernel) rfl⟩
theorem mt_X9_breach : ca_mt yX9_breach cX9_breach 4 (some .int) 2 := ⟨tb (i := 637) (by decide +kernel) rfl, tb (i := 78) (by decide +kernel) rfl, by decide +kernel, by decide +kernel, by decide +kernel⟩
theorem mv_X9_breach : ca_mv yX9_breach := ⟨tb (i := 635) (by decide +kernel) rfl, tb (i := 636) (by decide +kernel) rfl⟩
theorem mt_X9_call : ca_mt yX9_call cX9_call 2 (some .int) 1 := ⟨tb (i := 768) (by decide +kernel) rfl, tb (i := 78) (by decide +kernel) rfl, by decide +kernel, by decide +kernel, by decide +kernel⟩
theorem mv_X9_call : ca_mv yX9_call := ⟨tb (i := 766) (by decide +kernel) rfl, tb (i := 767) (by decide +kernel) rfl⟩
theorem mt_X9_carryOut : ca_mt yX9_carryOut cX9_carryOut 4 none 1 := ⟨tb (i := 961) (by decide +kernel) rfl, tb (i := 78) (by decide +kernel) rfl, by decide +kernel, by decide +kernel, by decide +kernel⟩
theorem mv_X9_carryOut : ca_mv yX9_carryOut := ⟨tb (i := 960) (by decide +kernel) rfl, tb (i := 30) (by decide +kernel) rfl⟩
theorem mt_X9_change : ca_mt yX9_change cX9_change 9 (some .int) 3 := ⟨tb (i := 594) (by decide +kernel) rfl, tb (i := 78) (by decide +kernel) rfl, by decide +kernel, by decide +kernel, by decide +kernel⟩
theorem mv_X9_change : ca_mv yX9_change := ⟨tb (i := 592) (by decide +kernel) rfl, tb (i := 593) (by decide +kernel) rfl⟩
theorem mt_X9_commonDivisor : ca_mt yX9_commonDivisor cX9_commonDivisor 11 (some .long) 2 := ⟨tb (i := 721) (by decide +kernel) rfl, tb (i := 78) (by decide +kernel) rfl, by decide +kernel, by decide +kernel, by decide +kernel⟩
theorem ms_X9_commonDivisor : Cond.static yX9_commonDivisor ∈ T0 := tb (i := 720) (by decide +kernel) rfl
theorem mt_X9_copy : ca_mt yX9_copy cX9_copy 6 (some .int) 5 := ⟨tb (i := 1021) (by decide +kernel) rfl, tb (i := 78) (by decide +kernel) rfl, by decide +kernel, by decide +kernel, by decide +kernel⟩
theorem mv_X9_copy : ca_mv yX9_copy := ⟨tb (i := 1019) (by decide +kernel) rfl, tb (i := 1020) (by decide +kernel) rfl⟩
theorem mt_X9_could : ca_mt yX9_could cX9_could 3 (some .int) 2 := ⟨tb (i := 442) (by decide +kernel) rfl, tb (i := 78) (by decide +kernel) rfl, by decide +kernel, by decide +kernel, by decide +kernel⟩
theorem mv_X9_could : ca_mv yX9_could := ⟨tb (i := 440) (by decide +kernel) rfl, tb (i := 441) (by decide +kernel) rfl⟩
theorem mt_X9_count : ca_mt yX9_count cX9_count 7 (some .int) 4 := ⟨tb (i := 633) (by decide +kernel) rfl, tb (i := 78) (by decide +kernel) rfl, by decide +kernel, by decide +kernel, by decide +kernel⟩
theorem mv_X9_count : ca_mv yX9_count := ⟨tb (i := 631) (by decide +kernel) rfl, tb (i := 632) (by decide +kernel) rfl⟩
theorem mt_X9_dayOf : ca_mt yX9_dayOf cX9_dayOf 1 (some .int) 1 := ⟨tb (i := 397) (by decide +kernel) rfl, tb (i := 78) (by decide +kernel) rfl, by decide +kernel, by decide +kernel, by decide +kernel⟩
theorem ms_X9_dayOf : Cond.static yX9_dayOf ∈ T0 := tb (i := 396) (by decide +kernel) rfl
theorem mt_X9_drift : ca_mt yX9_drift cX9_drift 7 (some .int) 3 := ⟨tb (i := 531) (by decide +kernel) rfl, tb (i := 78) (by decide +kernel) rfl, by decide +kernel, by decide +kernel, by decide +kernel⟩
theorem mv_X9_drift : ca_mv yX9_drift := ⟨tb (i := 529) (by decide +kernel) rfl, tb (i := 530) (by decide +kernel) rfl⟩
theorem mt_X9_far : ca_mt yX9_far cX9_far 4 (some .int) 2 := ⟨tb (i := 376) (by decide +kernel) rfl, tb (i := 78) (by decide +kernel) rfl, by decide +kernel, by decide +kernel, by decide +kernel⟩
theorem mv_X9_far : ca_mv yX9_far := ⟨tb (i := 374) (by decide +kernel) rfl, tb (i := 375) (by decide +kernel) rfl⟩
theorem mt_X9_feed : ca_mt yX9_feed cX9_feed 4 (some .int) 2 := ⟨tb (i := 815) (by decide +kernel) rfl, tb (i := 78) (by decide +kernel) rfl, by decide +kernel, by decide +kernel, by decide +kernel⟩
theorem mv_X9_feed : ca_mv yX9_feed := ⟨tb (i := 813) (by decide +kernel) rfl, tb (i := 814) (by decide +kernel) rfl⟩
theorem mt_X9_finding : ca_mt yX9_finding cX9_finding 2 (some .int) 1 := ⟨tb (i := 352) (by decide +kernel) rfl, tb (i := 78) (by decide +kernel) rfl, by decide +kernel, by decide +kernel, by decide +kernel⟩
theorem mv_X9_finding : ca_mv yX9_finding := ⟨tb (i := 351) (by decide +kernel) rfl, tb (i := 0) (by decide +kernel) rfl⟩
theorem mt_X9_firstWrongNumber : ca_mt yX9_firstWrongNumber cX9_firstWrongNumber 5 (some .int) 1 := ⟨tb (i := 1050) (by decide +kernel) rfl, tb (i := 78) (by decide +kernel) rfl, by decide +kernel, by decide +kernel, by decide +kernel⟩
theorem mv_X9_firstWrongNumber : ca_mv yX9_firstWrongNumber := ⟨tb (i := 1049) (by decide +kernel) rfl, tb (i := 32) (by decide +kernel) rfl⟩
theorem mt_X9_has : ca_mt yX9_has cX9_has 2 (some .boolean) 2 := ⟨tb (i := 360) (by decide +kernel) rfl, tb (i := 78) (by decide +kernel) rfl, by decide +kernel, by decide +kernel, by decide +kernel⟩
theorem ms_X9_has : Cond.static yX9_has ∈ T0 := tb (i := 359) (by decide +kernel) rfl
theorem mt_X9_heard : ca_mt yX9_heard cX9_heard 2 (some .int) 1 := ⟨tb (i := 807) (by decide +kernel) rfl, tb (i := 78) (by decide +kernel) rfl, by decide +kernel, by decide +kernel, by decide +kernel⟩
theorem mv_X9_heard : ca_mv yX9_heard := ⟨tb (i := 805) (by decide +kernel) rfl, tb (i := 806) (by decide +kernel) rfl⟩
theorem mt_X9_hearing : ca_mt yX9_hearing cX9_hearing 4 (some .int) 2 := ⟨tb (i := 799) (by decide +kernel) rfl, tb (i := 78) (by decide +kernel) rfl, by decide +kernel, by decide +kernel, by decide +kernel⟩
theorem mv_X9_hearing : ca_mv yX9_hearing := ⟨tb (i := 797) (by decide +kernel) rfl, tb (i := 798) (by decide +kernel) rfl⟩
theorem mt_X9_hold : ca_mt yX9_hold cX9_hold 3 (some .int) 2 := ⟨tb (i := 974) (by decide +kernel) rfl, tb (i := 78) (by decide +kernel) rfl, by decide +kernel, by decide +kernel, by decide +kernel⟩
theorem mv_X9_hold : ca_mv yX9_hold := ⟨tb (i := 972) (by decide +kernel) rfl, tb (i := 973) (by decide +kernel) rfl⟩
theorem mt_X9_hourOf : ca_mt yX9_hourOf cX9_hourOf 1 (some .int) 1 := ⟨tb (i := 400) (by decide +kernel) rfl, tb (i := 78) (by decide +kernel) rfl, by decide +kernel, by decide +kernel, by decide +kernel⟩
theorem ms_X9_hourOf : Cond.static yX9_hourOf ∈ T0 := tb (i := 399) (by decide +kernel) rfl
theorem mt_X9_image : ca_mt yX9_image cX9_image 1 (some .int) 0 := ⟨tb (i := 1063) (by decide +kernel) rfl, tb (i := 78) (by decide +kernel) rfl, by decide +kernel, by decide +kernel, by decide +kernel⟩
theorem mv_X9_image : ca_mv yX9_image := ⟨tb (i := 1061) (by decide +kernel) rfl, tb (i := 1062) (by decide +kernel) rfl⟩
theorem mt_X9_inForce : ca_mt yX9_inForce cX9_inForce 3 (some .int) 2 := ⟨tb (i := 603) (by decide +kernel) rfl, tb (i := 78) (by decide +kernel) rfl, by decide +kernel, by decide +kernel, by decide +kernel⟩
theorem mv_X9_inForce : ca_mv yX9_inForce := ⟨tb (i := 601) (by decide +kernel) rfl, tb (i := 602) (by decide +kernel) rfl⟩
theorem mt_X9_init : ca_mt yX9_init cX9_init 1 none 0 := ⟨tb (i := 100) (by decide +kernel) rfl, tb (i := 78) (by decide +kernel) rfl, by decide +kernel, by decide +kernel, by decide +kernel⟩
theorem mt_X9_isDay : ca_mt yX9_isDay cX9_isDay 1 (some .boolean) 1 := ⟨tb (i := 534) (by decide +kernel) rfl, tb (i := 78) (by decide +kernel) rfl, by decide +kernel, by decide +kernel, by decide +kernel⟩
theorem ms_X9_isDay : Cond.static yX9_isDay ∈ T0 := tb (i := 533) (by decide +kernel) rfl
theorem mt_X9_isMoney : ca_mt yX9_isMoney cX9_isMoney 1 (some .boolean) 1 := ⟨tb (i := 736) (by decide +kernel) rfl, tb (i := 78) (by decide +kernel) rfl, by decide +kernel, by decide +kernel, by decide +kernel⟩
theorem ms_X9_isMoney : Cond.static yX9_isMoney ∈ T0 := tb (i := 735) (by decide +kernel) rfl
theorem mt_X9_isPerson : ca_mt yX9_isPerson cX9_isPerson 1 (some .boolean) 1 := ⟨tb (i := 391) (by decide +kernel) rfl, tb (i := 78) (by decide +kernel) rfl, by decide +kernel, by decide +kernel, by decide +kernel⟩
theorem ms_X9_isPerson : Cond.static yX9_isPerson ∈ T0 := tb (i := 390) (by decide +kernel) rfl
theorem mt_X9_isPlace : ca_mt yX9_isPlace cX9_isPlace 1 (some .boolean) 1 := ⟨tb (i := 348) (by decide +kernel) rfl, tb (i := 78) (by decide +kernel) rfl, by decide +kernel, by decide +kernel, by decide +kernel⟩
theorem ms_X9_isPlace : Cond.static yX9_isPlace ∈ T0 := tb (i := 347) (by decide +kernel) rfl
theorem mt_X9_isSomeTermBroken : ca_mt yX9_isSomeTermBroken cX9_isSomeTermBroken 5 (some .boolean) 2 := ⟨tb (i := 641) (by decide +kernel) rfl, tb (i := 78) (by decide +kernel) rfl, by decide +kernel, by decide +kernel, by decide +kernel⟩
theorem mv_X9_isSomeTermBroken : ca_mv yX9_isSomeTermBroken := ⟨tb (i := 640) (by decide +kernel) rfl, tb (i := 14) (by decide +kernel) rfl⟩
theorem mt_X9_isSpot : ca_mt yX9_isSpot cX9_isSpot 1 (some .boolean) 1 := ⟨tb (i := 977) (by decide +kernel) rfl, tb (i := 78) (by decide +kernel) rfl, by decide +kernel, by decide +kernel, by decide +kernel⟩
theorem ms_X9_isSpot : Cond.static yX9_isSpot ∈ T0 := tb (i := 976) (by decide +kernel) rfl
theorem mt_X9_isSurety : ca_mt yX9_isSurety cX9_isSurety 1 (some .boolean) 1 := ⟨tb (i := 733) (by decide +kernel) rfl, tb (i := 78) (by decide +kernel) rfl, by decide +kernel, by decide +kernel, by decide +kernel⟩
theorem ms_X9_isSurety : Cond.static yX9_isSurety ∈ T0 := tb (i := 732) (by decide +kernel) rfl
theorem mt_X9_isThereAWay : ca_mt yX9_isThereAWay cX9_isThereAWay 4 (some .boolean) 3 := ⟨tb (i := 650) (by decide +kernel) rfl, tb (i := 78) (by decide +kernel) rfl, by decide +kernel, by decide +kernel, by decide +kernel⟩
theorem mv_X9_isThereAWay : ca_mv yX9_isThereAWay := ⟨tb (i := 649) (by decide +kernel) rfl, tb (i := 15) (by decide +kernel) rfl⟩
theorem mt_X9_isWhen : ca_mt yX9_isWhen cX9_isWhen 1 (some .boolean) 1 := ⟨tb (i := 394) (by decide +kernel) rfl, tb (i := 78) (by decide +kernel) rfl, by decide +kernel, by decide +kernel, by decide +kernel⟩
theorem ms_X9_isWhen : Cond.static yX9_isWhen ∈ T0 := tb (i := 393) (by decide +kernel) rfl
theorem mt_X9_judge : ca_mt yX9_judge cX9_judge 7 (some .int) 3 := ⟨tb (i := 1046) (by decide +kernel) rfl, tb (i := 78) (by decide +kernel) rfl, by decide +kernel, by decide +kernel, by decide +kernel⟩
theorem mv_X9_judge : ca_mv yX9_judge := ⟨tb (i := 1044) (by decide +kernel) rfl, tb (i := 1045) (by decide +kernel) rfl⟩
theorem mt_X9_kept : ca_mt yX9_kept cX9_kept 3 (some .int) 2 := ⟨tb (i := 615) (by decide +kernel) rfl, tb (i := 78) (by decide +kernel) rfl, by decide +kernel, by decide +kernel, by decide +kernel⟩
theorem mv_X9_kept : ca_mv yX9_kept := ⟨tb (i := 613) (by decide +kernel) rfl, tb (i := 614) (by decide +kernel) rfl⟩
theorem mt_X9_leastTermTooSeldom : ca_mt yX9_leastTermTooSeldom cX9_leastTermTooSeldom 4 (some .int) 2 := ⟨tb (i := 1055) (by decide +kernel) rfl, tb (i := 78) (by decide +kernel) rfl, by decide +kernel, by decide +kernel, by decide +kernel⟩
theorem mv_X9_leastTermTooSeldom : ca_mv yX9_leastTermTooSeldom := ⟨tb (i := 1054) (by decide +kernel) rfl, tb (i := 33) (by decide +kernel) rfl⟩
theorem mt_X9_load : ca_mt yX9_load cX9_load 7 (some .int) 3 := ⟨tb (i := 1038) (by decide +kernel) rfl, tb (i := 78) (by decide +kernel) rfl, by decide +kernel, by decide +kernel, by decide +kernel⟩
theorem mv_X9_load : ca_mv yX9_load := ⟨tb (i := 1036) (by decide +kernel) rfl, tb (i := 1037) (by decide +kernel) rfl⟩
theorem mt_X9_many : ca_mt yX9_many cX9_many 2 (some .int) 1 := ⟨tb (i := 1101) (by decide +kernel) rfl, tb (i := 78) (by decide +kernel) rfl, by decide +kernel, by decide +kernel, by decide +kernel⟩
theorem mv_X9_many : ca_mv yX9_many := ⟨tb (i := 1099) (by decide +kernel) rfl, tb (i := 1100) (by decide +kernel) rfl⟩
theorem mt_X9_may : ca_mt yX9_may cX9_may 3 (some .int) 2 := ⟨tb (i := 670) (by decide +kernel) rfl, tb (i := 78) (by decide +kernel) rfl, by decide +kernel, by decide +kernel, by decide +kernel⟩
theorem mv_X9_may : ca_mv yX9_may := ⟨tb (i := 668) (by decide +kernel) rfl, tb (i := 669) (by decide +kernel) rfl⟩
theorem mt_X9_placesOfWays : ca_mt yX9_placesOfWays cX9_placesOfWays 4 (some .int) 3 := ⟨tb (i := 446) (by decide +kernel) rfl, tb (i := 78) (by decide +kernel) rfl, by decide +kernel, by decide +kernel, by decide +kernel⟩
theorem mv_X9_placesOfWays : ca_mv yX9_placesOfWays := ⟨tb (i := 445) (by decide +kernel) rfl, tb (i := 2) (by decide +kernel) rfl⟩
theorem mt_X9_power : ca_mt yX9_power cX9_power 5 (some .long) 2 := ⟨tb (i := 718) (by decide +kernel) rfl, tb (i := 78) (by decide +kernel) rfl, by decide +kernel, by decide +kernel, by decide +kernel⟩
theorem ms_X9_power : Cond.static yX9_power ∈ T0 := tb (i := 717) (by decide +kernel) rfl
theorem mt_X9_risk : ca_mt yX9_risk cX9_risk 11 (some .int) 4 := ⟨tb (i := 709) (by decide +kernel) rfl, tb (i := 78) (by decide +kernel) rfl, by decide +kernel, by decide +kernel, by decide +kernel⟩
theorem mv_X9_risk : ca_mv yX9_risk := ⟨tb (i := 707) (by decide +kernel) rfl, tb (i := 708) (by decide +kernel) rfl⟩
theorem mt_X9_riskAbove : ca_mt yX9_riskAbove cX9_riskAbove 8 (some .long) 3 := ⟨tb (i := 715) (by decide +kernel) rfl, tb (i := 78) (by decide +kernel) rfl, by decide +kernel, by decide +kernel, by decide +kernel⟩
theorem ms_X9_riskAbove : Cond.static yX9_riskAbove ∈ T0 := tb (i := 714) (by decide +kernel) rfl
theorem mt_X9_road : ca_mt yX9_road cX9_road 5 (some .int) 3 := ⟨tb (i := 345) (by decide +kernel) rfl, tb (i := 78) (by decide +kernel) rfl, by decide +kernel, by decide +kernel, by decide +kernel⟩
theorem mv_X9_road : ca_mv yX9_road := ⟨tb (i := 343) (by decide +kernel) rfl, tb (i := 344) (by decide +kernel) rfl⟩
theorem mt_X9_roads : ca_mt yX9_roads cX9_roads 2 (some .int) 1 := ⟨tb (i := 368) (by decide +kernel) rfl, tb (i := 78) (by decide +kernel) rfl, by decide +kernel, by decide +kernel, by decide +kernel⟩
theorem mv_X9_roads : ca_mv yX9_roads := ⟨tb (i := 366) (by decide +kernel) rfl, tb (i := 367) (by decide +kernel) rfl⟩
theorem mt_X9_seed : ca_mt yX9_seed cX9_seed 3 (some .int) 1 := ⟨tb (i := 811) (by decide +kernel) rfl, tb (i := 78) (by decide +kernel) rfl, by decide +kernel, by decide +kernel, by decide +kernel⟩
theorem mv_X9_seed : ca_mv yX9_seed := ⟨tb (i := 809) (by decide +kernel) rfl, tb (i := 810) (by decide +kernel) rfl⟩
theorem mt_X9_seen : ca_mt yX9_seen cX9_seen 4 (some .int) 3 := ⟨tb (i := 388) (by decide +kernel) rfl, tb (i := 78) (by decide +kernel) rfl, by decide +kernel, by decide +kernel, by decide +kernel⟩
theorem mv_X9_seen : ca_mv yX9_seen := ⟨tb (i := 386) (by decide +kernel) rfl, tb (i := 387) (by decide +kernel) rfl⟩
theorem mt_X9_seenOf : ca_mt yX9_seenOf cX9_seenOf 3 (some .int) 2 := ⟨tb (i := 412) (by decide +kernel) rfl, tb (i := 78) (by decide +kernel) rfl, by decide +kernel, by decide +kernel, by decide +kernel⟩
theorem mv_X9_seenOf : ca_mv yX9_seenOf := ⟨tb (i := 410) (by decide +kernel) rfl, tb (i := 411) (by decide +kernel) rfl⟩
theorem mt_X9_sheet : ca_mt yX9_sheet cX9_sheet 4 (some .int) 3 := ⟨tb (i := 991) (by decide +kernel) rfl, tb (i := 78) (by decide +kernel) rfl, by decide +kernel, by decide +kernel, by decide +kernel⟩
theorem mv_X9_sheet : ca_mv yX9_sheet := ⟨tb (i := 989) (by decide +kernel) rfl, tb (i := 990) (by decide +kernel) rfl⟩
theorem mt_X9_span : ca_mt yX9_span cX9_span 6 (some .int) 4 := ⟨tb (i := 580) (by decide +kernel) rfl, tb (i := 78) (by decide +kernel) rfl, by decide +kernel, by decide +kernel, by decide +kernel⟩
theorem mv_X9_span : ca_mv yX9_span := ⟨tb (i := 578) (by decide +kernel) rfl, tb (i := 579) (by decide +kernel) rfl⟩
theorem mt_X9_status : ca_mt yX9_status cX9_status 4 (some .int) 1 := ⟨tb (i := 1123) (by decide +kernel) rfl, tb (i := 78) (by decide +kernel) rfl, by decide +kernel, by decide +kernel, by decide +kernel⟩
theorem mv_X9_status : ca_mv yX9_status := ⟨tb (i := 1121) (by decide +kernel) rfl, tb (i := 1122) (by decide +kernel) rfl⟩
theorem mt_X9_strict : ca_mt yX9_strict cX9_strict 5 (some .int) 3 := ⟨tb (i := 725) (by decide +kernel) rfl, tb (i := 78) (by decide +kernel) rfl, by decide +kernel, by decide +kernel, by decide +kernel⟩
theorem mv_X9_strict : ca_mv yX9_strict := ⟨tb (i := 723) (by decide +kernel) rfl, tb (i := 724) (by decide +kernel) rfl⟩
theorem mt_X9_surety : ca_mt yX9_surety cX9_surety 4 (some .int) 3 := ⟨tb (i := 730) (by decide +kernel) rfl, tb (i := 78) (by decide +kernel) rfl, by decide +kernel, by decide +kernel, by decide +kernel⟩
theorem mv_X9_surety : ca_mv yX9_surety := ⟨tb (i := 728) (by decide +kernel) rfl, tb (i := 729) (by decide +kernel) rfl⟩
theorem mt_X9_suretyOf : ca_mt yX9_suretyOf cX9_suretyOf 3 (some .int) 2 := ⟨tb (i := 786) (by decide +kernel) rfl, tb (i := 78) (by decide +kernel) rfl, by decide +kernel, by decide +kernel, by decide +kernel⟩
theorem mv_X9_suretyOf : ca_mv yX9_suretyOf := ⟨tb (i := 784) (by decide +kernel) rfl, tb (i := 785) (by decide +kernel) rfl⟩
theorem mt_X9_tear : ca_mt yX9_tear cX9_tear 2 (some .int) 0 := ⟨tb (i := 1097) (by decide +kernel) rfl, tb (i := 78) (by decide +kernel) rfl, by decide +kernel, by decide +kernel, by decide +kernel⟩
theorem mv_X9_tear : ca_mv yX9_tear := ⟨tb (i := 1095) (by decide +kernel) rfl, tb (i := 1096) (by decide +kernel) rfl⟩
theorem mt_X9_term : ca_mt yX9_term cX9_term 4 (some .int) 3 := ⟨tb (i := 543) (by decide +kernel) rfl, tb (i := 78) (by decide +kernel) rfl, by decide +kernel, by decide +kernel, by decide +kernel⟩
theorem mv_X9_term : ca_mv yX9_term := ⟨tb (i := 541) (by decide +kernel) rfl, tb (i := 542) (by decide +kernel) rfl⟩
theorem mt_X9_termOf : ca_mt yX9_termOf cX9_termOf 3 (some .int) 2 := ⟨tb (i := 570) (by decide +kernel) rfl, tb (i := 78) (by decide +kernel) rfl, by decide +kernel, by decide +kernel, by decide +kernel⟩
theorem mv_X9_termOf : ca_mv yX9_termOf := ⟨tb (i := 568) (by decide +kernel) rfl, tb (i := 569) (by decide +kernel) rfl⟩
theorem mt_X9_text : ca_mt yX9_text cX9_text 3 (some .int) 0 := ⟨tb (i := 839) (by decide +kernel) rfl, tb (i := 78) (by decide +kernel) rfl, by decide +kernel, by decide +kernel, by decide +kernel⟩
theorem mv_X9_text : ca_mv yX9_text := ⟨tb (i := 837) (by decide +kernel) rfl, tb (i := 838) (by decide +kernel) rfl⟩
theorem mt_X9_timesThere : ca_mt yX9_timesThere cX9_timesThere 7 (some .int) 2 := ⟨tb (i := 1059) (by decide +kernel) rfl, tb (i := 78) (by decide +kernel) rfl, by decide +kernel, by decide +kernel, by decide +kernel⟩
theorem mv_X9_timesThere : ca_mv yX9_timesThere := ⟨tb (i := 1058) (by decide +kernel) rfl, tb (i := 34) (by decide +kernel) rfl⟩
theorem mt_X9_turn : ca_mt yX9_turn cX9_turn 4 (some .int) 2 := ⟨tb (i := 586) (by decide +kernel) rfl, tb (i := 78) (by decide +kernel) rfl, by decide +kernel, by decide +kernel, by decide +kernel⟩
theorem mv_X9_turn : ca_mv yX9_turn := ⟨tb (i := 584) (by decide +kernel) rfl, tb (i := 585) (by decide +kernel) rfl⟩
theorem mt_X9_undo : ca_mt yX9_undo cX9_undo 1 (some .int) 0 := ⟨tb (i := 1092) (by decide +kernel) rfl, tb (i := 78) (by decide +kernel) rfl, by decide +kernel, by decide +kernel, by decide +kernel⟩
theorem mv_X9_undo : ca_mv yX9_undo := ⟨tb (i := 1090) (by decide +kernel) rfl, tb (i := 1091) (by decide +kernel) rfl⟩
theorem mt_X9_way : ca_mt yX9_way cX9_way 3 (some .int) 2 := ⟨tb (i := 646) (by decide +kernel) rfl, tb (i := 78) (by decide +kernel) rfl, by decide +kernel, by decide +kernel, by decide +kernel⟩
theorem mv_X9_way : ca_mv yX9_way := ⟨tb (i := 644) (by decide +kernel) rfl, tb (i := 645) (by decide +kernel) rfl⟩
theorem mt_X9_ways : ca_mt yX9_ways cX9_ways 3 (some .int) 2 := ⟨tb (i := 674) (by decide +kernel) rfl, tb (i := 78) (by decide +kernel) rfl, by decide +kernel, by decide +kernel, by decide +kernel⟩
theorem mv_X9_ways : ca_mv yX9_ways := ⟨tb (i := 672) (by decide +kernel) rfl, tb (i := 673) (by decide +kernel) rfl⟩
theorem mt_X9_where : ca_mt yX9_where cX9_where 4 (some .int) 2 := ⟨tb (i := 437) (by decide +kernel) rfl, tb (i := 78) (by decide +kernel) rfl, by decide +kernel, by decide +kernel, by decide +kernel⟩
theorem mv_X9_where : ca_mv yX9_where := ⟨tb (i := 435) (by decide +kernel) rfl, tb (i := 436) (by decide +kernel) rfl⟩
theorem mt_X9_wipe : ca_mt yX9_wipe cX9_wipe 2 (some .int) 0 := ⟨tb (i := 831) (by decide +kernel) rfl, tb (i := 78) (by decide +kernel) rfl, by decide +kernel, by decide +kernel, by decide +kernel⟩
theorem mv_X9_wipe : ca_mv yX9_wipe := ⟨tb (i := 829) (by decide +kernel) rfl, tb (i := 830) (by decide +kernel) rfl⟩
theorem mt_X9_write : ca_mt yX9_write cX9_write 4 (some .int) 3 := ⟨tb (i := 1009) (by decide +kernel) rfl, tb (i := 78) (by decide +kernel) rfl, by decide +kernel, by decide +kernel, by decide +kernel⟩
theorem mv_X9_write : ca_mv yX9_write := ⟨tb (i := 1007) (by decide +kernel) rfl, tb (i := 1008) (by decide +kernel) rfl⟩
theorem ms_min : Cond.static Lib.Math.min.name ∈ T0 := tb (i := 700) (by decide +kernel) rfl
theorem mi_min : Cond.initialized "java/lang/Math" ∈ T0 := tb (i := 90) (by decide +kernel) rfl
theorem mc_min : Cond.code Lib.Math.min.name Lib.Math.min.code 2 (some .int) ∈ T0 := tb (i := 701) (by decide +kernel) rfl
theorem ms_acopy : Cond.static arraycopyName ∈ T0 := tb (i := 688) (by decide +kernel) rfl
theorem mn_acopy : Cond.native arraycopyName ∈ T0 := tb (i := 689) (by decide +kernel) rfl
theorem mi_acopy : Cond.initialized "java/lang/System" ∈ T0 := tb (i := 89) (by decide +kernel) rfl
