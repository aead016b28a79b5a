theorem wi_L : Cond.initialized RL ∈ uw := uw_in (i := 0) (by decide +kernel) (by decide +kernel)
theorem wi_X6 : Cond.initialized RX6 ∈ uw := uw_in (i := 1) (by decide +kernel) (by decide +kernel)
theorem wi_X4 : Cond.initialized RX4 ∈ uw := uw_in (i := 2) (by decide +kernel) (by decide +kernel)
theorem wi_X2 : Cond.initialized RX2 ∈ uw := uw_in (i := 3) (by decide +kernel) (by decide +kernel)
theorem wi_X1 : Cond.initialized RX1 ∈ uw := uw_in (i := 4) (by decide +kernel) (by decide +kernel)
theorem wi_X0 : Cond.initialized RX0 ∈ uw := uw_in (i := 5) (by decide +kernel) (by decide +kernel)
theorem wi_X5 : Cond.initialized RX5 ∈ uw := uw_in (i := 6) (by decide +kernel) (by decide +kernel)
theorem wi_X3 : Cond.initialized RX3 ∈ uw := uw_in (i := 7) (by decide +kernel) (by decide +kernel)
theorem wi_Math : Cond.initialized "java/lang/Math" ∈ uw := uw_in (i := 8) (by decide +kernel) (by decide +kernel)
theorem wc_X6_init : Cond.code yX6_init cX6_init 2 none ∈ uw := uw_in (i := 13) (by decide +kernel) (by decide +kernel)
theorem wc_objectInit : Cond.code objectInit ⟨#[0xb1]⟩ 1 none ∈ uw := uw_in (i := 16) (by decide +kernel) (by decide +kernel)
theorem wc_X4_init : Cond.code yX4_init cX4_init 2 none ∈ uw := uw_in (i := 21) (by decide +kernel) (by decide +kernel)
theorem wc_X2_init : Cond.code yX2_init cX2_init 2 none ∈ uw := uw_in (i := 27) (by decide +kernel) (by decide +kernel)
theorem wc_X1_init : Cond.code yX1_init cX1_init 1 none ∈ uw := uw_in (i := 38) (by decide +kernel) (by decide +kernel)
theorem wc_X0_init : Cond.code yX0_init cX0_init 1 none ∈ uw := uw_in (i := 56) (by decide +kernel) (by decide +kernel)
theorem wc_X5_init : Cond.code yX5_init cX5_init 1 none ∈ uw := uw_in (i := 96) (by decide +kernel) (by decide +kernel)
theorem wc_X3_init : Cond.code yX3_init cX3_init 1 none ∈ uw := uw_in (i := 170) (by decide +kernel) (by decide +kernel)
theorem wc_X6_count : Cond.code yX6_count cX6_count 2 (some .int) ∈ uw := uw_in (i := 209) (by decide +kernel) (by decide +kernel)
theorem wc_X2_dryStacks : Cond.code yX2_dryStacks cX2_dryStacks 3 (some .int) ∈ uw := uw_in (i := 213) (by decide +kernel) (by decide +kernel)
theorem wc_X5_isDry : Cond.code yX5_isDry cX5_isDry 1 (some .boolean) ∈ uw := uw_in (i := 217) (by decide +kernel) (by decide +kernel)
theorem wc_X4_snapshots : Cond.code yX4_snapshots cX4_snapshots 3 (some .int) ∈ uw := uw_in (i := 221) (by decide +kernel) (by decide +kernel)
theorem wc_X6_right : Cond.code yX6_right cX6_right 4 (some .int) ∈ uw := uw_in (i := 225) (by decide +kernel) (by decide +kernel)
theorem wc_X2_rightPart : Cond.code yX2_rightPart cX2_rightPart 4 (some .int) ∈ uw := uw_in (i := 229) (by decide +kernel) (by decide +kernel)
theorem wc_X2_hasHousehold : Cond.code yX2_hasHousehold cX2_hasHousehold 2 (some .boolean) ∈ uw := uw_in (i := 233) (by decide +kernel) (by decide +kernel)
theorem wc_X6_isWithin : Cond.code yX6_isWithin cX6_isWithin 3 (some .boolean) ∈ uw := uw_in (i := 236) (by decide +kernel) (by decide +kernel)
theorem wc_X2_hasBank : Cond.code yX2_hasBank cX2_hasBank 2 (some .boolean) ∈ uw := uw_in (i := 240) (by decide +kernel) (by decide +kernel)
theorem wc_X2_shareOf : Cond.code yX2_shareOf cX2_shareOf 7 (some .int) ∈ uw := uw_in (i := 244) (by decide +kernel) (by decide +kernel)
theorem wc_X2_spadesAt : Cond.code yX2_spadesAt cX2_spadesAt 4 (some .int) ∈ uw := uw_in (i := 248) (by decide +kernel) (by decide +kernel)
theorem wc_X2_stillToCut : Cond.code yX2_stillToCut cX2_stillToCut 3 (some .int) ∈ uw := uw_in (i := 252) (by decide +kernel) (by decide +kernel)
theorem wc_max : Cond.code Lib.Math.max.name Lib.Math.max.code 2 (some .int) ∈ uw := uw_in (i := 255) (by decide +kernel) (by decide +kernel)
theorem wc_L_cell : Cond.code yL_cell cL_cell 2 (some .int) ∈ uw := uw_in (i := 258) (by decide +kernel) (by decide +kernel)
theorem wc_L_low : Cond.code yL_low cL_low 2 (some .int) ∈ uw := uw_in (i := 262) (by decide +kernel) (by decide +kernel)
theorem wc_X6_come : Cond.code yX6_come cX6_come 2 (some .int) ∈ uw := uw_in (i := 271) (by decide +kernel) (by decide +kernel)
theorem wc_X4_copyFrom : Cond.code yX4_copyFrom cX4_copyFrom 3 none ∈ uw := uw_in (i := 275) (by decide +kernel) (by decide +kernel)
theorem wc_X2_copyFrom : Cond.code yX2_copyFrom cX2_copyFrom 3 none ∈ uw := uw_in (i := 279) (by decide +kernel) (by decide +kernel)
theorem wc_X1_copyFrom : Cond.code yX1_copyFrom cX1_copyFrom 2 none ∈ uw := uw_in (i := 283) (by decide +kernel) (by decide +kernel)
theorem wc_X0_copyFrom : Cond.code yX0_copyFrom cX0_copyFrom 3 none ∈ uw := uw_in (i := 287) (by decide +kernel) (by decide +kernel)
theorem wc_X5_copyFrom : Cond.code yX5_copyFrom cX5_copyFrom 2 none ∈ uw := uw_in (i := 291) (by decide +kernel) (by decide +kernel)
theorem wc_X2_addHousehold : Cond.code yX2_addHousehold cX2_addHousehold 2 (some .int) ∈ uw := uw_in (i := 295) (by decide +kernel) (by decide +kernel)
theorem wc_X6_recorded : Cond.code yX6_recorded cX6_recorded 3 (some .int) ∈ uw := uw_in (i := 299) (by decide +kernel) (by decide +kernel)
theorem wc_X6_dropOldestState : Cond.code yX6_dropOldestState cX6_dropOldestState 3 none ∈ uw := uw_in (i := 303) (by decide +kernel) (by decide +kernel)
theorem wc_X6_addBank : Cond.code yX6_addBank cX6_addBank 3 (some .int) ∈ uw := uw_in (i := 307) (by decide +kernel) (by decide +kernel)
theorem wc_X2_openBank : Cond.code yX2_openBank cX2_openBank 3 (some .int) ∈ uw := uw_in (i := 311) (by decide +kernel) (by decide +kernel)
theorem wc_X6_setSpades : Cond.code yX6_setSpades cX6_setSpades 3 (some .int) ∈ uw := uw_in (i := 315) (by decide +kernel) (by decide +kernel)
theorem wc_X2_changeSpades : Cond.code yX2_changeSpades cX2_changeSpades 4 (some .int) ∈ uw := uw_in (i := 319) (by decide +kernel) (by decide +kernel)
theorem wc_X6_setAllowance : Cond.code yX6_setAllowance cX6_setAllowance 3 (some .int) ∈ uw := uw_in (i := 323) (by decide +kernel) (by decide +kernel)
theorem wc_X2_changeAllowance : Cond.code yX2_changeAllowance cX2_changeAllowance 4 (some .int) ∈ uw := uw_in (i := 327) (by decide +kernel) (by decide +kernel)
theorem wc_X6_grant : Cond.code yX6_grant cX6_grant 4 (some .int) ∈ uw := uw_in (i := 331) (by decide +kernel) (by decide +kernel)
theorem wc_X2_changeRight : Cond.code yX2_changeRight cX2_changeRight 4 (some .int) ∈ uw := uw_in (i := 335) (by decide +kernel) (by decide +kernel)
theorem wc_X0_holders : Cond.code yX0_holders cX0_holders 3 (some .int) ∈ uw := uw_in (i := 339) (by decide +kernel) (by decide +kernel)
theorem wc_L_may : Cond.code yL_may cL_may 7 (some .int) ∈ uw := uw_in (i := 342) (by decide +kernel) (by decide +kernel)
theorem wc_L_share : Cond.code yL_share cL_share 10 (some .int) ∈ uw := uw_in (i := 345) (by decide +kernel) (by decide +kernel)
theorem wc_X6_cut : Cond.code yX6_cut cX6_cut 4 (some .int) ∈ uw := uw_in (i := 349) (by decide +kernel) (by decide +kernel)
theorem wc_X2_cutTurfs : Cond.code yX2_cutTurfs cX2_cutTurfs 6 (some .int) ∈ uw := uw_in (i := 353) (by decide +kernel) (by decide +kernel)
theorem wc_X6_turn : Cond.code yX6_turn cX6_turn 2 (some .int) ∈ uw := uw_in (i := 362) (by decide +kernel) (by decide +kernel)
theorem wc_X2_turnStack : Cond.code yX2_turnStack cX2_turnStack 3 (some .int) ∈ uw := uw_in (i := 366) (by decide +kernel) (by decide +kernel)
theorem wc_X2_hasStack : Cond.code yX2_hasStack cX2_hasStack 2 (some .boolean) ∈ uw := uw_in (i := 370) (by decide +kernel) (by decide +kernel)
theorem wc_X6_cart : Cond.code yX6_cart cX6_cart 3 (some .int) ∈ uw := uw_in (i := 374) (by decide +kernel) (by decide +kernel)
theorem wc_X2_cartTurfs : Cond.code yX2_cartTurfs cX2_cartTurfs 7 (some .int) ∈ uw := uw_in (i := 378) (by decide +kernel) (by decide +kernel)
theorem wc_X5_loadOf : Cond.code yX5_loadOf cX5_loadOf 2 (some .int) ∈ uw := uw_in (i := 382) (by decide +kernel) (by decide +kernel)
theorem wc_X5_turfWeight : Cond.code yX5_turfWeight cX5_turfWeight 1 (some .int) ∈ uw := uw_in (i := 386) (by decide +kernel) (by decide +kernel)
theorem wc_X2_bearingToday : Cond.code yX2_bearingToday cX2_bearingToday 2 (some .int) ∈ uw := uw_in (i := 390) (by decide +kernel) (by decide +kernel)
theorem wc_X0_bearing : Cond.code yX0_bearing cX0_bearing 3 (some .int) ∈ uw := uw_in (i := 394) (by decide +kernel) (by decide +kernel)
theorem wc_X0_wearBy : Cond.code yX0_wearBy cX0_wearBy 1 (some .int) ∈ uw := uw_in (i := 398) (by decide +kernel) (by decide +kernel)
theorem wc_X2_removeStack : Cond.code yX2_removeStack cX2_removeStack 4 none ∈ uw := uw_in (i := 402) (by decide +kernel) (by decide +kernel)
theorem wc_X6_join : Cond.code yX6_join cX6_join 3 (some .int) ∈ uw := uw_in (i := 406) (by decide +kernel) (by decide +kernel)
theorem wc_X2_joinStacks : Cond.code yX2_joinStacks cX2_joinStacks 5 (some .int) ∈ uw := uw_in (i := 410) (by decide +kernel) (by decide +kernel)
theorem wc_X5_takeAllOf : Cond.code yX5_takeAllOf cX5_takeAllOf 5 none ∈ uw := uw_in (i := 414) (by decide +kernel) (by decide +kernel)
theorem wc_min : Cond.code Lib.Math.min.name Lib.Math.min.code 2 (some .int) ∈ uw := uw_in (i := 417) (by decide +kernel) (by decide +kernel)
theorem wc_L_goes : Cond.code yL_goes cL_goes 4 none ∈ uw := uw_in (i := 420) (by decide +kernel) (by decide +kernel)
theorem wc_L_heavy : Cond.code yL_heavy cL_heavy 4 (some .int) ∈ uw := uw_in (i := 423) (by decide +kernel) (by decide +kernel)
theorem wc_L_bears : Cond.code yL_bears cL_bears 4 (some .int) ∈ uw := uw_in (i := 426) (by decide +kernel) (by decide +kernel)
theorem wc_X6_repair : Cond.code yX6_repair cX6_repair 2 (some .int) ∈ uw := uw_in (i := 430) (by decide +kernel) (by decide +kernel)
theorem wc_X2_repairRoad : Cond.code yX2_repairRoad cX2_repairRoad 3 (some .int) ∈ uw := uw_in (i := 434) (by decide +kernel) (by decide +kernel)
theorem wc_X6_endYear : Cond.code yX6_endYear cX6_endYear 1 (some .int) ∈ uw := uw_in (i := 438) (by decide +kernel) (by decide +kernel)
theorem wc_X2_closeYear : Cond.code yX2_closeYear cX2_closeYear 3 (some .int) ∈ uw := uw_in (i := 442) (by decide +kernel) (by decide +kernel)
theorem wc_X0_forgetYear : Cond.code yX0_forgetYear cX0_forgetYear 2 none ∈ uw := uw_in (i := 446) (by decide +kernel) (by decide +kernel)
theorem wc_L_then : Cond.code yL_then cL_then 5 (some .int) ∈ uw := uw_in (i := 449) (by decide +kernel) (by decide +kernel)
theorem wc_X6_day : Cond.code yX6_day cX6_day 3 (some .int) ∈ uw := uw_in (i := 453) (by decide +kernel) (by decide +kernel)
theorem wc_X2_passDay : Cond.code yX2_passDay cX2_passDay 5 (some .int) ∈ uw := uw_in (i := 457) (by decide +kernel) (by decide +kernel)
theorem wc_X5_wetnessAfterDay : Cond.code yX5_wetnessAfterDay cX5_wetnessAfterDay 6 (some .int) ∈ uw := uw_in (i := 461) (by decide +kernel) (by decide +kernel)
theorem wc_L_dry : Cond.code yL_dry cL_dry 4 (some .int) ∈ uw := uw_in (i := 467) (by decide +kernel) (by decide +kernel)
theorem wc_X6_household : Cond.code yX6_household cX6_household 3 (some .int) ∈ uw := uw_in (i := 474) (by decide +kernel) (by decide +kernel)
theorem wc_X2_householdProperty : Cond.code yX2_householdProperty cX2_householdProperty 3 (some .int) ∈ uw := uw_in (i := 478) (by decide +kernel) (by decide +kernel)
theorem wc_X2_rightsOf : Cond.code yX2_rightsOf cX2_rightsOf 4 (some .int) ∈ uw := uw_in (i := 482) (by decide +kernel) (by decide +kernel)
theorem wc_X2_stacksOf : Cond.code yX2_stacksOf cX2_stacksOf 4 (some .int) ∈ uw := uw_in (i := 486) (by decide +kernel) (by decide +kernel)
theorem wc_X2_turfsInStacksOf : Cond.code yX2_turfsInStacksOf cX2_turfsInStacksOf 4 (some .int) ∈ uw := uw_in (i := 490) (by decide +kernel) (by decide +kernel)
theorem wc_X6_bank : Cond.code yX6_bank cX6_bank 3 (some .int) ∈ uw := uw_in (i := 494) (by decide +kernel) (by decide +kernel)
theorem wc_X2_bankProperty : Cond.code yX2_bankProperty cX2_bankProperty 4 (some .int) ∈ uw := uw_in (i := 498) (by decide +kernel) (by decide +kernel)
theorem wc_X0_holdersAsBits : Cond.code yX0_holdersAsBits cX0_holdersAsBits 3 (some .int) ∈ uw := uw_in (i := 502) (by decide +kernel) (by decide +kernel)
theorem wc_X2_turfsInStacksAt : Cond.code yX2_turfsInStacksAt cX2_turfsInStacksAt 4 (some .int) ∈ uw := uw_in (i := 506) (by decide +kernel) (by decide +kernel)
theorem wc_X6_stack : Cond.code yX6_stack cX6_stack 3 (some .int) ∈ uw := uw_in (i := 510) (by decide +kernel) (by decide +kernel)
theorem wc_X2_stackProperty : Cond.code yX2_stackProperty cX2_stackProperty 4 (some .int) ∈ uw := uw_in (i := 514) (by decide +kernel) (by decide +kernel)
theorem wn_X6_init : Cond.instanceMethod yX6_init ∈ uw := uw_in (i := 12) (by decide +kernel) (by decide +kernel)
theorem wn_objectInit : Cond.instanceMethod objectInit ∈ uw := uw_in (i := 15) (by decide +kernel) (by decide +kernel)
theorem wn_X4_init : Cond.instanceMethod yX4_init ∈ uw := uw_in (i := 20) (by decide +kernel) (by decide +kernel)
theorem wn_X2_init : Cond.instanceMethod yX2_init ∈ uw := uw_in (i := 26) (by decide +kernel) (by decide +kernel)
theorem wn_X1_init : Cond.instanceMethod yX1_init ∈ uw := uw_in (i := 37) (by decide +kernel) (by decide +kernel)
theorem wn_X0_init : Cond.instanceMethod yX0_init ∈ uw := uw_in (i := 55) (by decide +kernel) (by decide +kernel)
theorem wn_X5_init : Cond.instanceMethod yX5_init ∈ uw := uw_in (i := 95) (by decide +kernel) (by decide +kernel)
theorem wn_X3_init : Cond.instanceMethod yX3_init ∈ uw := uw_in (i := 169) (by decide +kernel) (by decide +kernel)
theorem wn_X6_count : Cond.instanceMethod yX6_count ∈ uw := uw_in (i := 207) (by decide +kernel) (by decide +kernel)
theorem wn_X2_dryStacks : Cond.instanceMethod yX2_dryStacks ∈ uw := uw_in (i := 211) (by decide +kernel) (by decide +kernel)
theorem wn_X5_isDry : Cond.instanceMethod yX5_isDry ∈ uw := uw_in (i := 215) (by decide +kernel) (by decide +kernel)
theorem wn_X4_snapshots : Cond.instanceMethod yX4_snapshots ∈ uw := uw_in (i := 219) (by decide +kernel) (by decide +kernel)
theorem wn_X6_right : Cond.instanceMethod yX6_right ∈ uw := uw_in (i := 223) (by decide +kernel) (by decide +kernel)
theorem wn_X2_rightPart : Cond.instanceMethod yX2_rightPart ∈ uw := uw_in (i := 227) (by decide +kernel) (by decide +kernel)
theorem wn_X2_hasHousehold : Cond.instanceMethod yX2_hasHousehold ∈ uw := uw_in (i := 231) (by decide +kernel) (by decide +kernel)
theorem wn_X2_hasBank : Cond.instanceMethod yX2_hasBank ∈ uw := uw_in (i := 238) (by decide +kernel) (by decide +kernel)
theorem wn_X2_shareOf : Cond.instanceMethod yX2_shareOf ∈ uw := uw_in (i := 242) (by decide +kernel) (by decide +kernel)
theorem wn_X2_spadesAt : Cond.instanceMethod yX2_spadesAt ∈ uw := uw_in (i := 246) (by decide +kernel) (by decide +kernel)
theorem wn_X2_stillToCut : Cond.instanceMethod yX2_stillToCut ∈ uw := uw_in (i := 250) (by decide +kernel) (by decide +kernel)
theorem wn_X6_come : Cond.instanceMethod yX6_come ∈ uw := uw_in (i := 269) (by decide +kernel) (by decide +kernel)
theorem wn_X4_copyFrom : Cond.instanceMethod yX4_copyFrom ∈ uw := uw_in (i := 273) (by decide +kernel) (by decide +kernel)
theorem wn_X2_copyFrom : Cond.instanceMethod yX2_copyFrom ∈ uw := uw_in (i := 277) (by decide +kernel) (by decide +kernel)
theorem wn_X1_copyFrom : Cond.instanceMethod yX1_copyFrom ∈ uw := uw_in (i := 281) (by decide +kernel) (by decide +kernel)
theorem wn_X0_copyFrom : Cond.instanceMethod yX0_copyFrom ∈ uw := uw_in (i := 285) (by decide +kernel) (by decide +kernel)
theorem wn_X5_copyFrom : Cond.instanceMethod yX5_copyFrom ∈ uw := uw_in (i := 289) (by decide +kernel) (by decide +kernel)
theorem wn_X2_addHousehold : Cond.instanceMethod yX2_addHousehold ∈ uw := uw_in (i := 293) (by decide +kernel) (by decide +kernel)
theorem wn_X6_recorded : Cond.instanceMethod yX6_recorded ∈ uw := uw_in (i := 298) (by decide +kernel) (by decide +kernel)
theorem wn_X6_dropOldestState : Cond.instanceMethod yX6_dropOldestState ∈ uw := uw_in (i := 302) (by decide +kernel) (by decide +kernel)
theorem wn_X6_addBank : Cond.instanceMethod yX6_addBank ∈ uw := uw_in (i := 305) (by decide +kernel) (by decide +kernel)
theorem wn_X2_openBank : Cond.instanceMethod yX2_openBank ∈ uw := uw_in (i := 309) (by decide +kernel) (by decide +kernel)
theorem wn_X6_setSpades : Cond.instanceMethod yX6_setSpades ∈ uw := uw_in (i := 313) (by decide +kernel) (by decide +kernel)
theorem wn_X2_changeSpades : Cond.instanceMethod yX2_changeSpades ∈ uw := uw_in (i := 317) (by decide +kernel) (by decide +kernel)
theorem wn_X6_setAllowance : Cond.instanceMethod yX6_setAllowance ∈ uw := uw_in (i := 321) (by decide +kernel) (by decide +kernel)
theorem wn_X2_changeAllowance : Cond.instanceMethod yX2_changeAllowance ∈ uw := uw_in (i := 325) (by decide +kernel) (by decide +kernel)
theorem wn_X6_grant : Cond.instanceMethod yX6_grant ∈ uw := uw_in (i := 329) (by decide +kernel) (by decide +kernel)
theorem wn_X2_changeRight : Cond.instanceMethod yX2_changeRight ∈ uw := uw_in (i := 333) (by decide +kernel) (by decide +kernel)
theorem wn_X0_holders : Cond.instanceMethod yX0_holders ∈ uw := uw_in (i := 337) (by decide +kernel) (by decide +kernel)
theorem wn_X6_cut : Cond.instanceMethod yX6_cut ∈ uw := uw_in (i := 347) (by decide +kernel) (by decide +kernel)
theorem wn_X2_cutTurfs : Cond.instanceMethod yX2_cutTurfs ∈ uw := uw_in (i := 351) (by decide +kernel) (by decide +kernel)
theorem wn_X6_turn : Cond.instanceMethod yX6_turn ∈ uw := uw_in (i := 360) (by decide +kernel) (by decide +kernel)
theorem wn_X2_turnStack : Cond.instanceMethod yX2_turnStack ∈ uw := uw_in (i := 364) (by decide +kernel) (by decide +kernel)
theorem wn_X2_hasStack : Cond.instanceMethod yX2_hasStack ∈ uw := uw_in (i := 368) (by decide +kernel) (by decide +kernel)
theorem wn_X6_cart : Cond.instanceMethod yX6_cart ∈ uw := uw_in (i := 372) (by decide +kernel) (by decide +kernel)
theorem wn_X2_cartTurfs : Cond.instanceMethod yX2_cartTurfs ∈ uw := uw_in (i := 376) (by decide +kernel) (by decide +kernel)
theorem wn_X5_loadOf : Cond.instanceMethod yX5_loadOf ∈ uw := uw_in (i := 380) (by decide +kernel) (by decide +kernel)
theorem wn_X5_turfWeight : Cond.instanceMethod yX5_turfWeight ∈ uw := uw_in (i := 384) (by decide +kernel) (by decide +kernel)
theorem wn_X2_bearingToday : Cond.instanceMethod yX2_bearingToday ∈ uw := uw_in (i := 388) (by decide +kernel) (by decide +kernel)
theorem wn_X0_bearing : Cond.instanceMethod yX0_bearing ∈ uw := uw_in (i := 392) (by decide +kernel) (by decide +kernel)
theorem wn_X2_removeStack : Cond.instanceMethod yX2_removeStack ∈ uw := uw_in (i := 400) (by decide +kernel) (by decide +kernel)
theorem wn_X6_join : Cond.instanceMethod yX6_join ∈ uw := uw_in (i := 404) (by decide +kernel) (by decide +kernel)
theorem wn_X2_joinStacks : Cond.instanceMethod yX2_joinStacks ∈ uw := uw_in (i := 408) (by decide +kernel) (by decide +kernel)
theorem wn_X5_takeAllOf : Cond.instanceMethod yX5_takeAllOf ∈ uw := uw_in (i := 412) (by decide +kernel) (by decide +kernel)
theorem wn_X6_repair : Cond.instanceMethod yX6_repair ∈ uw := uw_in (i := 428) (by decide +kernel) (by decide +kernel)
theorem wn_X2_repairRoad : Cond.instanceMethod yX2_repairRoad ∈ uw := uw_in (i := 432) (by decide +kernel) (by decide +kernel)
theorem wn_X6_endYear : Cond.instanceMethod yX6_endYear ∈ uw := uw_in (i := 436) (by decide +kernel) (by decide +kernel)
theorem wn_X2_closeYear : Cond.instanceMethod yX2_closeYear ∈ uw := uw_in (i := 440) (by decide +kernel) (by decide +kernel)
theorem wn_X0_forgetYear : Cond.instanceMethod yX0_forgetYear ∈ uw := uw_in (i := 444) (by decide +kernel) (by decide +kernel)
theorem wn_X6_day : Cond.instanceMethod yX6_day ∈ uw := uw_in (i := 451) (by decide +kernel) (by decide +kernel)
theorem wn_X2_passDay : Cond.instanceMethod yX2_passDay ∈ uw := uw_in (i := 455) (by decide +kernel) (by decide +kernel)
theorem wn_X5_wetnessAfterDay : Cond.instanceMethod yX5_wetnessAfterDay ∈ uw := uw_in (i := 459) (by decide +kernel) (by decide +kernel)
theorem wn_X6_household : Cond.instanceMethod yX6_household ∈ uw := uw_in (i := 472) (by decide +kernel) (by decide +kernel)
theorem wn_X2_householdProperty : Cond.instanceMethod yX2_householdProperty ∈ uw := uw_in (i := 476) (by decide +kernel) (by decide +kernel)
theorem wn_X2_rightsOf : Cond.instanceMethod yX2_rightsOf ∈ uw := uw_in (i := 480) (by decide +kernel) (by decide +kernel)
theorem wn_X2_stacksOf : Cond.instanceMethod yX2_stacksOf ∈ uw := uw_in (i := 484) (by decide +kernel) (by decide +kernel)
theorem wn_X2_turfsInStacksOf : Cond.instanceMethod yX2_turfsInStacksOf ∈ uw := uw_in (i := 488) (by decide +kernel) (by decide +kernel)
theorem wn_X6_bank : Cond.instanceMethod yX6_bank ∈ uw := uw_in (i := 492) (by decide +kernel) (by decide +kernel)
theorem wn_X2_bankProperty : Cond.instanceMethod yX2_bankProperty ∈ uw := uw_in (i := 496) (by decide +kernel) (by decide +kernel)
theorem wn_X0_holdersAsBits : Cond.instanceMethod yX0_holdersAsBits ∈ uw := uw_in (i := 500) (by decide +kernel) (by decide +kernel)
theorem wn_X2_turfsInStacksAt : Cond.instanceMethod yX2_turfsInStacksAt ∈ uw := uw_in (i := 504) (by decide +kernel) (by decide +kernel)
theorem wn_X6_stack : Cond.instanceMethod yX6_stack ∈ uw := uw_in (i := 508) (by decide +kernel) (by decide +kernel)
theorem wn_X2_stackProperty : Cond.instanceMethod yX2_stackProperty ∈ uw := uw_in (i := 512) (by decide +kernel) (by decide +kernel)
theorem wt_X6_isWithin : Cond.static yX6_isWithin ∈ uw := uw_in (i := 235) (by decide +kernel) (by decide +kernel)
theorem wt_max : Cond.static Lib.Math.max.name ∈ uw := uw_in (i := 254) (by decide +kernel) (by decide +kernel)
theorem wt_L_cell : Cond.static yL_cell ∈ uw := uw_in (i := 257) (by decide +kernel) (by decide +kernel)
theorem wt_L_low : Cond.static yL_low ∈ uw := uw_in (i := 261) (by decide +kernel) (by decide +kernel)
theorem wt_L_acts : Cond.static yL_acts ∈ uw := uw_in (i := 265) (by decide +kernel) (by decide +kernel)
theorem wt_L_may : Cond.static yL_may ∈ uw := uw_in (i := 341) (by decide +kernel) (by decide +kernel)
theorem wt_L_share : Cond.static yL_share ∈ uw := uw_in (i := 344) (by decide +kernel) (by decide +kernel)
theorem wt_L_stacked : Cond.static yL_stacked ∈ uw := uw_in (i := 357) (by decide +kernel) (by decide +kernel)
theorem wt_X0_wearBy : Cond.static yX0_wearBy ∈ uw := uw_in (i := 397) (by decide +kernel) (by decide +kernel)
theorem wt_min : Cond.static Lib.Math.min.name ∈ uw := uw_in (i := 416) (by decide +kernel) (by decide +kernel)
theorem wt_L_goes : Cond.static yL_goes ∈ uw := uw_in (i := 419) (by decide +kernel) (by decide +kernel)
theorem wt_L_heavy : Cond.static yL_heavy ∈ uw := uw_in (i := 422) (by decide +kernel) (by decide +kernel)
theorem wt_L_bears : Cond.static yL_bears ∈ uw := uw_in (i := 425) (by decide +kernel) (by decide +kernel)
theorem wt_L_then : Cond.static yL_then ∈ uw := uw_in (i := 448) (by decide +kernel) (by decide +kernel)
theorem wt_L_dry : Cond.static yL_dry ∈ uw := uw_in (i := 466) (by decide +kernel) (by decide +kernel)
theorem wt_L_isSo : Cond.static yL_isSo ∈ uw := uw_in (i := 469) (by decide +kernel) (by decide +kernel)
theorem ws_X6_count : Cond.selects yX6_count.cls yX6_count yX6_count ∈ uw := uw_in (i := 208) (by decide +kernel) (by decide +kernel)
theorem ws_X2_dryStacks : Cond.selects yX2_dryStacks.cls yX2_dryStacks yX2_dryStacks ∈ uw := uw_in (i := 212) (by decide +kernel) (by decide +kernel)
theorem ws_X5_isDry : Cond.selects yX5_isDry.cls yX5_isDry yX5_isDry ∈ uw := uw_in (i := 216) (by decide +kernel) (by decide +kernel)
theorem ws_X4_snapshots : Cond.selects yX4_snapshots.cls yX4_snapshots yX4_snapshots ∈ uw := uw_in (i := 220) (by decide +kernel) (by decide +kernel)
theorem ws_X6_right : Cond.selects yX6_right.cls yX6_right yX6_right ∈ uw := uw_in (i := 224) (by decide +kernel) (by decide +kernel)
theorem ws_X2_rightPart : Cond.selects yX2_rightPart.cls yX2_rightPart yX2_rightPart ∈ uw := uw_in (i := 228) (by decide +kernel) (by decide +kernel)
theorem ws_X2_hasHousehold : Cond.selects yX2_hasHousehold.cls yX2_hasHousehold yX2_hasHousehold ∈ uw := uw_in (i := 232) (by decide +kernel) (by decide +kernel)
theorem ws_X2_hasBank : Cond.selects yX2_hasBank.cls yX2_hasBank yX2_hasBank ∈ uw := uw_in (i := 239) (by decide +kernel) (by decide +kernel)
theorem ws_X2_shareOf : Cond.selects yX2_shareOf.cls yX2_shareOf yX2_shareOf ∈ uw := uw_in (i := 243) (by decide +kernel) (by decide +kernel)
theorem ws_X2_spadesAt : Cond.selects yX2_spadesAt.cls yX2_spadesAt yX2_spadesAt ∈ uw := uw_in (i := 247) (by decide +kernel) (by decide +kernel)
theorem ws_X2_stillToCut : Cond.selects yX2_stillToCut.cls yX2_stillToCut yX2_stillToCut ∈ uw := uw_in (i := 251) (by decide +kernel) (by decide +kernel)
theorem ws_X6_come : Cond.selects yX6_come.cls yX6_come yX6_come ∈ uw := uw_in (i := 270) (by decide +kernel) (by decide +kernel)
theorem ws_X4_copyFrom : Cond.selects yX4_copyFrom.cls yX4_copyFrom yX4_copyFrom ∈ uw := uw_in (i := 274) (by decide +kernel) (by decide +kernel)
theorem ws_X2_copyFrom : Cond.selects yX2_copyFrom.cls yX2_copyFrom yX2_copyFrom ∈ uw := uw_in (i := 278) (by decide +kernel) (by decide +kernel)
theorem ws_X1_copyFrom : Cond.selects yX1_copyFrom.cls yX1_copyFrom yX1_copyFrom ∈ uw := uw_in (i := 282) (by decide +kernel) (by decide +kernel)
theorem ws_X0_copyFrom : Cond.selects yX0_copyFrom.cls yX0_copyFrom yX0_copyFrom ∈ uw := uw_in (i := 286) (by decide +kernel) (by decide +kernel)
theorem ws_X5_copyFrom : Cond.selects yX5_copyFrom.cls yX5_copyFrom yX5_copyFrom ∈ uw := uw_in (i := 290) (by decide +kernel) (by decide +kernel)
theorem ws_X2_addHousehold : Cond.selects yX2_addHousehold.cls yX2_addHousehold yX2_addHousehold ∈ uw := uw_in (i := 294) (by decide +kernel) (by decide +kernel)
theorem ws_X6_addBank : Cond.selects yX6_addBank.cls yX6_addBank yX6_addBank ∈ uw := uw_in (i := 306) (by decide +kernel) (by decide +kernel)
theorem ws_X2_openBank : Cond.selects yX2_openBank.cls yX2_openBank yX2_openBank ∈ uw := uw_in (i := 310) (by decide +kernel) (by decide +kernel)
theorem ws_X6_setSpades : Cond.selects yX6_setSpades.cls yX6_setSpades yX6_setSpades ∈ uw := uw_in (i := 314) (by decide +kernel) (by decide +kernel)
theorem ws_X2_changeSpades : Cond.selects yX2_changeSpades.cls yX2_changeSpades yX2_changeSpades ∈ uw := uw_in (i := 318) (by decide +kernel) (by decide +kernel)
theorem ws_X6_setAllowance : Cond.selects yX6_setAllowance.cls yX6_setAllowance yX6_setAllowance ∈ uw := uw_in (i := 322) (by decide +kernel) (by decide +kernel)
theorem ws_X2_changeAllowance : Cond.selects yX2_changeAllowance.cls yX2_changeAllowance yX2_changeAllowance ∈ uw := uw_in (i := 326) (by decide +kernel) (by decide +kernel)
theorem ws_X6_grant : Cond.selects yX6_grant.cls yX6_grant yX6_grant ∈ uw := uw_in (i := 330) (by decide +kernel) (by decide +kernel)
theorem ws_X2_changeRight : Cond.selects yX2_changeRight.cls yX2_changeRight yX2_changeRight ∈ uw := uw_in (i := 334) (by decide +kernel) (by decide +kernel)
theorem ws_X0_holders : Cond.selects yX0_holders.cls yX0_holders yX0_holders ∈ uw := uw_in (i := 338) (by decide +kernel) (by decide +kernel)
theorem ws_X6_cut : Cond.selects yX6_cut.cls yX6_cut yX6_cut ∈ uw := uw_in (i := 348) (by decide +kernel) (by decide +kernel)
theorem ws_X2_cutTurfs : Cond.selects yX2_cutTurfs.cls yX2_cutTurfs yX2_cutTurfs ∈ uw := uw_in (i := 352) (by decide +kernel) (by decide +kernel)
theorem ws_X6_turn : Cond.selects yX6_turn.cls yX6_turn yX6_turn ∈ uw := uw_in (i := 361) (by decide +kernel) (by decide +kernel)
theorem ws_X2_turnStack : Cond.selects yX2_turnStack.cls yX2_turnStack yX2_turnStack ∈ uw := uw_in (i := 365) (by decide +kernel) (by decide +kernel)
theorem ws_X2_hasStack : Cond.selects yX2_hasStack.cls yX2_hasStack yX2_hasStack ∈ uw := uw_in (i := 369) (by decide +kernel) (by decide +kernel)
theorem ws_X6_cart : Cond.selects yX6_cart.cls yX6_cart yX6_cart ∈ uw := uw_in (i := 373) (by decide +kernel) (by decide +kernel)
theorem ws_X2_cartTurfs : Cond.selects yX2_cartTurfs.cls yX2_cartTurfs yX2_cartTurfs ∈ uw := uw_in (i := 377) (by decide +kernel) (by decide +kernel)
theorem ws_X5_loadOf : Cond.selects yX5_loadOf.cls yX5_loadOf yX5_loadOf ∈ uw := uw_in (i := 381) (by decide +kernel) (by decide +kernel)
theorem ws_X5_turfWeight : Cond.selects yX5_turfWeight.cls yX5_turfWeight yX5_turfWeight ∈ uw := uw_in (i := 385) (by decide +kernel) (by decide +kernel)
theorem ws_X2_bearingToday : Cond.selects yX2_bearingToday.cls yX2_bearingToday yX2_bearingToday ∈ uw := uw_in (i := 389) (by decide +kernel) (by decide +kernel)
theorem ws_X0_bearing : Cond.selects yX0_bearing.cls yX0_bearing yX0_bearing ∈ uw := uw_in (i := 393) (by decide +kernel) (by decide +kernel)
theorem ws_X2_removeStack : Cond.selects yX2_removeStack.cls yX2_removeStack yX2_removeStack ∈ uw := uw_in (i := 401) (by decide +kernel) (by decide +kernel)
theorem ws_X6_join : Cond.selects yX6_join.cls yX6_join yX6_join ∈ uw := uw_in (i := 405) (by decide +kernel) (by decide +kernel)
theorem ws_X2_joinStacks : Cond.selects yX2_joinStacks.cls yX2_joinStacks yX2_joinStacks ∈ uw := uw_in (i := 409) (by decide +kernel) (by decide +kernel)
theorem ws_X5_takeAllOf : Cond.selects yX5_takeAllOf.cls yX5_takeAllOf yX5_takeAllOf ∈ uw := uw_in (i := 413) (by decide +kernel) (by decide +kernel)
theorem ws_X6_repair : Cond.selects yX6_repair.cls yX6_repair yX6_repair ∈ uw := uw_in (i := 429) (by decide +kernel) (by decide +kernel)
theorem ws_X2_repairRoad : Cond.selects yX2_repairRoad.cls yX2_repairRoad yX2_repairRoad ∈ uw := uw_in (i := 433) (by decide +kernel) (by decide +kernel)
theorem ws_X6_endYear : Cond.selects yX6_endYear.cls yX6_endYear yX6_endYear ∈ uw := uw_in (i := 437) (by decide +kernel) (by decide +kernel)
theorem ws_X2_closeYear : Cond.selects yX2_closeYear.cls yX2_closeYear yX2_closeYear ∈ uw := uw_in (i := 441) (by decide +kernel) (by decide +kernel)
theorem ws_X0_forgetYear : Cond.selects yX0_forgetYear.cls yX0_forgetYear yX0_forgetYear ∈ uw := uw_in (i := 445) (by decide +kernel) (by decide +kernel)
theorem ws_X6_day : Cond.selects yX6_day.cls yX6_day yX6_day ∈ uw := uw_in (i := 452) (by decide +kernel) (by decide +kernel)
theorem ws_X2_passDay : Cond.selects yX2_passDay.cls yX2_passDay yX2_passDay ∈ uw := uw_in (i := 456) (by decide +kernel) (by decide +kernel)
theorem ws_X5_wetnessAfterDay : Cond.selects yX5_wetnessAfterDay.cls yX5_wetnessAfterDay yX5_wetnessAfterDay ∈ uw := uw_in (i := 460) (by decide +kernel) (by decide +kernel)
theorem ws_X6_household : Cond.selects yX6_household.cls yX6_household yX6_household ∈ uw := uw_in (i := 473) (by decide +kernel) (by decide +kernel)
theorem ws_X2_householdProperty : Cond.selects yX2_householdProperty.cls yX2_householdProperty yX2_householdProperty ∈ uw := uw_in (i := 477) (by decide +kernel) (by decide +kernel)
theorem ws_X2_rightsOf : Cond.selects yX2_rightsOf.cls yX2_rightsOf yX2_rightsOf ∈ uw := uw_in (i := 481) (by decide +kernel) (by decide +kernel)
theorem ws_X2_stacksOf : Cond.selects yX2_stacksOf.cls yX2_stacksOf yX2_stacksOf ∈ uw := uw_in (i := 485) (by decide +kernel) (by decide +kernel)
theorem ws_X2_turfsInStacksOf : Cond.selects yX2_turfsInStacksOf.cls yX2_turfsInStacksOf yX2_turfsInStacksOf ∈ uw := uw_in (i := 489) (by decide +kernel) (by decide +kernel)
theorem ws_X6_bank : Cond.selects yX6_bank.cls yX6_bank yX6_bank ∈ uw := uw_in (i := 493) (by decide +kernel) (by decide +kernel)
theorem ws_X2_bankProperty : Cond.selects yX2_bankProperty.cls yX2_bankProperty yX2_bankProperty ∈ uw := uw_in (i := 497) (by decide +kernel) (by decide +kernel)
theorem ws_X0_holdersAsBits : Cond.selects yX0_holdersAsBits.cls yX0_holdersAsBits yX0_holdersAsBits ∈ uw := uw_in (i := 501) (by decide +kernel) (by decide +kernel)
theorem ws_X2_turfsInStacksAt : Cond.selects yX2_turfsInStacksAt.cls yX2_turfsInStacksAt yX2_turfsInStacksAt ∈ uw := uw_in (i := 505) (by decide +kernel) (by decide +kernel)
theorem ws_X6_stack : Cond.selects yX6_stack.cls yX6_stack yX6_stack ∈ uw := uw_in (i := 509) (by decide +kernel) (by decide +kernel)
theorem ws_X2_stackProperty : Cond.selects yX2_stackProperty.cls yX2_stackProperty yX2_stackProperty ∈ uw := uw_in (i := 513) (by decide +kernel) (by decide +kernel)
theorem ws_X6_recorded : Cond.selects yX6_recorded.cls yX6_recorded yX6_recorded ∈ uw := uw_sel (i := 0) (by decide +kernel) (by decide +kernel)
theorem ws_X6_dropOldestState : Cond.selects yX6_dropOldestState.cls yX6_dropOldestState yX6_dropOldestState ∈ uw := uw_sel (i := 1) (by decide +kernel) (by decide +kernel)
theorem wv_L_105 : pWI RL 105 yX6_init cX6_init 2 0 := ⟨⟨uw_in (i := 11) (by decide +kernel) (by decide +kernel), wi_X6, wc_X6_init, by decide +kernel⟩, rfl, wn_X6_init⟩
theorem wm_X6_1 : Cond.methodLink RX6 1 objectInit ∈ uw := uw_in (i := 14) (by decide +kernel) (by decide +kernel)
theorem wv_X6_9 : pWI RX6 9 yX4_init cX4_init 2 0 := ⟨⟨uw_in (i := 19) (by decide +kernel) (by decide +kernel), wi_X4, wc_X4_init, by decide +kernel⟩, rfl, wn_X4_init⟩
theorem wm_X4_3 : Cond.methodLink RX4 3 objectInit ∈ uw := uw_in (i := 22) (by decide +kernel) (by decide +kernel)
theorem wv_X4_11 : pWI RX4 11 yX2_init cX2_init 2 0 := ⟨⟨uw_in (i := 25) (by decide +kernel) (by decide +kernel), wi_X2, wc_X2_init, by decide +kernel⟩, rfl, wn_X2_init⟩
theorem wm_X2_3 : Cond.methodLink RX2 3 objectInit ∈ uw := uw_in (i := 28) (by decide +kernel) (by decide +kernel)
theorem wm_X1_1 : Cond.methodLink RX1 1 objectInit ∈ uw := uw_in (i := 39) (by decide +kernel) (by decide +kernel)
theorem wm_X0_3 : Cond.methodLink RX0 3 objectInit ∈ uw := uw_in (i := 57) (by decide +kernel) (by decide +kernel)
theorem wm_X5_3 : Cond.methodLink RX5 3 objectInit ∈ uw := uw_in (i := 97) (by decide +kernel) (by decide +kernel)
theorem wm_X3_3 : Cond.methodLink RX3 3 objectInit ∈ uw := uw_in (i := 171) (by decide +kernel) (by decide +kernel)
theorem wv_L_90 : pWV RL 90 yX6_count cX6_count 2 (some .int) 1 := ⟨⟨uw_in (i := 206) (by decide +kernel) (by decide +kernel), wi_X6, wc_X6_count, by decide +kernel⟩, wn_X6_count, ws_X6_count⟩
theorem wv_X6_115 : pWV RX6 115 yX2_dryStacks cX2_dryStacks 3 (some .int) 0 := ⟨⟨uw_in (i := 210) (by decide +kernel) (by decide +kernel), wi_X2, wc_X2_dryStacks, by decide +kernel⟩, wn_X2_dryStacks, ws_X2_dryStacks⟩
theorem wv_X2_139 : pWV RX2 139 yX5_isDry cX5_isDry 1 (some .boolean) 0 := ⟨⟨uw_in (i := 214) (by decide +kernel) (by decide +kernel), wi_X5, wc_X5_isDry, by decide +kernel⟩, wn_X5_isDry, ws_X5_isDry⟩
theorem wv_X6_124 : pWV RX6 124 yX4_snapshots cX4_snapshots 3 (some .int) 0 := ⟨⟨uw_in (i := 218) (by decide +kernel) (by decide +kernel), wi_X4, wc_X4_snapshots, by decide +kernel⟩, wn_X4_snapshots, ws_X4_snapshots⟩
theorem wv_L_93 : pWV RL 93 yX6_right cX6_right 4 (some .int) 3 := ⟨⟨uw_in (i := 222) (by decide +kernel) (by decide +kernel), wi_X6, wc_X6_right, by decide +kernel⟩, wn_X6_right, ws_X6_right⟩
theorem wv_X6_136 : pWV RX6 136 yX2_rightPart cX2_rightPart 4 (some .int) 3 := ⟨⟨uw_in (i := 226) (by decide +kernel) (by decide +kernel), wi_X2, wc_X2_rightPart, by decide +kernel⟩, wn_X2_rightPart, ws_X2_rightPart⟩
theorem wv_X2_68 : pWV RX2 68 yX2_hasHousehold cX2_hasHousehold 2 (some .boolean) 1 := ⟨⟨uw_in (i := 230) (by decide +kernel) (by decide +kernel), wi_X2, wc_X2_hasHousehold, by decide +kernel⟩, wn_X2_hasHousehold, ws_X2_hasHousehold⟩
theorem wv_X2_78 : pWV RX2 78 yX2_hasBank cX2_hasBank 2 (some .boolean) 1 := ⟨⟨uw_in (i := 237) (by decide +kernel) (by decide +kernel), wi_X2, wc_X2_hasBank, by decide +kernel⟩, wn_X2_hasBank, ws_X2_hasBank⟩
theorem wv_X2_93 : pWV RX2 93 yX2_shareOf cX2_shareOf 7 (some .int) 2 := ⟨⟨uw_in (i := 241) (by decide +kernel) (by decide +kernel), wi_X2, wc_X2_shareOf, by decide +kernel⟩, wn_X2_shareOf, ws_X2_shareOf⟩
theorem wv_X2_89 : pWV RX2 89 yX2_spadesAt cX2_spadesAt 4 (some .int) 1 := ⟨⟨uw_in (i := 245) (by decide +kernel) (by decide +kernel), wi_X2, wc_X2_spadesAt, by decide +kernel⟩, wn_X2_spadesAt, ws_X2_spadesAt⟩
theorem wv_X2_107 : pWV RX2 107 yX2_stillToCut cX2_stillToCut 3 (some .int) 2 := ⟨⟨uw_in (i := 249) (by decide +kernel) (by decide +kernel), wi_X2, wc_X2_stillToCut, by decide +kernel⟩, wn_X2_stillToCut, ws_X2_stillToCut⟩
theorem wm_X2_101 : Cond.methodLink RX2 101 Lib.Math.max.name ∈ uw := uw_in (i := 253) (by decide +kernel) (by decide +kernel)
theorem wv_L_110 : pWS RL 110 yL_cell cL_cell 2 (some .int) 2 := ⟨⟨uw_in (i := 256) (by decide +kernel) (by decide +kernel), wi_L, wc_L_cell, by decide +kernel⟩, wt_L_cell⟩
theorem wv_L_42 : pWS RL 42 yL_low cL_low 2 (some .int) 2 := ⟨⟨uw_in (i := 260) (by decide +kernel) (by decide +kernel), wi_L, wc_L_low, by decide +kernel⟩, wt_L_low⟩
theorem wv_L_114 : pWS RL 114 yL_acts cL_acts 14 (some .boolean) 7 := ⟨⟨uw_in (i := 264) (by decide +kernel) (by decide +kernel), wi_L, wc_L_acts, by decide +kernel⟩, wt_L_acts⟩
theorem wv_L_45 : pWV RL 45 yX6_come cX6_come 2 (some .int) 1 := ⟨⟨uw_in (i := 268) (by decide +kernel) (by decide +kernel), wi_X6, wc_X6_come, by decide +kernel⟩, wn_X6_come, ws_X6_come⟩
theorem wv_X6_34 : pWV RX6 34 yX4_copyFrom cX4_copyFrom 3 none 1 := ⟨⟨uw_in (i := 272) (by decide +kernel) (by decide +kernel), wi_X4, wc_X4_copyFrom, by decide +kernel⟩, wn_X4_copyFrom, ws_X4_copyFrom⟩
theorem wv_X4_26 : pWV RX4 26 yX2_copyFrom cX2_copyFrom 3 none 1 := ⟨⟨uw_in (i := 276) (by decide +kernel) (by decide +kernel), wi_X2, wc_X2_copyFrom, by decide +kernel⟩, wn_X2_copyFrom, ws_X2_copyFrom⟩
theorem wv_X2_51 : pWV RX2 51 yX1_copyFrom cX1_copyFrom 2 none 1 := ⟨⟨uw_in (i := 280) (by decide +kernel) (by decide +kernel), wi_X1, wc_X1_copyFrom, by decide +kernel⟩, wn_X1_copyFrom, ws_X1_copyFrom⟩
theorem wv_X2_55 : pWV RX2 55 yX0_copyFrom cX0_copyFrom 3 none 1 := ⟨⟨uw_in (i := 284) (by decide +kernel) (by decide +kernel), wi_X0, wc_X0_copyFrom, by decide +kernel⟩, wn_X0_copyFrom, ws_X0_copyFrom⟩
theorem wv_X2_58 : pWV RX2 58 yX5_copyFrom cX5_copyFrom 2 none 1 := ⟨⟨uw_in (i := 288) (by decide +kernel) (by decide +kernel), wi_X5, wc_X5_copyFrom, by decide +kernel⟩, wn_X5_copyFrom, ws_X5_copyFrom⟩
theorem wv_X6_42 : pWV RX6 42 yX2_addHousehold cX2_addHousehold 2 (some .int) 1 := ⟨⟨uw_in (i := 292) (by decide +kernel) (by decide +kernel), wi_X2, wc_X2_addHousehold, by decide +kernel⟩, wn_X2_addHousehold, ws_X2_addHousehold⟩
theorem wv_X6_48 : pWV RX6 48 yX6_recorded cX6_recorded 3 (some .int) 1 := ⟨⟨uw_in (i := 296) (by decide +kernel) (by decide +kernel), wi_X6, wc_X6_recorded, by decide +kernel⟩, wn_X6_recorded, ws_X6_recorded⟩
theorem wv_X6_157 : pWV RX6 157 yX6_dropOldestState cX6_dropOldestState 3 none 0 := ⟨⟨uw_in (i := 300) (by decide +kernel) (by decide +kernel), wi_X6, wc_X6_dropOldestState, by decide +kernel⟩, wn_X6_dropOldestState, ws_X6_dropOldestState⟩
theorem wv_L_48 : pWV RL 48 yX6_addBank cX6_addBank 3 (some .int) 2 := ⟨⟨uw_in (i := 304) (by decide +kernel) (by decide +kernel), wi_X6, wc_X6_addBank, by decide +kernel⟩, wn_X6_addBank, ws_X6_addBank⟩
theorem wv_X6_55 : pWV RX6 55 yX2_openBank cX2_openBank 3 (some .int) 2 := ⟨⟨uw_in (i := 308) (by decide +kernel) (by decide +kernel), wi_X2, wc_X2_openBank, by decide +kernel⟩, wn_X2_openBank, ws_X2_openBank⟩
theorem wv_L_51 : pWV RL 51 yX6_setSpades cX6_setSpades 3 (some .int) 2 := ⟨⟨uw_in (i := 312) (by decide +kernel) (by decide +kernel), wi_X6, wc_X6_setSpades, by decide +kernel⟩, wn_X6_setSpades, ws_X6_setSpades⟩
theorem wv_X6_51 : pWV RX6 51 yX2_changeSpades cX2_changeSpades 4 (some .int) 2 := ⟨⟨uw_in (i := 316) (by decide +kernel) (by decide +kernel), wi_X2, wc_X2_changeSpades, by decide +kernel⟩, wn_X2_changeSpades, ws_X2_changeSpades⟩
theorem wv_L_54 : pWV RL 54 yX6_setAllowance cX6_setAllowance 3 (some .int) 2 := ⟨⟨uw_in (i := 320) (by decide +kernel) (by decide +kernel), wi_X6, wc_X6_setAllowance, by decide +kernel⟩, wn_X6_setAllowance, ws_X6_setAllowance⟩
theorem wv_X6_58 : pWV RX6 58 yX2_changeAllowance cX2_changeAllowance 4 (some .int) 2 := ⟨⟨uw_in (i := 324) (by decide +kernel) (by decide +kernel), wi_X2, wc_X2_changeAllowance, by decide +kernel⟩, wn_X2_changeAllowance, ws_X2_changeAllowance⟩
theorem wv_L_57 : pWV RL 57 yX6_grant cX6_grant 4 (some .int) 3 := ⟨⟨uw_in (i := 328) (by decide +kernel) (by decide +kernel), wi_X6, wc_X6_grant, by decide +kernel⟩, wn_X6_grant, ws_X6_grant⟩
theorem wv_X6_61 : pWV RX6 61 yX2_changeRight cX2_changeRight 4 (some .int) 3 := ⟨⟨uw_in (i := 332) (by decide +kernel) (by decide +kernel), wi_X2, wc_X2_changeRight, by decide +kernel⟩, wn_X2_changeRight, ws_X2_changeRight⟩
theorem wv_X2_85 : pWV RX2 85 yX0_holders cX0_holders 3 (some .int) 0 := ⟨⟨uw_in (i := 336) (by decide +kernel) (by decide +kernel), wi_X0, wc_X0_holders, by decide +kernel⟩, wn_X0_holders, ws_X0_holders⟩
theorem wv_L_61 : pWS RL 61 yL_may cL_may 7 (some .int) 6 := ⟨⟨uw_in (i := 340) (by decide +kernel) (by decide +kernel), wi_L, wc_L_may, by decide +kernel⟩, wt_L_may⟩
theorem wv_L_9 : pWS RL 9 yL_share cL_share 10 (some .int) 5 := ⟨⟨uw_in (i := 343) (by decide +kernel) (by decide +kernel), wi_L, wc_L_share, by decide +kernel⟩, wt_L_share⟩
theorem wv_L_65 : pWV RL 65 yX6_cut cX6_cut 4 (some .int) 3 := ⟨⟨uw_in (i := 346) (by decide +kernel) (by decide +kernel), wi_X6, wc_X6_cut, by decide +kernel⟩, wn_X6_cut, ws_X6_cut⟩
theorem wv_X6_65 : pWV RX6 65 yX2_cutTurfs cX2_cutTurfs 6 (some .int) 3 := ⟨⟨uw_in (i := 350) (by decide +kernel) (by decide +kernel), wi_X2, wc_X2_cutTurfs, by decide +kernel⟩, wn_X2_cutTurfs, ws_X2_cutTurfs⟩
theorem wv_L_68 : pWS RL 68 yL_stacked cL_stacked 12 (some .boolean) 7 := ⟨⟨uw_in (i := 356) (by decide +kernel) (by decide +kernel), wi_L, wc_L_stacked, by decide +kernel⟩, wt_L_stacked⟩
theorem wv_L_16 : pWV RL 16 yX6_turn cX6_turn 2 (some .int) 1 := ⟨⟨uw_in (i := 359) (by decide +kernel) (by decide +kernel), wi_X6, wc_X6_turn, by decide +kernel⟩, wn_X6_turn, ws_X6_turn⟩
theorem wv_X6_68 : pWV RX6 68 yX2_turnStack cX2_turnStack 3 (some .int) 1 := ⟨⟨uw_in (i := 363) (by decide +kernel) (by decide +kernel), wi_X2, wc_X2_turnStack, by decide +kernel⟩, wn_X2_turnStack, ws_X2_turnStack⟩
theorem wv_X2_129 : pWV RX2 129 yX2_hasStack cX2_hasStack 2 (some .boolean) 1 := ⟨⟨uw_in (i := 367) (by decide +kernel) (by decide +kernel), wi_X2, wc_X2_hasStack, by decide +kernel⟩, wn_X2_hasStack, ws_X2_hasStack⟩
theorem wv_L_22 : pWV RL 22 yX6_cart cX6_cart 3 (some .int) 2 := ⟨⟨uw_in (i := 371) (by decide +kernel) (by decide +kernel), wi_X6, wc_X6_cart, by decide +kernel⟩, wn_X6_cart, ws_X6_cart⟩
theorem wv_X6_74 : pWV RX6 74 yX2_cartTurfs cX2_cartTurfs 7 (some .int) 2 := ⟨⟨uw_in (i := 375) (by decide +kernel) (by decide +kernel), wi_X2, wc_X2_cartTurfs, by decide +kernel⟩, wn_X2_cartTurfs, ws_X2_cartTurfs⟩
theorem wv_X2_165 : pWV RX2 165 yX5_loadOf cX5_loadOf 2 (some .int) 1 := ⟨⟨uw_in (i := 379) (by decide +kernel) (by decide +kernel), wi_X5, wc_X5_loadOf, by decide +kernel⟩, wn_X5_loadOf, ws_X5_loadOf⟩
theorem wv_X5_27 : pWV RX5 27 yX5_turfWeight cX5_turfWeight 1 (some .int) 0 := ⟨⟨uw_in (i := 383) (by decide +kernel) (by decide +kernel), wi_X5, wc_X5_turfWeight, by decide +kernel⟩, wn_X5_turfWeight, ws_X5_turfWeight⟩
theorem wv_X2_169 : pWV RX2 169 yX2_bearingToday cX2_bearingToday 2 (some .int) 1 := ⟨⟨uw_in (i := 387) (by decide +kernel) (by decide +kernel), wi_X2, wc_X2_bearingToday, by decide +kernel⟩, wn_X2_bearingToday, ws_X2_bearingToday⟩
theorem wv_X2_162 : pWV RX2 162 yX0_bearing cX0_bearing 3 (some .int) 2 := ⟨⟨uw_in (i := 391) (by decide +kernel) (by decide +kernel), wi_X0, wc_X0_bearing, by decide +kernel⟩, wn_X0_bearing, ws_X0_bearing⟩
theorem wm_X0_38 : Cond.methodLink RX0 38 Lib.Math.max.name ∈ uw := uw_in (i := 395) (by decide +kernel) (by decide +kernel)
theorem wv_X2_181 : pWS RX2 181 yX0_wearBy cX0_wearBy 1 (some .int) 1 := ⟨⟨uw_in (i := 396) (by decide +kernel) (by decide +kernel), wi_X0, wc_X0_wearBy, by decide +kernel⟩, wt_X0_wearBy⟩
theorem wv_X2_135 : pWV RX2 135 yX2_removeStack cX2_removeStack 4 none 1 := ⟨⟨uw_in (i := 399) (by decide +kernel) (by decide +kernel), wi_X2, wc_X2_removeStack, by decide +kernel⟩, wn_X2_removeStack, ws_X2_removeStack⟩
theorem wv_L_26 : pWV RL 26 yX6_join cX6_join 3 (some .int) 2 := ⟨⟨uw_in (i := 403) (by decide +kernel) (by decide +kernel), wi_X6, wc_X6_join, by decide +kernel⟩, wn_X6_join, ws_X6_join⟩
theorem wv_X6_71 : pWV RX6 71 yX2_joinStacks cX2_joinStacks 5 (some .int) 2 := ⟨⟨uw_in (i := 407) (by decide +kernel) (by decide +kernel), wi_X2, wc_X2_joinStacks, by decide +kernel⟩, wn_X2_joinStacks, ws_X2_joinStacks⟩
theorem wv_X2_132 : pWV RX2 132 yX5_takeAllOf cX5_takeAllOf 5 none 1 := ⟨⟨uw_in (i := 411) (by decide +kernel) (by decide +kernel), wi_X5, wc_X5_takeAllOf, by decide +kernel⟩, wn_X5_takeAllOf, ws_X5_takeAllOf⟩
theorem wm_X5_31 : Cond.methodLink RX5 31 Lib.Math.min.name ∈ uw := uw_in (i := 415) (by decide +kernel) (by decide +kernel)
theorem wv_L_29 : pWS RL 29 yL_goes cL_goes 4 none 3 := ⟨⟨uw_in (i := 418) (by decide +kernel) (by decide +kernel), wi_L, wc_L_goes, by decide +kernel⟩, wt_L_goes⟩
theorem wv_L_33 : pWS RL 33 yL_heavy cL_heavy 4 (some .int) 3 := ⟨⟨uw_in (i := 421) (by decide +kernel) (by decide +kernel), wi_L, wc_L_heavy, by decide +kernel⟩, wt_L_heavy⟩
theorem wv_L_37 : pWS RL 37 yL_bears cL_bears 4 (some .int) 3 := ⟨⟨uw_in (i := 424) (by decide +kernel) (by decide +kernel), wi_L, wc_L_bears, by decide +kernel⟩, wt_L_bears⟩
theorem wv_L_72 : pWV RL 72 yX6_repair cX6_repair 2 (some .int) 1 := ⟨⟨uw_in (i := 427) (by decide +kernel) (by decide +kernel), wi_X6, wc_X6_repair, by decide +kernel⟩, wn_X6_repair, ws_X6_repair⟩
theorem wv_X6_77 : pWV RX6 77 yX2_repairRoad cX2_repairRoad 3 (some .int) 1 := ⟨⟨uw_in (i := 431) (by decide +kernel) (by decide +kernel), wi_X2, wc_X2_repairRoad, by decide +kernel⟩, wn_X2_repairRoad, ws_X2_repairRoad⟩
theorem wv_L_75 : pWV RL 75 yX6_endYear cX6_endYear 1 (some .int) 0 := ⟨⟨uw_in (i := 435) (by decide +kernel) (by decide +kernel), wi_X6, wc_X6_endYear, by decide +kernel⟩, wn_X6_endYear, ws_X6_endYear⟩
theorem wv_X6_83 : pWV RX6 83 yX2_closeYear cX2_closeYear 3 (some .int) 0 := ⟨⟨uw_in (i := 439) (by decide +kernel) (by decide +kernel), wi_X2, wc_X2_closeYear, by decide +kernel⟩, wn_X2_closeYear, ws_X2_closeYear⟩
theorem wv_X2_156 : pWV RX2 156 yX0_forgetYear cX0_forgetYear 2 none 0 := ⟨⟨uw_in (i := 443) (by decide +kernel) (by decide +kernel), wi_X0, wc_X0_forgetYear, by decide +kernel⟩, wn_X0_forgetYear, ws_X0_forgetYear⟩
theorem wv_L_79 : pWS RL 79 yL_then cL_then 5 (some .int) 4 := ⟨⟨uw_in (i := 447) (by decide +kernel) (by decide +kernel), wi_L, wc_L_then, by decide +kernel⟩, wt_L_then⟩
theorem wv_L_83 : pWV RL 83 yX6_day cX6_day 3 (some .int) 2 := ⟨⟨uw_in (i := 450) (by decide +kernel) (by decide +kernel), wi_X6, wc_X6_day, by decide +kernel⟩, wn_X6_day, ws_X6_day⟩
theorem wv_X6_80 : pWV RX6 80 yX2_passDay cX2_passDay 5 (some .int) 2 := ⟨⟨uw_in (i := 454) (by decide +kernel) (by decide +kernel), wi_X2, wc_X2_passDay, by decide +kernel⟩, wn_X2_passDay, ws_X2_passDay⟩
theorem wv_X2_146 : pWV RX2 146 yX5_wetnessAfterDay cX5_wetnessAfterDay 6 (some .int) 3 := ⟨⟨uw_in (i := 458) (by decide +kernel) (by decide +kernel), wi_X5, wc_X5_wetnessAfterDay, by decide +kernel⟩, wn_X5_wetnessAfterDay, ws_X5_wetnessAfterDay⟩
theorem wv_X2_150 : pWV RX2 150 yX2_dryStacks cX2_dryStacks 3 (some .int) 0 := ⟨⟨uw_in (i := 464) (by decide +kernel) (by decide +kernel), wi_X2, wc_X2_dryStacks, by decide +kernel⟩, wn_X2_dryStacks, ws_X2_dryStacks⟩
theorem wv_L_86 : pWS RL 86 yL_dry cL_dry 4 (some .int) 2 := ⟨⟨uw_in (i := 465) (by decide +kernel) (by decide +kernel), wi_L, wc_L_dry, by decide +kernel⟩, wt_L_dry⟩
theorem wv_L_106 : pWS RL 106 yL_isSo cL_isSo 13 (some .boolean) 6 := ⟨⟨uw_in (i := 468) (by decide +kernel) (by decide +kernel), wi_L, wc_L_isSo, by decide +kernel⟩, wt_L_isSo⟩
theorem wv_L_96 : pWV RL 96 yX6_household cX6_household 3 (some .int) 2 := ⟨⟨uw_in (i := 471) (by decide +kernel) (by decide +kernel), wi_X6, wc_X6_household, by decide +kernel⟩, wn_X6_household, ws_X6_household⟩
theorem wv_X6_130 : pWV RX6 130 yX2_householdProperty cX2_householdProperty 3 (some .int) 2 := ⟨⟨uw_in (i := 475) (by decide +kernel) (by decide +kernel), wi_X2, wc_X2_householdProperty, by decide +kernel⟩, wn_X2_householdProperty, ws_X2_householdProperty⟩
theorem wv_X2_187 : pWV RX2 187 yX2_rightsOf cX2_rightsOf 4 (some .int) 1 := ⟨⟨uw_in (i := 479) (by decide +kernel) (by decide +kernel), wi_X2, wc_X2_rightsOf, by decide +kernel⟩, wn_X2_rightsOf, ws_X2_rightsOf⟩
theorem wv_X2_190 : pWV RX2 190 yX2_stacksOf cX2_stacksOf 4 (some .int) 1 := ⟨⟨uw_in (i := 483) (by decide +kernel) (by decide +kernel), wi_X2, wc_X2_stacksOf, by decide +kernel⟩, wn_X2_stacksOf, ws_X2_stacksOf⟩
theorem wv_X2_193 : pWV RX2 193 yX2_turfsInStacksOf cX2_turfsInStacksOf 4 (some .int) 1 := ⟨⟨uw_in (i := 487) (by decide +kernel) (by decide +kernel), wi_X2, wc_X2_turfsInStacksOf, by decide +kernel⟩, wn_X2_turfsInStacksOf, ws_X2_turfsInStacksOf⟩
theorem wv_L_99 : pWV RL 99 yX6_bank cX6_bank 3 (some .int) 2 := ⟨⟨uw_in (i := 491) (by decide +kernel) (by decide +kernel), wi_X6, wc_X6_bank, by decide +kernel⟩, wn_X6_bank, ws_X6_bank⟩
theorem wv_X6_133 : pWV RX6 133 yX2_bankProperty cX2_bankProperty 4 (some .int) 2 := ⟨⟨uw_in (i := 495) (by decide +kernel) (by decide +kernel), wi_X2, wc_X2_bankProperty, by decide +kernel⟩, wn_X2_bankProperty, ws_X2_bankProperty⟩
theorem wv_X2_196 : pWV RX2 196 yX0_holdersAsBits cX0_holdersAsBits 3 (some .int) 0 := ⟨⟨uw_in (i := 499) (by decide +kernel) (by decide +kernel), wi_X0, wc_X0_holdersAsBits, by decide +kernel⟩, wn_X0_holdersAsBits, ws_X0_holdersAsBits⟩
theorem wv_X2_199 : pWV RX2 199 yX2_turfsInStacksAt cX2_turfsInStacksAt 4 (some .int) 1 := ⟨⟨uw_in (i := 503) (by decide +kernel) (by decide +kernel), wi_X2, wc_X2_turfsInStacksAt, by decide +kernel⟩, wn_X2_turfsInStacksAt, ws_X2_turfsInStacksAt⟩
theorem wv_L_102 : pWV RL 102 yX6_stack cX6_stack 3 (some .int) 2 := ⟨⟨uw_in (i := 507) (by decide +kernel) (by decide +kernel), wi_X6, wc_X6_stack, by decide +kernel⟩, wn_X6_stack, ws_X6_stack⟩
theorem wv_X6_139 : pWV RX6 139 yX2_stackProperty cX2_stackProperty 4 (some .int) 2 := ⟨⟨uw_in (i := 511) (by decide +kernel) (by decide +kernel), wi_X2, wc_X2_stackProperty, by decide +kernel⟩, wn_X2_stackProperty, ws_X2_stackProperty⟩
theorem wv_X2_143 : pWV RX2 143 yX5_turfWeight cX5_turfWeight 1 (some .int) 0 := ⟨⟨uw_in (i := 515) (by decide +kernel) (by decide +kernel), wi_X5, wc_X5_turfWeight, by decide +kernel⟩, wn_X5_turfWeight, ws_X5_turfWeight⟩
theorem wv_X2_48 : pWN RX2 48 yX1_init RX6 cX1_init 1 none 0 ∧ yX1_init.name = "<init>" ∧ Cond.instanceMethod yX1_init ∈ uw := ⟨⟨by simp [pNest], wi_X1, wc_X1_init, by decide +kernel⟩, rfl, wn_X1_init⟩
theorem wv_X2_49 : pWN RX2 49 yX0_init RX6 cX0_init 1 none 0 ∧ yX0_init.name = "<init>" ∧ Cond.instanceMethod yX0_init ∈ uw := ⟨⟨by simp [pNest], wi_X0, wc_X0_init, by decide +kernel⟩, rfl, wn_X0_init⟩
theorem wv_X2_50 : pWN RX2 50 yX5_init RX6 cX5_init 1 none 0 ∧ yX5_init.name = "<init>" ∧ Cond.instanceMethod yX5_init ∈ uw := ⟨⟨by simp [pNest], wi_X5, wc_X5_init, by decide +kernel⟩, rfl, wn_X5_init⟩
theorem wv_X6_29 : pWN RX6 29 yX3_init RX6 cX3_init 1 none 0 ∧ yX3_init.name = "<init>" ∧ Cond.instanceMethod yX3_init ∈ uw := ⟨⟨by simp [pNest], wi_X3, wc_X3_init, by decide +kernel⟩, rfl, wn_X3_init⟩
theorem wv_X2_61 : pWN RX2 61 yX6_isWithin RX6 cX6_isWithin 3 (some .boolean) 3 ∧ Cond.static yX6_isWithin ∈ uw := ⟨⟨by simp [pNest], wi_X6, wc_X6_isWithin, by decide +kernel⟩, wt_X6_isWithin⟩
theorem wk_L_17 : Cond.classLink RL 17 RX6 ∈ uw := uw_in (i := 9) (by decide +kernel) (by decide +kernel)
theorem wk_X6_7 : Cond.classLink RX6 7 RX4 ∈ uw := uw_in (i := 17) (by decide +kernel) (by decide +kernel)
theorem wk_X4_9 : Cond.classLink RX4 9 RX2 ∈ uw := uw_in (i := 23) (by decide +kernel) (by decide +kernel)
theorem wk_X2_30 : Cond.classLink RX2 30 RX1 ∈ uw := uw_in (i := 29) (by decide +kernel) (by decide +kernel)
theorem wk_X2_36 : Cond.classLink RX2 36 RX0 ∈ uw := uw_in (i := 31) (by decide +kernel) (by decide +kernel)
theorem wk_X2_42 : Cond.classLink RX2 42 RX5 ∈ uw := uw_in (i := 33) (by decide +kernel) (by decide +kernel)
theorem wk_X6_27 : Cond.classLink RX6 27 RX3 ∈ uw := uw_in (i := 166) (by decide +kernel) (by decide +kernel)
theorem wx_X6 : Cond.instantiable RX6 5 ∈ uw := uw_in (i := 10) (by decide +kernel) (by decide +kernel)
theorem wx_X4 : Cond.instantiable RX4 3 ∈ uw := uw_in (i := 18) (by decide +kernel) (by decide +kernel)
theorem wx_X2 : Cond.instantiable RX2 9 ∈ uw := uw_in (i := 24) (by decide +kernel) (by decide +kernel)
theorem wx_X1 : Cond.instantiable RX1 3 ∈ uw := uw_in (i := 35) (by decide +kernel) (by decide +kernel)
theorem wx_X0 : Cond.instantiable RX0 8 ∈ uw := uw_in (i := 53) (by decide +kernel) (by decide +kernel)
theorem wx_X5 : Cond.instantiable RX5 5 ∈ uw := uw_in (i := 93) (by decide +kernel) (by decide +kernel)
theorem wx_X3 : Cond.instantiable RX3 5 ∈ uw := uw_in (i := 167) (by decide +kernel) (by decide +kernel)
theorem wq_L_7 : Cond.constant RL 7 40503 ∈ uw := uw_in (i := 259) (by decide +kernel) (by decide +kernel)
theorem wq_L_8 : Cond.constant RL 8 2147483647 ∈ uw := uw_in (i := 263) (by decide +kernel) (by decide +kernel)
theorem wq_L_41 : Cond.constant RL 41 10000000 ∈ uw := uw_in (i := 267) (by decide +kernel) (by decide +kernel)
theorem wq_X2_122 : Cond.constant RX2 122 100000 ∈ uw := uw_in (i := 354) (by decide +kernel) (by decide +kernel)
theorem wq_L_15 : Cond.constant RL 15 100000 ∈ uw := uw_in (i := 355) (by decide +kernel) (by decide +kernel)
theorem wq_X5_37 : Cond.constantDouble RX5 37 4634204016564240384 ∈ uw := uw_in (i := 462) (by decide +kernel) (by decide +kernel)
theorem wq_X5_39 : Cond.constant RX5 39 100000 ∈ uw := uw_in (i := 463) (by decide +kernel) (by decide +kernel)
theorem wa_boolean : Cond.arrayClass .boolean ∈ uw := uw_in (i := 91) (by decide +kernel) (by decide +kernel)
theorem wa_int : Cond.arrayClass .int ∈ uw := uw_in (i := 92) (by decide +kernel) (by decide +kernel)
theorem wa_char : Cond.arrayClass .char ∈ uw := uw_in (i := 189) (by decide +kernel) (by decide +kernel)
theorem inU0 : ∀ w ∈ u_ws RX0 TX0 8, w ∈ uw := by
  intro w hw
  obtain ⟨k, hk, rfl⟩ := List.mem_map.mp hw
  have hk := List.mem_range.mp hk
  match k, hk with
  | 0, _ => exact uw_in (i := 74) (by decide +kernel) (by decide +kernel)
  | 1, _ => exact uw_in (i := 76) (by decide +kernel) (by decide +kernel)
  | 2, _ => exact uw_in (i := 78) (by decide +kernel) (by decide +kernel)
  | 3, _ => exact uw_in (i := 80) (by decide +kernel) (by decide +kernel)
  | 4, _ => exact uw_in (i := 82) (by decide +kernel) (by decide +kernel)
  | 5, _ => exact uw_in (i := 84) (by decide +kernel) (by decide +kernel)
  | 6, _ => exact uw_in (i := 86) (by decide +kernel) (by decide +kernel)
  | 7, _ => exact uw_in (i := 88) (by decide +kernel) (by decide +kernel)
theorem inU1 : ∀ w ∈ u_ws RX1 TX1 3, w ∈ uw := by
  intro w hw
  obtain ⟨k, hk, rfl⟩ := List.mem_map.mp hw
  have hk := List.mem_range.mp hk
  match k, hk with
  | 0, _ => exact uw_in (i := 46) (by decide +kernel) (by decide +kernel)
  | 1, _ => exact uw_in (i := 48) (by decide +kernel) (by decide +kernel)
  | 2, _ => exact uw_in (i := 50) (by decide +kernel) (by decide +kernel)
theorem inU2 : ∀ w ∈ u_ws RX2 TX2 9, w ∈ uw := by
  intro w hw
  obtain ⟨k, hk, rfl⟩ := List.mem_map.mp hw
  have hk := List.mem_range.mp hk
  match k, hk with
  | 0, _ => exact uw_in (i := 134) (by decide +kernel) (by decide +kernel)
  | 1, _ => exact uw_in (i := 136) (by decide +kernel) (by decide +kernel)
  | 2, _ => exact uw_in (i := 138) (by decide +kernel) (by decide +kernel)
  | 3, _ => exact uw_in (i := 140) (by decide +kernel) (by decide +kernel)
  | 4, _ => exact uw_in (i := 142) (by decide +kernel) (by decide +kernel)
  | 5, _ => exact uw_in (i := 144) (by decide +kernel) (by decide +kernel)
  | 6, _ => exact uw_in (i := 146) (by decide +kernel) (by decide +kernel)
  | 7, _ => exact uw_in (i := 148) (by decide +kernel) (by decide +kernel)
  | 8, _ => exact uw_in (i := 150) (by decide +kernel) (by decide +kernel)
theorem inU3 : ∀ w ∈ u_ws RX3 TX3 5, w ∈ uw := by
  intro w hw
  obtain ⟨k, hk, rfl⟩ := List.mem_map.mp hw
  have hk := List.mem_range.mp hk
  match k, hk with
  | 0, _ => exact uw_in (i := 178) (by decide +kernel) (by decide +kernel)
  | 1, _ => exact uw_in (i := 180) (by decide +kernel) (by decide +kernel)
  | 2, _ => exact uw_in (i := 182) (by decide +kernel) (by decide +kernel)
  | 3, _ => exact uw_in (i := 184) (by decide +kernel) (by decide +kernel)
  | 4, _ => exact uw_in (i := 186) (by decide +kernel) (by decide +kernel)
theorem inU4 : ∀ w ∈ u_ws RX4 TX4 3, w ∈ uw := by
  intro w hw
  obtain ⟨k, hk, rfl⟩ := List.mem_map.mp hw
  have hk := List.mem_range.mp hk
  match k, hk with
  | 0, _ => exact uw_in (i := 158) (by decide +kernel) (by decide +kernel)
  | 1, _ => exact uw_in (i := 160) (by decide +kernel) (by decide +kernel)
  | 2, _ => exact uw_in (i := 162) (by decide +kernel) (by decide +kernel)
theorem inU5 : ∀ w ∈ u_ws RX5 TX5 5, w ∈ uw := by
  intro w hw
  obtain ⟨k, hk, rfl⟩ := List.mem_map.mp hw
  have hk := List.mem_range.mp hk
  match k, hk with
  | 0, _ => exact uw_in (i := 108) (by decide +kernel) (by decide +kernel)
  | 1, _ => exact uw_in (i := 110) (by decide +kernel) (by decide +kernel)
  | 2, _ => exact uw_in (i := 112) (by decide +kernel) (by decide +kernel)
  | 3, _ => exact uw_in (i := 114) (by decide +kernel) (by decide +kernel)
  | 4, _ => exact uw_in (i := 116) (by decide +kernel) (by decide +kernel)
theorem inU6 : ∀ w ∈ u_ws RX6 TX6 5, w ∈ uw := by
  intro w hw
  obtain ⟨k, hk, rfl⟩ := List.mem_map.mp hw
  have hk := List.mem_range.mp hk
  match k, hk with
  | 0, _ => exact uw_in (i := 195) (by decide +kernel) (by decide +kernel)
  | 1, _ => exact uw_in (i := 197) (by decide +kernel) (by decide +kernel)
  | 2, _ => exact uw_in (i := 199) (by decide +kernel) (by decide +kernel)
  | 3, _ => exact uw_in (i := 201) (by decide +kernel) (by decide +kernel)
  | 4, _ => exact uw_in (i := 203) (by decide +kernel) (by decide +kernel)
section PVF
variable {p : Program} {l : Launch} {e : Env} {R : Room} {s : State} {m : MethodId} {args : Array Value} {below : List Frame} {meth : Method} {c : Code} {cc : ByteArray} {nL : Nat} {E : pE} {A : Nat → Prop} {Q : State → Prop} {z : Nat} {h : pH} {k n : Nat} {pc : Nat} {L : List (Option Value)} {st : List Value}
theorem wf_X1_7 : Cond.fieldLink RX1 7 (TX1 0).1 (TX1 0).2.1 (TX1 0).2.2.1 ∈ uw := uw_in (i := 40) (by decide +kernel) (by decide +kernel)
theorem g_X1_7 (X : pCx p s m args c cc nL RX1 E A) {a0 : Nat} {fs : List Value} {v : Value} (hd : decode cc pc = .ok (.getfield 7, 3)) (hh : h a0 = some (ob 1 fs)) (kk : pV p l e R s m args below meth c nL E A Q z h k n (pc + 3) L (v :: st)) (hv : fs[0]? = some v := by rfl) : pV p l e R s m args below meth c nL E A Q z h k n pc L (.ref a0 :: st) := v_get (T := TX1) (ci := 1) (kf := 0) X hd inU1 rfl (by decide) wf_X1_7 hh hv kk
theorem p_X1_7 (X : pCx p s m args c cc nL RX1 E A) {a0 : Nat} {fs fs1 : List Value} {x : Int32} (hd : decode cc pc = .ok (.putfield 7, 3)) (hh : h a0 = some (ob 1 fs)) (kk : pV p l e R s m args below meth c nL E A Q z (pset h a0 (ob 1 fs1)) k n (pc + 3) L st) (hl : 0 < fs.length := by exact Nat.le_of_ble_eq_true rfl) (hfs : fs.set 0 (.int x) = fs1 := by rfl) : pV p l e R s m args below meth c nL E A Q z h k n pc L (.int x :: .ref a0 :: st) := by
  subst hfs
  exact v_put (T := TX1) (ci := 1) (kf := 0) X hd inU1 tyX1 tyX1_ok nmX1 rfl (by decide) wf_X1_7 rfl (ty := .int) (by decide +kernel) rfl rfl hh hl kk
theorem wf_X2_65 : Cond.fieldLink RX2 65 (TX1 0).1 (TX1 0).2.1 (TX1 0).2.2.1 ∈ uw := uw_in (i := 41) (by decide +kernel) (by decide +kernel)
theorem g_X2_65 (X : pCx p s m args c cc nL RX2 E A) {a0 : Nat} {fs : List Value} {v : Value} (hd : decode cc pc = .ok (.getfield 65, 3)) (hh : h a0 = some (ob 1 fs)) (kk : pV p l e R s m args below meth c nL E A Q z h k n (pc + 3) L (v :: st)) (hv : fs[0]? = some v := by rfl) : pV p l e R s m args below meth c nL E A Q z h k n pc L (.ref a0 :: st) := v_get (T := TX1) (ci := 1) (kf := 0) X hd inU1 rfl (by decide) wf_X2_65 hh hv kk
theorem p_X2_65 (X : pCx p s m args c cc nL RX2 E A) {a0 : Nat} {fs fs1 : List Value} {x : Int32} (hd : decode cc pc = .ok (.putfield 65, 3)) (hh : h a0 = some (ob 1 fs)) (kk : pV p l e R s m args below meth c nL E A Q z (pset h a0 (ob 1 fs1)) k n (pc + 3) L st) (hl : 0 < fs.length := by exact Nat.le_of_ble_eq_true rfl) (hfs : fs.set 0 (.int x) = fs1 := by rfl) : pV p l e R s m args below meth c nL E A Q z h k n pc L (.int x :: .ref a0 :: st) := by
  subst hfs
  exact v_put (T := TX1) (ci := 1) (kf := 0) X hd inU1 tyX1 tyX1_ok nmX1 rfl (by decide) wf_X2_65 rfl (ty := .int) (by decide +kernel) rfl rfl hh hl kk
theorem wf_X1_13 : Cond.fieldLink RX1 13 (TX1 1).1 (TX1 1).2.1 (TX1 1).2.2.1 ∈ uw := uw_in (i := 42) (by decide +kernel) (by decide +kernel)
theorem g_X1_13 (X : pCx p s m args c cc nL RX1 E A) {a0 : Nat} {fs : List Value} {v : Value} (hd : decode cc pc = .ok (.getfield 13, 3)) (hh : h a0 = some (ob 1 fs)) (kk : pV p l e R s m args below meth c nL E A Q z h k n (pc + 3) L (v :: st)) (hv : fs[1]? = some v := by rfl) : pV p l e R s m args below meth c nL E A Q z h k n pc L (.ref a0 :: st) := v_get (T := TX1) (ci := 1) (kf := 1) X hd inU1 rfl (by decide) wf_X1_13 hh hv kk
theorem p_X1_13 (X : pCx p s m args c cc nL RX1 E A) {a0 : Nat} {fs fs1 : List Value} {x : Int32} (hd : decode cc pc = .ok (.putfield 13, 3)) (hh : h a0 = some (ob 1 fs)) (kk : pV p l e R s m args below meth c nL E A Q z (pset h a0 (ob 1 fs1)) k n (pc + 3) L st) (hl : 1 < fs.length := by exact Nat.le_of_ble_eq_true rfl) (hfs : fs.set 1 (.int x) = fs1 := by rfl) : pV p l e R s m args below meth c nL E A Q z h k n pc L (.int x :: .ref a0 :: st) := by
  subst hfs
  exact v_put (T := TX1) (ci := 1) (kf := 1) X hd inU1 tyX1 tyX1_ok nmX1 rfl (by decide) wf_X1_13 rfl (ty := .int) (by decide +kernel) rfl rfl hh hl kk
theorem wf_X2_172 : Cond.fieldLink RX2 172 (TX1 1).1 (TX1 1).2.1 (TX1 1).2.2.1 ∈ uw := uw_in (i := 43) (by decide +kernel) (by decide +kernel)
theorem g_X2_172 (X : pCx p s m args c cc nL RX2 E A) {a0 : Nat} {fs : List Value} {v : Value} (hd : decode cc pc = .ok (.getfield 172, 3)) (hh : h a0 = some (ob 1 fs)) (kk : pV p l e R s m args below meth c nL E A Q z h k n (pc + 3) L (v :: st)) (hv : fs[1]? = some v := by rfl) : pV p l e R s m args below meth c nL E A Q z h k n pc L (.ref a0 :: st) := v_get (T := TX1) (ci := 1) (kf := 1) X hd inU1 rfl (by decide) wf_X2_172 hh hv kk
theorem p_X2_172 (X : pCx p s m args c cc nL RX2 E A) {a0 : Nat} {fs fs1 : List Value} {x : Int32} (hd : decode cc pc = .ok (.putfield 172, 3)) (hh : h a0 = some (ob 1 fs)) (kk : pV p l e R s m args below meth c nL E A Q z (pset h a0 (ob 1 fs1)) k n (pc + 3) L st) (hl : 1 < fs.length := by exact Nat.le_of_ble_eq_true rfl) (hfs : fs.set 1 (.int x) = fs1 := by rfl) : pV p l e R s m args below meth c nL E A Q z h k n pc L (.int x :: .ref a0 :: st) := by
  subst hfs
  exact v_put (T := TX1) (ci := 1) (kf := 1) X hd inU1 tyX1 tyX1_ok nmX1 rfl (by decide) wf_X2_172 rfl (ty := .int) (by decide +kernel) rfl rfl hh hl kk
theorem wf_X1_16 : Cond.fieldLink RX1 16 (TX1 2).1 (TX1 2).2.1 (TX1 2).2.2.1 ∈ uw := uw_in (i := 44) (by decide +kernel) (by decide +kernel)
theorem g_X1_16 (X : pCx p s m args c cc nL RX1 E A) {a0 : Nat} {fs : List Value} {v : Value} (hd : decode cc pc = .ok (.getfield 16, 3)) (hh : h a0 = some (ob 1 fs)) (kk : pV p l e R s m args below meth c nL E A Q z h k n (pc + 3) L (v :: st)) (hv : fs[2]? = some v := by rfl) : pV p l e R s m args below meth c nL E A Q z h k n pc L (.ref a0 :: st) := v_get (T := TX1) (ci := 1) (kf := 2) X hd inU1 rfl (by decide) wf_X1_16 hh hv kk
theorem p_X1_16 (X : pCx p s m args c cc nL RX1 E A) {a0 : Nat} {fs fs1 : List Value} {x : Int32} (hd : decode cc pc = .ok (.putfield 16, 3)) (hh : h a0 = some (ob 1 fs)) (kk : pV p l e R s m args below meth c nL E A Q z (pset h a0 (ob 1 fs1)) k n (pc + 3) L st) (hl : 2 < fs.length := by exact Nat.le_of_ble_eq_true rfl) (hfs : fs.set 2 (.int x) = fs1 := by rfl) : pV p l e R s m args below meth c nL E A Q z h k n pc L (.int x :: .ref a0 :: st) := by
  subst hfs
  exact v_put (T := TX1) (ci := 1) (kf := 2) X hd inU1 tyX1 tyX1_ok nmX1 rfl (by decide) wf_X1_16 rfl (ty := .int) (by decide +kernel) rfl rfl hh hl kk
theorem wf_X2_175 : Cond.fieldLink RX2 175 (TX1 2).1 (TX1 2).2.1 (TX1 2).2.2.1 ∈ uw := uw_in (i := 45) (by decide +kernel) (by decide +kernel)
theorem g_X2_175 (X : pCx p s m args c cc nL RX2 E A) {a0 : Nat} {fs : List Value} {v : Value} (hd : decode cc pc = .ok (.getfield 175, 3)) (hh : h a0 = some (ob 1 fs)) (kk : pV p l e R s m args below meth c nL E A Q z h k n (pc + 3) L (v :: st)) (hv : fs[2]? = some v := by rfl) : pV p l e R s m args below meth c nL E A Q z h k n pc L (.ref a0 :: st) := v_get (T := TX1) (ci := 1) (kf := 2) X hd inU1 rfl (by decide) wf_X2_175 hh hv kk
theorem p_X2_175 (X : pCx p s m args c cc nL RX2 E A) {a0 : Nat} {fs fs1 : List Value} {x : Int32} (hd : decode cc pc = .ok (.putfield 175, 3)) (hh : h a0 = some (ob 1 fs)) (kk : pV p l e R s m args below meth c nL E A Q z (pset h a0 (ob 1 fs1)) k n (pc + 3) L st) (hl : 2 < fs.length := by exact Nat.le_of_ble_eq_true rfl) (hfs : fs.set 2 (.int x) = fs1 := by rfl) : pV p l e R s m args below meth c nL E A Q z h k n pc L (.int x :: .ref a0 :: st) := by
  subst hfs
  exact v_put (T := TX1) (ci := 1) (kf := 2) X hd inU1 tyX1 tyX1_ok nmX1 rfl (by decide) wf_X2_175 rfl (ty := .int) (by decide +kernel) rfl rfl hh hl kk
theorem wf_X0_9 : Cond.fieldLink RX0 9 (TX0 0).1 (TX0 0).2.1 (TX0 0).2.2.1 ∈ uw := uw_in (i := 58) (by decide +kernel) (by decide +kernel)
theorem g_X0_9 (X : pCx p s m args c cc nL RX0 E A) {a0 : Nat} {fs : List Value} {v : Value} (hd : decode cc pc = .ok (.getfield 9, 3)) (hh : h a0 = some (ob 0 fs)) (kk : pV p l e R s m args below meth c nL E A Q z h k n (pc + 3) L (v :: st)) (hv : fs[0]? = some v := by rfl) : pV p l e R s m args below meth c nL E A Q z h k n pc L (.ref a0 :: st) := v_get (T := TX0) (ci := 0) (kf := 0) X hd inU0 rfl (by decide) wf_X0_9 hh hv kk
theorem p_X0_9 (X : pCx p s m args c cc nL RX0 E A) {a0 : Nat} {fs fs1 : List Value} {x : Int32} (hd : decode cc pc = .ok (.putfield 9, 3)) (hh : h a0 = some (ob 0 fs)) (kk : pV p l e R s m args below meth c nL E A Q z (pset h a0 (ob 0 fs1)) k n (pc + 3) L st) (hl : 0 < fs.length := by exact Nat.le_of_ble_eq_true rfl) (hfs : fs.set 0 (.int x) = fs1 := by rfl) : pV p l e R s m args below meth c nL E A Q z h k n pc L (.int x :: .ref a0 :: st) := by
  subst hfs
  exact v_put (T := TX0) (ci := 0) (kf := 0) X hd inU0 tyX0 tyX0_ok nmX0 rfl (by decide) wf_X0_9 rfl (ty := .int) (by decide +kernel) rfl rfl hh hl kk
theorem wf_X2_72 : Cond.fieldLink RX2 72 (TX0 0).1 (TX0 0).2.1 (TX0 0).2.2.1 ∈ uw := uw_in (i := 59) (by decide +kernel) (by decide +kernel)
theorem g_X2_72 (X : pCx p s m args c cc nL RX2 E A) {a0 : Nat} {fs : List Value} {v : Value} (hd : decode cc pc = .ok (.getfield 72, 3)) (hh : h a0 = some (ob 0 fs)) (kk : pV p l e R s m args below meth c nL E A Q z h k n (pc + 3) L (v :: st)) (hv : fs[0]? = some v := by rfl) : pV p l e R s m args below meth c nL E A Q z h k n pc L (.ref a0 :: st) := v_get (T := TX0) (ci := 0) (kf := 0) X hd inU0 rfl (by decide) wf_X2_72 hh hv kk
theorem p_X2_72 (X : pCx p s m args c cc nL RX2 E A) {a0 : Nat} {fs fs1 : List Value} {x : Int32} (hd : decode cc pc = .ok (.putfield 72, 3)) (hh : h a0 = some (ob 0 fs)) (kk : pV p l e R s m args below meth c nL E A Q z (pset h a0 (ob 0 fs1)) k n (pc + 3) L st) (hl : 0 < fs.length := by exact Nat.le_of_ble_eq_true rfl) (hfs : fs.set 0 (.int x) = fs1 := by rfl) : pV p l e R s m args below meth c nL E A Q z h k n pc L (.int x :: .ref a0 :: st) := by
  subst hfs
  exact v_put (T := TX0) (ci := 0) (kf := 0) X hd inU0 tyX0 tyX0_ok nmX0 rfl (by decide) wf_X2_72 rfl (ty := .int) (by decide +kernel) rfl rfl hh hl kk
theorem wf_X0_15 : Cond.fieldLink RX0 15 (TX0 1).1 (TX0 1).2.1 (TX0 1).2.2.1 ∈ uw := uw_in (i := 60) (by decide +kernel) (by decide +kernel)
theorem g_X0_15 (X : pCx p s m args c cc nL RX0 E A) {a0 : Nat} {fs : List Value} {v : Value} (hd : decode cc pc = .ok (.getfield 15, 3)) (hh : h a0 = some (ob 0 fs)) (kk : pV p l e R s m args below meth c nL E A Q z h k n (pc + 3) L (v :: st)) (hv : fs[1]? = some v := by rfl) : pV p l e R s m args below meth c nL E A Q z h k n pc L (.ref a0 :: st) := v_get (T := TX0) (ci := 0) (kf := 1) X hd inU0 rfl (by decide) wf_X0_15 hh hv kk
theorem p_X0_15 (X : pCx p s m args c cc nL RX0 E A) {a0 : Nat} {fs fs1 : List Value} {x : Int32} (hd : decode cc pc = .ok (.putfield 15, 3)) (hh : h a0 = some (ob 0 fs)) (kk : pV p l e R s m args below meth c nL E A Q z (pset h a0 (ob 0 fs1)) k n (pc + 3) L st) (hl : 1 < fs.length := by exact Nat.le_of_ble_eq_true rfl) (hfs : fs.set 1 (.int x) = fs1 := by rfl) : pV p l e R s m args below meth c nL E A Q z h k n pc L (.int x :: .ref a0 :: st) := by
  subst hfs
  exact v_put (T := TX0) (ci := 0) (kf := 1) X hd inU0 tyX0 tyX0_ok nmX0 rfl (by decide) wf_X0_15 rfl (ty := .int) (by decide +kernel) rfl rfl hh hl kk
theorem wf_X2_75 : Cond.fieldLink RX2 75 (TX0 1).1 (TX0 1).2.1 (TX0 1).2.2.1 ∈ uw := uw_in (i := 61) (by decide +kernel) (by decide +kernel)
theorem g_X2_75 (X : pCx p s m args c cc nL RX2 E A) {a0 : Nat} {fs : List Value} {v : Value} (hd : decode cc pc = .ok (.getfield 75, 3)) (hh : h a0 = some (ob 0 fs)) (kk : pV p l e R s m args below meth c nL E A Q z h k n (pc + 3) L (v :: st)) (hv : fs[1]? = some v := by rfl) : pV p l e R s m args below meth c nL E A Q z h k n pc L (.ref a0 :: st) := v_get (T := TX0) (ci := 0) (kf := 1) X hd inU0 rfl (by decide) wf_X2_75 hh hv kk
theorem p_X2_75 (X : pCx p s m args c cc nL RX2 E A) {a0 : Nat} {fs fs1 : List Value} {x : Int32} (hd : decode cc pc = .ok (.putfield 75, 3)) (hh : h a0 = some (ob 0 fs)) (kk : pV p l e R s m args below meth c nL E A Q z (pset h a0 (ob 0 fs1)) k n (pc + 3) L st) (hl : 1 < fs.length := by exact Nat.le_of_ble_eq_true rfl) (hfs : fs.set 1 (.int x) = fs1 := by rfl) : pV p l e R s m args below meth c nL E A Q z h k n pc L (.int x :: .ref a0 :: st) := by
  subst hfs
  exact v_put (T := TX0) (ci := 0) (kf := 1) X hd inU0 tyX0 tyX0_ok nmX0 rfl (by decide) wf_X2_75 rfl (ty := .int) (by decide +kernel) rfl rfl hh hl kk
theorem wf_X0_18 : Cond.fieldLink RX0 18 (TX0 2).1 (TX0 2).2.1 (TX0 2).2.2.1 ∈ uw := uw_in (i := 62) (by decide +kernel) (by decide +kernel)
theorem g_X0_18 (X : pCx p s m args c cc nL RX0 E A) {a0 : Nat} {fs : List Value} {v : Value} (hd : decode cc pc = .ok (.getfield 18, 3)) (hh : h a0 = some (ob 0 fs)) (kk : pV p l e R s m args below meth c nL E A Q z h k n (pc + 3) L (v :: st)) (hv : fs[2]? = some v := by rfl) : pV p l e R s m args below meth c nL E A Q z h k n pc L (.ref a0 :: st) := v_get (T := TX0) (ci := 0) (kf := 2) X hd inU0 rfl (by decide) wf_X0_18 hh hv kk
theorem p_X0_18 (X : pCx p s m args c cc nL RX0 E A) {a0 : Nat} {fs fs1 : List Value} {x : Int32} (hd : decode cc pc = .ok (.putfield 18, 3)) (hh : h a0 = some (ob 0 fs)) (kk : pV p l e R s m args below meth c nL E A Q z (pset h a0 (ob 0 fs1)) k n (pc + 3) L st) (hl : 2 < fs.length := by exact Nat.le_of_ble_eq_true rfl) (hfs : fs.set 2 (.int x) = fs1 := by rfl) : pV p l e R s m args below meth c nL E A Q z h k n pc L (.int x :: .ref a0 :: st) := by
  subst hfs
  exact v_put (T := TX0) (ci := 0) (kf := 2) X hd inU0 tyX0 tyX0_ok nmX0 rfl (by decide) wf_X0_18 rfl (ty := .int) (by decide +kernel) rfl rfl hh hl kk
theorem wf_X2_159 : Cond.fieldLink RX2 159 (TX0 2).1 (TX0 2).2.1 (TX0 2).2.2.1 ∈ uw := uw_in (i := 63) (by decide +kernel) (by decide +kernel)
theorem g_X2_159 (X : pCx p s m args c cc nL RX2 E A) {a0 : Nat} {fs : List Value} {v : Value} (hd : decode cc pc = .ok (.getfield 159, 3)) (hh : h a0 = some (ob 0 fs)) (kk : pV p l e R s m args below meth c nL E A Q z h k n (pc + 3) L (v :: st)) (hv : fs[2]? = some v := by rfl) : pV p l e R s m args below meth c nL E A Q z h k n pc L (.ref a0 :: st) := v_get (T := TX0) (ci := 0) (kf := 2) X hd inU0 rfl (by decide) wf_X2_159 hh hv kk
theorem p_X2_159 (X : pCx p s m args c cc nL RX2 E A) {a0 : Nat} {fs fs1 : List Value} {x : Int32} (hd : decode cc pc = .ok (.putfield 159, 3)) (hh : h a0 = some (ob 0 fs)) (kk : pV p l e R s m args below meth c nL E A Q z (pset h a0 (ob 0 fs1)) k n (pc + 3) L st) (hl : 2 < fs.length := by exact Nat.le_of_ble_eq_true rfl) (hfs : fs.set 2 (.int x) = fs1 := by rfl) : pV p l e R s m args below meth c nL E A Q z h k n pc L (.int x :: .ref a0 :: st) := by
  subst hfs
  exact v_put (T := TX0) (ci := 0) (kf := 2) X hd inU0 tyX0 tyX0_ok nmX0 rfl (by decide) wf_X2_159 rfl (ty := .int) (by decide +kernel) rfl rfl hh hl kk
theorem wf_X0_21 : Cond.fieldLink RX0 21 (TX0 3).1 (TX0 3).2.1 (TX0 3).2.2.1 ∈ uw := uw_in (i := 64) (by decide +kernel) (by decide +kernel)
theorem g_X0_21 (X : pCx p s m args c cc nL RX0 E A) {a0 : Nat} {fs : List Value} {v : Value} (hd : decode cc pc = .ok (.getfield 21, 3)) (hh : h a0 = some (ob 0 fs)) (kk : pV p l e R s m args below meth c nL E A Q z h k n (pc + 3) L (v :: st)) (hv : fs[3]? = some v := by rfl) : pV p l e R s m args below meth c nL E A Q z h k n pc L (.ref a0 :: st) := v_get (T := TX0) (ci := 0) (kf := 3) X hd inU0 rfl (by decide) wf_X0_21 hh hv kk
theorem p_X0_21 (X : pCx p s m args c cc nL RX0 E A) {a0 : Nat} {fs fs1 : List Value} {x : Int32} (hd : decode cc pc = .ok (.putfield 21, 3)) (hh : h a0 = some (ob 0 fs)) (kk : pV p l e R s m args below meth c nL E A Q z (pset h a0 (ob 0 fs1)) k n (pc + 3) L st) (hl : 3 < fs.length := by exact Nat.le_of_ble_eq_true rfl) (hfs : fs.set 3 (.int x) = fs1 := by rfl) : pV p l e R s m args below meth c nL E A Q z h k n pc L (.int x :: .ref a0 :: st) := by
  subst hfs
  exact v_put (T := TX0) (ci := 0) (kf := 3) X hd inU0 tyX0 tyX0_ok nmX0 rfl (by decide) wf_X0_21 rfl (ty := .int) (by decide +kernel) rfl rfl hh hl kk
theorem wf_X2_110 : Cond.fieldLink RX2 110 (TX0 3).1 (TX0 3).2.1 (TX0 3).2.2.1 ∈ uw := uw_in (i := 65) (by decide +kernel) (by decide +kernel)
theorem g_X2_110 (X : pCx p s m args c cc nL RX2 E A) {a0 : Nat} {fs : List Value} {v : Value} (hd : decode cc pc = .ok (.getfield 110, 3)) (hh : h a0 = some (ob 0 fs)) (kk : pV p l e R s m args below meth c nL E A Q z h k n (pc + 3) L (v :: st)) (hv : fs[3]? = some v := by rfl) : pV p l e R s m args below meth c nL E A Q z h k n pc L (.ref a0 :: st) := v_get (T := TX0) (ci := 0) (kf := 3) X hd inU0 rfl (by decide) wf_X2_110 hh hv kk
theorem p_X2_110 (X : pCx p s m args c cc nL RX2 E A) {a0 : Nat} {fs fs1 : List Value} {x : Int32} (hd : decode cc pc = .ok (.putfield 110, 3)) (hh : h a0 = some (ob 0 fs)) (kk : pV p l e R s m args below meth c nL E A Q z (pset h a0 (ob 0 fs1)) k n (pc + 3) L st) (hl : 3 < fs.length := by exact Nat.le_of_ble_eq_true rfl) (hfs : fs.set 3 (.int x) = fs1 := by rfl) : pV p l e R s m args below meth c nL E A Q z h k n pc L (.int x :: .ref a0 :: st) := by
  subst hfs
  exact v_put (T := TX0) (ci := 0) (kf := 3) X hd inU0 tyX0 tyX0_ok nmX0 rfl (by decide) wf_X2_110 rfl (ty := .int) (by decide +kernel) rfl rfl hh hl kk
theorem wf_X0_24 : Cond.fieldLink RX0 24 (TX0 4).1 (TX0 4).2.1 (TX0 4).2.2.1 ∈ uw := uw_in (i := 66) (by decide +kernel) (by decide +kernel)
theorem g_X0_24 (X : pCx p s m args c cc nL RX0 E A) {a0 : Nat} {fs : List Value} {v : Value} (hd : decode cc pc = .ok (.getfield 24, 3)) (hh : h a0 = some (ob 0 fs)) (kk : pV p l e R s m args below meth c nL E A Q z h k n (pc + 3) L (v :: st)) (hv : fs[4]? = some v := by rfl) : pV p l e R s m args below meth c nL E A Q z h k n pc L (.ref a0 :: st) := v_get (T := TX0) (ci := 0) (kf := 4) X hd inU0 rfl (by decide) wf_X0_24 hh hv kk
theorem p_X0_24 (X : pCx p s m args c cc nL RX0 E A) {a0 : Nat} {fs fs1 : List Value} {x : Int32} (hd : decode cc pc = .ok (.putfield 24, 3)) (hh : h a0 = some (ob 0 fs)) (kk : pV p l e R s m args below meth c nL E A Q z (pset h a0 (ob 0 fs1)) k n (pc + 3) L st) (hl : 4 < fs.length := by exact Nat.le_of_ble_eq_true rfl) (hfs : fs.set 4 (.int x) = fs1 := by rfl) : pV p l e R s m args below meth c nL E A Q z h k n pc L (.int x :: .ref a0 :: st) := by
  subst hfs
  exact v_put (T := TX0) (ci := 0) (kf := 4) X hd inU0 tyX0 tyX0_ok nmX0 rfl (by decide) wf_X0_24 rfl (ty := .int) (by decide +kernel) rfl rfl hh hl kk
theorem wf_X2_178 : Cond.fieldLink RX2 178 (TX0 4).1 (TX0 4).2.1 (TX0 4).2.2.1 ∈ uw := uw_in (i := 67) (by decide +kernel) (by decide +kernel)
theorem g_X2_178 (X : pCx p s m args c cc nL RX2 E A) {a0 : Nat} {fs : List Value} {v : Value} (hd : decode cc pc = .ok (.getfield 178, 3)) (hh : h a0 = some (ob 0 fs)) (kk : pV p l e R s m args below meth c nL E A Q z h k n (pc + 3) L (v :: st)) (hv : fs[4]? = some v := by rfl) : pV p l e R s m args below meth c nL E A Q z h k n pc L (.ref a0 :: st) := v_get (T := TX0) (ci := 0) (kf := 4) X hd inU0 rfl (by decide) wf_X2_178 hh hv kk
theorem p_X2_178 (X : pCx p s m args c cc nL RX2 E A) {a0 : Nat} {fs fs1 : List Value} {x : Int32} (hd : decode cc pc = .ok (.putfield 178, 3)) (hh : h a0 = some (ob 0 fs)) (kk : pV p l e R s m args below meth c nL E A Q z (pset h a0 (ob 0 fs1)) k n (pc + 3) L st) (hl : 4 < fs.length := by exact Nat.le_of_ble_eq_true rfl) (hfs : fs.set 4 (.int x) = fs1 := by rfl) : pV p l e R s m args below meth c nL E A Q z h k n pc L (.int x :: .ref a0 :: st) := by
  subst hfs
  exact v_put (T := TX0) (ci := 0) (kf := 4) X hd inU0 tyX0 tyX0_ok nmX0 rfl (by decide) wf_X2_178 rfl (ty := .int) (by decide +kernel) rfl rfl hh hl kk
theorem wf_X0_27 : Cond.fieldLink RX0 27 (TX0 5).1 (TX0 5).2.1 (TX0 5).2.2.1 ∈ uw := uw_in (i := 68) (by decide +kernel) (by decide +kernel)
theorem g_X0_27 (X : pCx p s m args c cc nL RX0 E A) {a0 : Nat} {fs : List Value} {v : Value} (hd : decode cc pc = .ok (.getfield 27, 3)) (hh : h a0 = some (ob 0 fs)) (kk : pV p l e R s m args below meth c nL E A Q z h k n (pc + 3) L (v :: st)) (hv : fs[5]? = some v := by rfl) : pV p l e R s m args below meth c nL E A Q z h k n pc L (.ref a0 :: st) := v_get (T := TX0) (ci := 0) (kf := 5) X hd inU0 rfl (by decide) wf_X0_27 hh hv kk
theorem p_X0_27 (X : pCx p s m args c cc nL RX0 E A) {a0 : Nat} {fs fs1 : List Value} {x : Int32} (hd : decode cc pc = .ok (.putfield 27, 3)) (hh : h a0 = some (ob 0 fs)) (kk : pV p l e R s m args below meth c nL E A Q z (pset h a0 (ob 0 fs1)) k n (pc + 3) L st) (hl : 5 < fs.length := by exact Nat.le_of_ble_eq_true rfl) (hfs : fs.set 5 (.int x) = fs1 := by rfl) : pV p l e R s m args below meth c nL E A Q z h k n pc L (.int x :: .ref a0 :: st) := by
  subst hfs
  exact v_put (T := TX0) (ci := 0) (kf := 5) X hd inU0 tyX0 tyX0_ok nmX0 rfl (by decide) wf_X0_27 rfl (ty := .int) (by decide +kernel) rfl rfl hh hl kk
theorem wf_X2_153 : Cond.fieldLink RX2 153 (TX0 5).1 (TX0 5).2.1 (TX0 5).2.2.1 ∈ uw := uw_in (i := 69) (by decide +kernel) (by decide +kernel)
theorem g_X2_153 (X : pCx p s m args c cc nL RX2 E A) {a0 : Nat} {fs : List Value} {v : Value} (hd : decode cc pc = .ok (.getfield 153, 3)) (hh : h a0 = some (ob 0 fs)) (kk : pV p l e R s m args below meth c nL E A Q z h k n (pc + 3) L (v :: st)) (hv : fs[5]? = some v := by rfl) : pV p l e R s m args below meth c nL E A Q z h k n pc L (.ref a0 :: st) := v_get (T := TX0) (ci := 0) (kf := 5) X hd inU0 rfl (by decide) wf_X2_153 hh hv kk
theorem p_X2_153 (X : pCx p s m args c cc nL RX2 E A) {a0 : Nat} {fs fs1 : List Value} {x : Int32} (hd : decode cc pc = .ok (.putfield 153, 3)) (hh : h a0 = some (ob 0 fs)) (kk : pV p l e R s m args below meth c nL E A Q z (pset h a0 (ob 0 fs1)) k n (pc + 3) L st) (hl : 5 < fs.length := by exact Nat.le_of_ble_eq_true rfl) (hfs : fs.set 5 (.int x) = fs1 := by rfl) : pV p l e R s m args below meth c nL E A Q z h k n pc L (.int x :: .ref a0 :: st) := by
  subst hfs
  exact v_put (T := TX0) (ci := 0) (kf := 5) X hd inU0 tyX0 tyX0_ok nmX0 rfl (by decide) wf_X2_153 rfl (ty := .int) (by decide +kernel) rfl rfl hh hl kk
theorem wf_X0_30 : Cond.fieldLink RX0 30 (TX0 6).1 (TX0 6).2.1 (TX0 6).2.2.1 ∈ uw := uw_in (i := 70) (by decide +kernel) (by decide +kernel)
theorem g_X0_30 (X : pCx p s m args c cc nL RX0 E A) {a0 : Nat} {fs : List Value} {v : Value} (hd : decode cc pc = .ok (.getfield 30, 3)) (hh : h a0 = some (ob 0 fs)) (kk : pV p l e R s m args below meth c nL E A Q z h k n (pc + 3) L (v :: st)) (hv : fs[6]? = some v := by rfl) : pV p l e R s m args below meth c nL E A Q z h k n pc L (.ref a0 :: st) := v_get (T := TX0) (ci := 0) (kf := 6) X hd inU0 rfl (by decide) wf_X0_30 hh hv kk
theorem p_X0_30 (X : pCx p s m args c cc nL RX0 E A) {a0 x : Nat} {fs fs1 : List Value} (hd : decode cc pc = .ok (.putfield 30, 3)) (hh : h a0 = some (ob 0 fs)) (hin2 : meth.name = "<init>") (kk : pV p l e R s m args below meth c nL E A Q z (pset h a0 (ob 0 fs1)) k n (pc + 3) L st) (hl : 6 < fs.length := by exact Nat.le_of_ble_eq_true rfl) (hfs : fs.set 6 (.ref x) = fs1 := by rfl) : pV p l e R s m args below meth c nL E A Q z h k n pc L (.ref x :: .ref a0 :: st) := by
  subst hfs
  exact v_putF (T := TX0) (ci := 0) (kf := 6) X hd inU0 tyX0 tyX0_ok nmX0 rfl (by decide) wf_X0_30 rfl hin2 rfl (ty := .array (.boolean)) (by decide +kernel) rfl rfl hh hl kk
theorem wf_X2_81 : Cond.fieldLink RX2 81 (TX0 6).1 (TX0 6).2.1 (TX0 6).2.2.1 ∈ uw := uw_in (i := 71) (by decide +kernel) (by decide +kernel)
theorem g_X2_81 (X : pCx p s m args c cc nL RX2 E A) {a0 : Nat} {fs : List Value} {v : Value} (hd : decode cc pc = .ok (.getfield 81, 3)) (hh : h a0 = some (ob 0 fs)) (kk : pV p l e R s m args below meth c nL E A Q z h k n (pc + 3) L (v :: st)) (hv : fs[6]? = some v := by rfl) : pV p l e R s m args below meth c nL E A Q z h k n pc L (.ref a0 :: st) := v_get (T := TX0) (ci := 0) (kf := 6) X hd inU0 rfl (by decide) wf_X2_81 hh hv kk
theorem wf_X0_34 : Cond.fieldLink RX0 34 (TX0 7).1 (TX0 7).2.1 (TX0 7).2.2.1 ∈ uw := uw_in (i := 72) (by decide +kernel) (by decide +kernel)
theorem g_X0_34 (X : pCx p s m args c cc nL RX0 E A) {a0 : Nat} {fs : List Value} {v : Value} (hd : decode cc pc = .ok (.getfield 34, 3)) (hh : h a0 = some (ob 0 fs)) (kk : pV p l e R s m args below meth c nL E A Q z h k n (pc + 3) L (v :: st)) (hv : fs[7]? = some v := by rfl) : pV p l e R s m args below meth c nL E A Q z h k n pc L (.ref a0 :: st) := v_get (T := TX0) (ci := 0) (kf := 7) X hd inU0 rfl (by decide) wf_X0_34 hh hv kk
theorem p_X0_34 (X : pCx p s m args c cc nL RX0 E A) {a0 x : Nat} {fs fs1 : List Value} (hd : decode cc pc = .ok (.putfield 34, 3)) (hh : h a0 = some (ob 0 fs)) (hin2 : meth.name = "<init>") (kk : pV p l e R s m args below meth c nL E A Q z (pset h a0 (ob 0 fs1)) k n (pc + 3) L st) (hl : 7 < fs.length := by exact Nat.le_of_ble_eq_true rfl) (hfs : fs.set 7 (.ref x) = fs1 := by rfl) : pV p l e R s m args below meth c nL E A Q z h k n pc L (.ref x :: .ref a0 :: st) := by
  subst hfs
  exact v_putF (T := TX0) (ci := 0) (kf := 7) X hd inU0 tyX0 tyX0_ok nmX0 rfl (by decide) wf_X0_34 rfl hin2 rfl (ty := .array (.int)) (by decide +kernel) rfl rfl hh hl kk
theorem wf_X2_97 : Cond.fieldLink RX2 97 (TX0 7).1 (TX0 7).2.1 (TX0 7).2.2.1 ∈ uw := uw_in (i := 73) (by decide +kernel) (by decide +kernel)
theorem g_X2_97 (X : pCx p s m args c cc nL RX2 E A) {a0 : Nat} {fs : List Value} {v : Value} (hd : decode cc pc = .ok (.getfield 97, 3)) (hh : h a0 = some (ob 0 fs)) (kk : pV p l e R s m args below meth c nL E A Q z h k n (pc + 3) L (v :: st)) (hv : fs[7]? = some v := by rfl) : pV p l e R s m args below meth c nL E A Q z h k n pc L (.ref a0 :: st) := v_get (T := TX0) (ci := 0) (kf := 7) X hd inU0 rfl (by decide) wf_X2_97 hh hv kk
theorem wf_X5_9 : Cond.fieldLink RX5 9 (TX5 0).1 (TX5 0).2.1 (TX5 0).2.2.1 ∈ uw := uw_in (i := 98) (by decide +kernel) (by decide +kernel)
theorem g_X5_9 (X : pCx p s m args c cc nL RX5 E A) {a0 : Nat} {fs : List Value} {v : Value} (hd : decode cc pc = .ok (.getfield 9, 3)) (hh : h a0 = some (ob 5 fs)) (kk : pV p l e R s m args below meth c nL E A Q z h k n (pc + 3) L (v :: st)) (hv : fs[0]? = some v := by rfl) : pV p l e R s m args below meth c nL E A Q z h k n pc L (.ref a0 :: st) := v_get (T := TX5) (ci := 5) (kf := 0) X hd inU5 rfl (by decide) wf_X5_9 hh hv kk
theorem p_X5_9 (X : pCx p s m args c cc nL RX5 E A) {a0 : Nat} {fs fs1 : List Value} {x : Int32} (hd : decode cc pc = .ok (.putfield 9, 3)) (hh : h a0 = some (ob 5 fs)) (kk : pV p l e R s m args below meth c nL E A Q z (pset h a0 (ob 5 fs1)) k n (pc + 3) L st) (hl : 0 < fs.length := by exact Nat.le_of_ble_eq_true rfl) (hfs : fs.set 0 (.int x) = fs1 := by rfl) : pV p l e R s m args below meth c nL E A Q z h k n pc L (.int x :: .ref a0 :: st) := by
  subst hfs
  exact v_put (T := TX5) (ci := 5) (kf := 0) X hd inU5 tyX5 tyX5_ok nmX5 rfl (by decide) wf_X5_9 rfl (ty := .int) (by decide +kernel) rfl rfl hh hl kk
theorem wf_X2_113 : Cond.fieldLink RX2 113 (TX5 0).1 (TX5 0).2.1 (TX5 0).2.2.1 ∈ uw := uw_in (i := 99) (by decide +kernel) (by decide +kernel)
theorem g_X2_113 (X : pCx p s m args c cc nL RX2 E A) {a0 : Nat} {fs : List Value} {v : Value} (hd : decode cc pc = .ok (.getfield 113, 3)) (hh : h a0 = some (ob 5 fs)) (kk : pV p l e R s m args below meth c nL E A Q z h k n (pc + 3) L (v :: st)) (hv : fs[0]? = some v := by rfl) : pV p l e R s m args below meth c nL E A Q z h k n pc L (.ref a0 :: st) := v_get (T := TX5) (ci := 5) (kf := 0) X hd inU5 rfl (by decide) wf_X2_113 hh hv kk
theorem p_X2_113 (X : pCx p s m args c cc nL RX2 E A) {a0 : Nat} {fs fs1 : List Value} {x : Int32} (hd : decode cc pc = .ok (.putfield 113, 3)) (hh : h a0 = some (ob 5 fs)) (kk : pV p l e R s m args below meth c nL E A Q z (pset h a0 (ob 5 fs1)) k n (pc + 3) L st) (hl : 0 < fs.length := by exact Nat.le_of_ble_eq_true rfl) (hfs : fs.set 0 (.int x) = fs1 := by rfl) : pV p l e R s m args below meth c nL E A Q z h k n pc L (.int x :: .ref a0 :: st) := by
  subst hfs
  exact v_put (T := TX5) (ci := 5) (kf := 0) X hd inU5 tyX5 tyX5_ok nmX5 rfl (by decide) wf_X2_113 rfl (ty := .int) (by decide +kernel) rfl rfl hh hl kk
theorem wf_X5_15 : Cond.fieldLink RX5 15 (TX5 1).1 (TX5 1).2.1 (TX5 1).2.2.1 ∈ uw := uw_in (i := 100) (by decide +kernel) (by decide +kernel)
theorem g_X5_15 (X : pCx p s m args c cc nL RX5 E A) {a0 : Nat} {fs : List Value} {v : Value} (hd : decode cc pc = .ok (.getfield 15, 3)) (hh : h a0 = some (ob 5 fs)) (kk : pV p l e R s m args below meth c nL E A Q z h k n (pc + 3) L (v :: st)) (hv : fs[1]? = some v := by rfl) : pV p l e R s m args below meth c nL E A Q z h k n pc L (.ref a0 :: st) := v_get (T := TX5) (ci := 5) (kf := 1) X hd inU5 rfl (by decide) wf_X5_15 hh hv kk
theorem p_X5_15 (X : pCx p s m args c cc nL RX5 E A) {a0 : Nat} {fs fs1 : List Value} {x : Int32} (hd : decode cc pc = .ok (.putfield 15, 3)) (hh : h a0 = some (ob 5 fs)) (kk : pV p l e R s m args below meth c nL E A Q z (pset h a0 (ob 5 fs1)) k n (pc + 3) L st) (hl : 1 < fs.length := by exact Nat.le_of_ble_eq_true rfl) (hfs : fs.set 1 (.int x) = fs1 := by rfl) : pV p l e R s m args below meth c nL E A Q z h k n pc L (.int x :: .ref a0 :: st) := by
  subst hfs
  exact v_put (T := TX5) (ci := 5) (kf := 1) X hd inU5 tyX5 tyX5_ok nmX5 rfl (by decide) wf_X5_15 rfl (ty := .int) (by decide +kernel) rfl rfl hh hl kk
theorem wf_X2_116 : Cond.fieldLink RX2 116 (TX5 1).1 (TX5 1).2.1 (TX5 1).2.2.1 ∈ uw := uw_in (i := 101) (by decide +kernel) (by decide +kernel)
theorem g_X2_116 (X : pCx p s m args c cc nL RX2 E A) {a0 : Nat} {fs : List Value} {v : Value} (hd : decode cc pc = .ok (.getfield 116, 3)) (hh : h a0 = some (ob 5 fs)) (kk : pV p l e R s m args below meth c nL E A Q z h k n (pc + 3) L (v :: st)) (hv : fs[1]? = some v := by rfl) : pV p l e R s m args below meth c nL E A Q z h k n pc L (.ref a0 :: st) := v_get (T := TX5) (ci := 5) (kf := 1) X hd inU5 rfl (by decide) wf_X2_116 hh hv kk
theorem p_X2_116 (X : pCx p s m args c cc nL RX2 E A) {a0 : Nat} {fs fs1 : List Value} {x : Int32} (hd : decode cc pc = .ok (.putfield 116, 3)) (hh : h a0 = some (ob 5 fs)) (kk : pV p l e R s m args below meth c nL E A Q z (pset h a0 (ob 5 fs1)) k n (pc + 3) L st) (hl : 1 < fs.length := by exact Nat.le_of_ble_eq_true rfl) (hfs : fs.set 1 (.int x) = fs1 := by rfl) : pV p l e R s m args below meth c nL E A Q z h k n pc L (.int x :: .ref a0 :: st) := by
  subst hfs
  exact v_put (T := TX5) (ci := 5) (kf := 1) X hd inU5 tyX5 tyX5_ok nmX5 rfl (by decide) wf_X2_116 rfl (ty := .int) (by decide +kernel) rfl rfl hh hl kk
theorem wf_X5_18 : Cond.fieldLink RX5 18 (TX5 2).1 (TX5 2).2.1 (TX5 2).2.2.1 ∈ uw := uw_in (i := 102) (by decide +kernel) (by decide +kernel)
theorem g_X5_18 (X : pCx p s m args c cc nL RX5 E A) {a0 : Nat} {fs : List Value} {v : Value} (hd : decode cc pc = .ok (.getfield 18, 3)) (hh : h a0 = some (ob 5 fs)) (kk : pV p l e R s m args below meth c nL E A Q z h k n (pc + 3) L (v :: st)) (hv : fs[2]? = some v := by rfl) : pV p l e R s m args below meth c nL E A Q z h k n pc L (.ref a0 :: st) := v_get (T := TX5) (ci := 5) (kf := 2) X hd inU5 rfl (by decide) wf_X5_18 hh hv kk
theorem p_X5_18 (X : pCx p s m args c cc nL RX5 E A) {a0 : Nat} {fs fs1 : List Value} {x : Int32} (hd : decode cc pc = .ok (.putfield 18, 3)) (hh : h a0 = some (ob 5 fs)) (kk : pV p l e R s m args below meth c nL E A Q z (pset h a0 (ob 5 fs1)) k n (pc + 3) L st) (hl : 2 < fs.length := by exact Nat.le_of_ble_eq_true rfl) (hfs : fs.set 2 (.int x) = fs1 := by rfl) : pV p l e R s m args below meth c nL E A Q z h k n pc L (.int x :: .ref a0 :: st) := by
  subst hfs
  exact v_put (T := TX5) (ci := 5) (kf := 2) X hd inU5 tyX5 tyX5_ok nmX5 rfl (by decide) wf_X5_18 rfl (ty := .int) (by decide +kernel) rfl rfl hh hl kk
theorem wf_X2_119 : Cond.fieldLink RX2 119 (TX5 2).1 (TX5 2).2.1 (TX5 2).2.2.1 ∈ uw := uw_in (i := 103) (by decide +kernel) (by decide +kernel)
theorem g_X2_119 (X : pCx p s m args c cc nL RX2 E A) {a0 : Nat} {fs : List Value} {v : Value} (hd : decode cc pc = .ok (.getfield 119, 3)) (hh : h a0 = some (ob 5 fs)) (kk : pV p l e R s m args below meth c nL E A Q z h k n (pc + 3) L (v :: st)) (hv : fs[2]? = some v := by rfl) : pV p l e R s m args below meth c nL E A Q z h k n pc L (.ref a0 :: st) := v_get (T := TX5) (ci := 5) (kf := 2) X hd inU5 rfl (by decide) wf_X2_119 hh hv kk
theorem p_X2_119 (X : pCx p s m args c cc nL RX2 E A) {a0 : Nat} {fs fs1 : List Value} {x : Int32} (hd : decode cc pc = .ok (.putfield 119, 3)) (hh : h a0 = some (ob 5 fs)) (kk : pV p l e R s m args below meth c nL E A Q z (pset h a0 (ob 5 fs1)) k n (pc + 3) L st) (hl : 2 < fs.length := by exact Nat.le_of_ble_eq_true rfl) (hfs : fs.set 2 (.int x) = fs1 := by rfl) : pV p l e R s m args below meth c nL E A Q z h k n pc L (.int x :: .ref a0 :: st) := by
  subst hfs
  exact v_put (T := TX5) (ci := 5) (kf := 2) X hd inU5 tyX5 tyX5_ok nmX5 rfl (by decide) wf_X2_119 rfl (ty := .int) (by decide +kernel) rfl rfl hh hl kk
theorem wf_X5_21 : Cond.fieldLink RX5 21 (TX5 3).1 (TX5 3).2.1 (TX5 3).2.2.1 ∈ uw := uw_in (i := 104) (by decide +kernel) (by decide +kernel)
theorem g_X5_21 (X : pCx p s m args c cc nL RX5 E A) {a0 : Nat} {fs : List Value} {v : Value} (hd : decode cc pc = .ok (.getfield 21, 3)) (hh : h a0 = some (ob 5 fs)) (kk : pV p l e R s m args below meth c nL E A Q z h k n (pc + 3) L (v :: st)) (hv : fs[3]? = some v := by rfl) : pV p l e R s m args below meth c nL E A Q z h k n pc L (.ref a0 :: st) := v_get (T := TX5) (ci := 5) (kf := 3) X hd inU5 rfl (by decide) wf_X5_21 hh hv kk
theorem p_X5_21 (X : pCx p s m args c cc nL RX5 E A) {a0 : Nat} {fs fs1 : List Value} {x : Int32} (hd : decode cc pc = .ok (.putfield 21, 3)) (hh : h a0 = some (ob 5 fs)) (kk : pV p l e R s m args below meth c nL E A Q z (pset h a0 (ob 5 fs1)) k n (pc + 3) L st) (hl : 3 < fs.length := by exact Nat.le_of_ble_eq_true rfl) (hfs : fs.set 3 (.int x) = fs1 := by rfl) : pV p l e R s m args below meth c nL E A Q z h k n pc L (.int x :: .ref a0 :: st) := by
  subst hfs
  exact v_put (T := TX5) (ci := 5) (kf := 3) X hd inU5 tyX5 tyX5_ok nmX5 rfl (by decide) wf_X5_21 rfl (ty := .int) (by decide +kernel) rfl rfl hh hl kk
theorem wf_X2_123 : Cond.fieldLink RX2 123 (TX5 3).1 (TX5 3).2.1 (TX5 3).2.2.1 ∈ uw := uw_in (i := 105) (by decide +kernel) (by decide +kernel)
theorem g_X2_123 (X : pCx p s m args c cc nL RX2 E A) {a0 : Nat} {fs : List Value} {v : Value} (hd : decode cc pc = .ok (.getfield 123, 3)) (hh : h a0 = some (ob 5 fs)) (kk : pV p l e R s m args below meth c nL E A Q z h k n (pc + 3) L (v :: st)) (hv : fs[3]? = some v := by rfl) : pV p l e R s m args below meth c nL E A Q z h k n pc L (.ref a0 :: st) := v_get (T := TX5) (ci := 5) (kf := 3) X hd inU5 rfl (by decide) wf_X2_123 hh hv kk
theorem p_X2_123 (X : pCx p s m args c cc nL RX2 E A) {a0 : Nat} {fs fs1 : List Value} {x : Int32} (hd : decode cc pc = .ok (.putfield 123, 3)) (hh : h a0 = some (ob 5 fs)) (kk : pV p l e R s m args below meth c nL E A Q z (pset h a0 (ob 5 fs1)) k n (pc + 3) L st) (hl : 3 < fs.length := by exact Nat.le_of_ble_eq_true rfl) (hfs : fs.set 3 (.int x) = fs1 := by rfl) : pV p l e R s m args below meth c nL E A Q z h k n pc L (.int x :: .ref a0 :: st) := by
  subst hfs
  exact v_put (T := TX5) (ci := 5) (kf := 3) X hd inU5 tyX5 tyX5_ok nmX5 rfl (by decide) wf_X2_123 rfl (ty := .int) (by decide +kernel) rfl rfl hh hl kk
theorem wf_X5_24 : Cond.fieldLink RX5 24 (TX5 4).1 (TX5 4).2.1 (TX5 4).2.2.1 ∈ uw := uw_in (i := 106) (by decide +kernel) (by decide +kernel)
theorem g_X5_24 (X : pCx p s m args c cc nL RX5 E A) {a0 : Nat} {fs : List Value} {v : Value} (hd : decode cc pc = .ok (.getfield 24, 3)) (hh : h a0 = some (ob 5 fs)) (kk : pV p l e R s m args below meth c nL E A Q z h k n (pc + 3) L (v :: st)) (hv : fs[4]? = some v := by rfl) : pV p l e R s m args below meth c nL E A Q z h k n pc L (.ref a0 :: st) := v_get (T := TX5) (ci := 5) (kf := 4) X hd inU5 rfl (by decide) wf_X5_24 hh hv kk
theorem p_X5_24 (X : pCx p s m args c cc nL RX5 E A) {a0 : Nat} {fs fs1 : List Value} {x : Int32} (hd : decode cc pc = .ok (.putfield 24, 3)) (hh : h a0 = some (ob 5 fs)) (kk : pV p l e R s m args below meth c nL E A Q z (pset h a0 (ob 5 fs1)) k n (pc + 3) L st) (hl : 4 < fs.length := by exact Nat.le_of_ble_eq_true rfl) (hfs : fs.set 4 (.int x) = fs1 := by rfl) : pV p l e R s m args below meth c nL E A Q z h k n pc L (.int x :: .ref a0 :: st) := by
  subst hfs
  exact v_put (T := TX5) (ci := 5) (kf := 4) X hd inU5 tyX5 tyX5_ok nmX5 rfl (by decide) wf_X5_24 rfl (ty := .int) (by decide +kernel) rfl rfl hh hl kk
theorem wf_X2_126 : Cond.fieldLink RX2 126 (TX5 4).1 (TX5 4).2.1 (TX5 4).2.2.1 ∈ uw := uw_in (i := 107) (by decide +kernel) (by decide +kernel)
theorem g_X2_126 (X : pCx p s m args c cc nL RX2 E A) {a0 : Nat} {fs : List Value} {v : Value} (hd : decode cc pc = .ok (.getfield 126, 3)) (hh : h a0 = some (ob 5 fs)) (kk : pV p l e R s m args below meth c nL E A Q z h k n (pc + 3) L (v :: st)) (hv : fs[4]? = some v := by rfl) : pV p l e R s m args below meth c nL E A Q z h k n pc L (.ref a0 :: st) := v_get (T := TX5) (ci := 5) (kf := 4) X hd inU5 rfl (by decide) wf_X2_126 hh hv kk
theorem p_X2_126 (X : pCx p s m args c cc nL RX2 E A) {a0 : Nat} {fs fs1 : List Value} {x : Int32} (hd : decode cc pc = .ok (.putfield 126, 3)) (hh : h a0 = some (ob 5 fs)) (kk : pV p l e R s m args below meth c nL E A Q z (pset h a0 (ob 5 fs1)) k n (pc + 3) L st) (hl : 4 < fs.length := by exact Nat.le_of_ble_eq_true rfl) (hfs : fs.set 4 (.int x) = fs1 := by rfl) : pV p l e R s m args below meth c nL E A Q z h k n pc L (.int x :: .ref a0 :: st) := by
  subst hfs
  exact v_put (T := TX5) (ci := 5) (kf := 4) X hd inU5 tyX5 tyX5_ok nmX5 rfl (by decide) wf_X2_126 rfl (ty := .int) (by decide +kernel) rfl rfl hh hl kk
theorem wf_X2_9 : Cond.fieldLink RX2 9 (TX2 0).1 (TX2 0).2.1 (TX2 0).2.2.1 ∈ uw := uw_in (i := 119) (by decide +kernel) (by decide +kernel)
theorem g_X2_9 (X : pCx p s m args c cc nL RX2 E A) {a0 : Nat} {fs : List Value} {v : Value} (hd : decode cc pc = .ok (.getfield 9, 3)) (hh : h a0 = some (ob 2 fs)) (kk : pV p l e R s m args below meth c nL E A Q z h k n (pc + 3) L (v :: st)) (hv : fs[0]? = some v := by rfl) : pV p l e R s m args below meth c nL E A Q z h k n pc L (.ref a0 :: st) := v_get (T := TX2) (ci := 2) (kf := 0) X hd inU2 rfl (by decide) wf_X2_9 hh hv kk
theorem p_X2_9 (X : pCx p s m args c cc nL RX2 E A) {a0 : Nat} {fs fs1 : List Value} {x : Int32} (hd : decode cc pc = .ok (.putfield 9, 3)) (hh : h a0 = some (ob 2 fs)) (kk : pV p l e R s m args below meth c nL E A Q z (pset h a0 (ob 2 fs1)) k n (pc + 3) L st) (hl : 0 < fs.length := by exact Nat.le_of_ble_eq_true rfl) (hfs : fs.set 0 (.int x) = fs1 := by rfl) : pV p l e R s m args below meth c nL E A Q z h k n pc L (.int x :: .ref a0 :: st) := by
  subst hfs
  exact v_put (T := TX2) (ci := 2) (kf := 0) X hd inU2 tyX2 tyX2_ok nmX2 rfl (by decide) wf_X2_9 rfl (ty := .int) (by decide +kernel) rfl rfl hh hl kk
theorem wf_X6_103 : Cond.fieldLink RX6 103 (TX2 0).1 (TX2 0).2.1 (TX2 0).2.2.1 ∈ uw := uw_in (i := 120) (by decide +kernel) (by decide +kernel)
theorem g_X6_103 (X : pCx p s m args c cc nL RX6 E A) {a0 : Nat} {fs : List Value} {v : Value} (hd : decode cc pc = .ok (.getfield 103, 3)) (hh : h a0 = some (ob 2 fs)) (kk : pV p l e R s m args below meth c nL E A Q z h k n (pc + 3) L (v :: st)) (hv : fs[0]? = some v := by rfl) : pV p l e R s m args below meth c nL E A Q z h k n pc L (.ref a0 :: st) := v_get (T := TX2) (ci := 2) (kf := 0) X hd inU2 rfl (by decide) wf_X6_103 hh hv kk
theorem p_X6_103 (X : pCx p s m args c cc nL RX6 E A) {a0 : Nat} {fs fs1 : List Value} {x : Int32} (hd : decode cc pc = .ok (.putfield 103, 3)) (hh : h a0 = some (ob 2 fs)) (kk : pV p l e R s m args below meth c nL E A Q z (pset h a0 (ob 2 fs1)) k n (pc + 3) L st) (hl : 0 < fs.length := by exact Nat.le_of_ble_eq_true rfl) (hfs : fs.set 0 (.int x) = fs1 := by rfl) : pV p l e R s m args below meth c nL E A Q z h k n pc L (.int x :: .ref a0 :: st) := by
  subst hfs
  exact v_put (T := TX2) (ci := 2) (kf := 0) X hd inU2 tyX2 tyX2_ok nmX2 rfl (by decide) wf_X6_103 rfl (ty := .int) (by decide +kernel) rfl rfl hh hl kk
theorem wf_X2_15 : Cond.fieldLink RX2 15 (TX2 1).1 (TX2 1).2.1 (TX2 1).2.2.1 ∈ uw := uw_in (i := 121) (by decide +kernel) (by decide +kernel)
theorem g_X2_15 (X : pCx p s m args c cc nL RX2 E A) {a0 : Nat} {fs : List Value} {v : Value} (hd : decode cc pc = .ok (.getfield 15, 3)) (hh : h a0 = some (ob 2 fs)) (kk : pV p l e R s m args below meth c nL E A Q z h k n (pc + 3) L (v :: st)) (hv : fs[1]? = some v := by rfl) : pV p l e R s m args below meth c nL E A Q z h k n pc L (.ref a0 :: st) := v_get (T := TX2) (ci := 2) (kf := 1) X hd inU2 rfl (by decide) wf_X2_15 hh hv kk
theorem p_X2_15 (X : pCx p s m args c cc nL RX2 E A) {a0 : Nat} {fs fs1 : List Value} {x : Int32} (hd : decode cc pc = .ok (.putfield 15, 3)) (hh : h a0 = some (ob 2 fs)) (kk : pV p l e R s m args below meth c nL E A Q z (pset h a0 (ob 2 fs1)) k n (pc + 3) L st) (hl : 1 < fs.length := by exact Nat.le_of_ble_eq_true rfl) (hfs : fs.set 1 (.int x) = fs1 := by rfl) : pV p l e R s m args below meth c nL E A Q z h k n pc L (.int x :: .ref a0 :: st) := by
  subst hfs
  exact v_put (T := TX2) (ci := 2) (kf := 1) X hd inU2 tyX2 tyX2_ok nmX2 rfl (by decide) wf_X2_15 rfl (ty := .int) (by decide +kernel) rfl rfl hh hl kk
theorem wf_X6_121 : Cond.fieldLink RX6 121 (TX2 1).1 (TX2 1).2.1 (TX2 1).2.2.1 ∈ uw := uw_in (i := 122) (by decide +kernel) (by decide +kernel)
theorem g_X6_121 (X : pCx p s m args c cc nL RX6 E A) {a0 : Nat} {fs : List Value} {v : Value} (hd : decode cc pc = .ok (.getfield 121, 3)) (hh : h a0 = some (ob 2 fs)) (kk : pV p l e R s m args below meth c nL E A Q z h k n (pc + 3) L (v :: st)) (hv : fs[1]? = some v := by rfl) : pV p l e R s m args below meth c nL E A Q z h k n pc L (.ref a0 :: st) := v_get (T := TX2) (ci := 2) (kf := 1) X hd inU2 rfl (by decide) wf_X6_121 hh hv kk
theorem p_X6_121 (X : pCx p s m args c cc nL RX6 E A) {a0 : Nat} {fs fs1 : List Value} {x : Int32} (hd : decode cc pc = .ok (.putfield 121, 3)) (hh : h a0 = some (ob 2 fs)) (kk : pV p l e R s m args below meth c nL E A Q z (pset h a0 (ob 2 fs1)) k n (pc + 3) L st) (hl : 1 < fs.length := by exact Nat.le_of_ble_eq_true rfl) (hfs : fs.set 1 (.int x) = fs1 := by rfl) : pV p l e R s m args below meth c nL E A Q z h k n pc L (.int x :: .ref a0 :: st) := by
  subst hfs
  exact v_put (T := TX2) (ci := 2) (kf := 1) X hd inU2 tyX2 tyX2_ok nmX2 rfl (by decide) wf_X6_121 rfl (ty := .int) (by decide +kernel) rfl rfl hh hl kk
theorem wf_X2_18 : Cond.fieldLink RX2 18 (TX2 2).1 (TX2 2).2.1 (TX2 2).2.2.1 ∈ uw := uw_in (i := 123) (by decide +kernel) (by decide +kernel)
theorem g_X2_18 (X : pCx p s m args c cc nL RX2 E A) {a0 : Nat} {fs : List Value} {v : Value} (hd : decode cc pc = .ok (.getfield 18, 3)) (hh : h a0 = some (ob 2 fs)) (kk : pV p l e R s m args below meth c nL E A Q z h k n (pc + 3) L (v :: st)) (hv : fs[2]? = some v := by rfl) : pV p l e R s m args below meth c nL E A Q z h k n pc L (.ref a0 :: st) := v_get (T := TX2) (ci := 2) (kf := 2) X hd inU2 rfl (by decide) wf_X2_18 hh hv kk
theorem p_X2_18 (X : pCx p s m args c cc nL RX2 E A) {a0 : Nat} {fs fs1 : List Value} {x : Int32} (hd : decode cc pc = .ok (.putfield 18, 3)) (hh : h a0 = some (ob 2 fs)) (kk : pV p l e R s m args below meth c nL E A Q z (pset h a0 (ob 2 fs1)) k n (pc + 3) L st) (hl : 2 < fs.length := by exact Nat.le_of_ble_eq_true rfl) (hfs : fs.set 2 (.int x) = fs1 := by rfl) : pV p l e R s m args below meth c nL E A Q z h k n pc L (.int x :: .ref a0 :: st) := by
  subst hfs
  exact v_put (T := TX2) (ci := 2) (kf := 2) X hd inU2 tyX2 tyX2_ok nmX2 rfl (by decide) wf_X2_18 rfl (ty := .int) (by decide +kernel) rfl rfl hh hl kk
theorem wf_X6_118 : Cond.fieldLink RX6 118 (TX2 2).1 (TX2 2).2.1 (TX2 2).2.2.1 ∈ uw := uw_in (i := 124) (by decide +kernel) (by decide +kernel)
theorem g_X6_118 (X : pCx p s m args c cc nL RX6 E A) {a0 : Nat} {fs : List Value} {v : Value} (hd : decode cc pc = .ok (.getfield 118, 3)) (hh : h a0 = some (ob 2 fs)) (kk : pV p l e R s m args below meth c nL E A Q z h k n (pc + 3) L (v :: st)) (hv : fs[2]? = some v := by rfl) : pV p l e R s m args below meth c nL E A Q z h k n pc L (.ref a0 :: st) := v_get (T := TX2) (ci := 2) (kf := 2) X hd inU2 rfl (by decide) wf_X6_118 hh hv kk
theorem p_X6_118 (X : pCx p s m args c cc nL RX6 E A) {a0 : Nat} {fs fs1 : List Value} {x : Int32} (hd : decode cc pc = .ok (.putfield 118, 3)) (hh : h a0 = some (ob 2 fs)) (kk : pV p l e R s m args below meth c nL E A Q z (pset h a0 (ob 2 fs1)) k n (pc + 3) L st) (hl : 2 < fs.length := by exact Nat.le_of_ble_eq_true rfl) (hfs : fs.set 2 (.int x) = fs1 := by rfl) : pV p l e R s m args below meth c nL E A Q z h k n pc L (.int x :: .ref a0 :: st) := by
  subst hfs
  exact v_put (T := TX2) (ci := 2) (kf := 2) X hd inU2 tyX2 tyX2_ok nmX2 rfl (by decide) wf_X6_118 rfl (ty := .int) (by decide +kernel) rfl rfl hh hl kk
theorem wf_X2_21 : Cond.fieldLink RX2 21 (TX2 3).1 (TX2 3).2.1 (TX2 3).2.2.1 ∈ uw := uw_in (i := 125) (by decide +kernel) (by decide +kernel)
theorem g_X2_21 (X : pCx p s m args c cc nL RX2 E A) {a0 : Nat} {fs : List Value} {v : Value} (hd : decode cc pc = .ok (.getfield 21, 3)) (hh : h a0 = some (ob 2 fs)) (kk : pV p l e R s m args below meth c nL E A Q z h k n (pc + 3) L (v :: st)) (hv : fs[3]? = some v := by rfl) : pV p l e R s m args below meth c nL E A Q z h k n pc L (.ref a0 :: st) := v_get (T := TX2) (ci := 2) (kf := 3) X hd inU2 rfl (by decide) wf_X2_21 hh hv kk
theorem p_X2_21 (X : pCx p s m args c cc nL RX2 E A) {a0 : Nat} {fs fs1 : List Value} {x : Int32} (hd : decode cc pc = .ok (.putfield 21, 3)) (hh : h a0 = some (ob 2 fs)) (kk : pV p l e R s m args below meth c nL E A Q z (pset h a0 (ob 2 fs1)) k n (pc + 3) L st) (hl : 3 < fs.length := by exact Nat.le_of_ble_eq_true rfl) (hfs : fs.set 3 (.int x) = fs1 := by rfl) : pV p l e R s m args below meth c nL E A Q z h k n pc L (.int x :: .ref a0 :: st) := by
  subst hfs
  exact v_put (T := TX2) (ci := 2) (kf := 3) X hd inU2 tyX2 tyX2_ok nmX2 rfl (by decide) wf_X2_21 rfl (ty := .int) (by decide +kernel) rfl rfl hh hl kk
theorem wf_X6_106 : Cond.fieldLink RX6 106 (TX2 3).1 (TX2 3).2.1 (TX2 3).2.2.1 ∈ uw := uw_in (i := 126) (by decide +kernel) (by decide +kernel)
theorem g_X6_106 (X : pCx p s m args c cc nL RX6 E A) {a0 : Nat} {fs : List Value} {v : Value} (hd : decode cc pc = .ok (.getfield 106, 3)) (hh : h a0 = some (ob 2 fs)) (kk : pV p l e R s m args below meth c nL E A Q z h k n (pc + 3) L (v :: st)) (hv : fs[3]? = some v := by rfl) : pV p l e R s m args below meth c nL E A Q z h k n pc L (.ref a0 :: st) := v_get (T := TX2) (ci := 2) (kf := 3) X hd inU2 rfl (by decide) wf_X6_106 hh hv kk
theorem p_X6_106 (X : pCx p s m args c cc nL RX6 E A) {a0 : Nat} {fs fs1 : List Value} {x : Int32} (hd : decode cc pc = .ok (.putfield 106, 3)) (hh : h a0 = some (ob 2 fs)) (kk : pV p l e R s m args below meth c nL E A Q z (pset h a0 (ob 2 fs1)) k n (pc + 3) L st) (hl : 3 < fs.length := by exact Nat.le_of_ble_eq_true rfl) (hfs : fs.set 3 (.int x) = fs1 := by rfl) : pV p l e R s m args below meth c nL E A Q z h k n pc L (.int x :: .ref a0 :: st) := by
  subst hfs
  exact v_put (T := TX2) (ci := 2) (kf := 3) X hd inU2 tyX2 tyX2_ok nmX2 rfl (by decide) wf_X6_106 rfl (ty := .int) (by decide +kernel) rfl rfl hh hl kk
theorem wf_X2_24 : Cond.fieldLink RX2 24 (TX2 4).1 (TX2 4).2.1 (TX2 4).2.2.1 ∈ uw := uw_in (i := 127) (by decide +kernel) (by decide +kernel)
theorem g_X2_24 (X : pCx p s m args c cc nL RX2 E A) {a0 : Nat} {fs : List Value} {v : Value} (hd : decode cc pc = .ok (.getfield 24, 3)) (hh : h a0 = some (ob 2 fs)) (kk : pV p l e R s m args below meth c nL E A Q z h k n (pc + 3) L (v :: st)) (hv : fs[4]? = some v := by rfl) : pV p l e R s m args below meth c nL E A Q z h k n pc L (.ref a0 :: st) := v_get (T := TX2) (ci := 2) (kf := 4) X hd inU2 rfl (by decide) wf_X2_24 hh hv kk
theorem p_X2_24 (X : pCx p s m args c cc nL RX2 E A) {a0 : Nat} {fs fs1 : List Value} {x : Int32} (hd : decode cc pc = .ok (.putfield 24, 3)) (hh : h a0 = some (ob 2 fs)) (kk : pV p l e R s m args below meth c nL E A Q z (pset h a0 (ob 2 fs1)) k n (pc + 3) L st) (hl : 4 < fs.length := by exact Nat.le_of_ble_eq_true rfl) (hfs : fs.set 4 (.int x) = fs1 := by rfl) : pV p l e R s m args below meth c nL E A Q z h k n pc L (.int x :: .ref a0 :: st) := by
  subst hfs
  exact v_put (T := TX2) (ci := 2) (kf := 4) X hd inU2 tyX2 tyX2_ok nmX2 rfl (by decide) wf_X2_24 rfl (ty := .int) (by decide +kernel) rfl rfl hh hl kk
theorem wf_X6_109 : Cond.fieldLink RX6 109 (TX2 4).1 (TX2 4).2.1 (TX2 4).2.2.1 ∈ uw := uw_in (i := 128) (by decide +kernel) (by decide +kernel)
theorem g_X6_109 (X : pCx p s m args c cc nL RX6 E A) {a0 : Nat} {fs : List Value} {v : Value} (hd : decode cc pc = .ok (.getfield 109, 3)) (hh : h a0 = some (ob 2 fs)) (kk : pV p l e R s m args below meth c nL E A Q z h k n (pc + 3) L (v :: st)) (hv : fs[4]? = some v := by rfl) : pV p l e R s m args below meth c nL E A Q z h k n pc L (.ref a0 :: st) := v_get (T := TX2) (ci := 2) (kf := 4) X hd inU2 rfl (by decide) wf_X6_109 hh hv kk
theorem p_X6_109 (X : pCx p s m args c cc nL RX6 E A) {a0 : Nat} {fs fs1 : List Value} {x : Int32} (hd : decode cc pc = .ok (.putfield 109, 3)) (hh : h a0 = some (ob 2 fs)) (kk : pV p l e R s m args below meth c nL E A Q z (pset h a0 (ob 2 fs1)) k n (pc + 3) L st) (hl : 4 < fs.length := by exact Nat.le_of_ble_eq_true rfl) (hfs : fs.set 4 (.int x) = fs1 := by rfl) : pV p l e R s m args below meth c nL E A Q z h k n pc L (.int x :: .ref a0 :: st) := by
  subst hfs
  exact v_put (T := TX2) (ci := 2) (kf := 4) X hd inU2 tyX2 tyX2_ok nmX2 rfl (by decide) wf_X6_109 rfl (ty := .int) (by decide +kernel) rfl rfl hh hl kk
theorem wf_X2_27 : Cond.fieldLink RX2 27 (TX2 5).1 (TX2 5).2.1 (TX2 5).2.2.1 ∈ uw := uw_in (i := 129) (by decide +kernel) (by decide +kernel)
theorem g_X2_27 (X : pCx p s m args c cc nL RX2 E A) {a0 : Nat} {fs : List Value} {v : Value} (hd : decode cc pc = .ok (.getfield 27, 3)) (hh : h a0 = some (ob 2 fs)) (kk : pV p l e R s m args below meth c nL E A Q z h k n (pc + 3) L (v :: st)) (hv : fs[5]? = some v := by rfl) : pV p l e R s m args below meth c nL E A Q z h k n pc L (.ref a0 :: st) := v_get (T := TX2) (ci := 2) (kf := 5) X hd inU2 rfl (by decide) wf_X2_27 hh hv kk
theorem p_X2_27 (X : pCx p s m args c cc nL RX2 E A) {a0 : Nat} {fs fs1 : List Value} {x : Int32} (hd : decode cc pc = .ok (.putfield 27, 3)) (hh : h a0 = some (ob 2 fs)) (kk : pV p l e R s m args below meth c nL E A Q z (pset h a0 (ob 2 fs1)) k n (pc + 3) L st) (hl : 5 < fs.length := by exact Nat.le_of_ble_eq_true rfl) (hfs : fs.set 5 (.int x) = fs1 := by rfl) : pV p l e R s m args below meth c nL E A Q z h k n pc L (.int x :: .ref a0 :: st) := by
  subst hfs
  exact v_put (T := TX2) (ci := 2) (kf := 5) X hd inU2 tyX2 tyX2_ok nmX2 rfl (by decide) wf_X2_27 rfl (ty := .int) (by decide +kernel) rfl rfl hh hl kk
theorem wf_X6_112 : Cond.fieldLink RX6 112 (TX2 5).1 (TX2 5).2.1 (TX2 5).2.2.1 ∈ uw := uw_in (i := 130) (by decide +kernel) (by decide +kernel)
theorem g_X6_112 (X : pCx p s m args c cc nL RX6 E A) {a0 : Nat} {fs : List Value} {v : Value} (hd : decode cc pc = .ok (.getfield 112, 3)) (hh : h a0 = some (ob 2 fs)) (kk : pV p l e R s m args below meth c nL E A Q z h k n (pc + 3) L (v :: st)) (hv : fs[5]? = some v := by rfl) : pV p l e R s m args below meth c nL E A Q z h k n pc L (.ref a0 :: st) := v_get (T := TX2) (ci := 2) (kf := 5) X hd inU2 rfl (by decide) wf_X6_112 hh hv kk
theorem p_X6_112 (X : pCx p s m args c cc nL RX6 E A) {a0 : Nat} {fs fs1 : List Value} {x : Int32} (hd : decode cc pc = .ok (.putfield 112, 3)) (hh : h a0 = some (ob 2 fs)) (kk : pV p l e R s m args below meth c nL E A Q z (pset h a0 (ob 2 fs1)) k n (pc + 3) L st) (hl : 5 < fs.length := by exact Nat.le_of_ble_eq_true rfl) (hfs : fs.set 5 (.int x) = fs1 := by rfl) : pV p l e R s m args below meth c nL E A Q z h k n pc L (.int x :: .ref a0 :: st) := by
  subst hfs
  exact v_put (T := TX2) (ci := 2) (kf := 5) X hd inU2 tyX2 tyX2_ok nmX2 rfl (by decide) wf_X6_112 rfl (ty := .int) (by decide +kernel) rfl rfl hh hl kk
theorem wf_X2_32 : Cond.fieldLink RX2 32 (TX2 6).1 (TX2 6).2.1 (TX2 6).2.2.1 ∈ uw := uw_in (i := 131) (by decide +kernel) (by decide +kernel)
theorem g_X2_32 (X : pCx p s m args c cc nL RX2 E A) {a0 : Nat} {fs : List Value} {v : Value} (hd : decode cc pc = .ok (.getfield 32, 3)) (hh : h a0 = some (ob 2 fs)) (kk : pV p l e R s m args below meth c nL E A Q z h k n (pc + 3) L (v :: st)) (hv : fs[6]? = some v := by rfl) : pV p l e R s m args below meth c nL E A Q z h k n pc L (.ref a0 :: st) := v_get (T := TX2) (ci := 2) (kf := 6) X hd inU2 rfl (by decide) wf_X2_32 hh hv kk
theorem p_X2_32 (X : pCx p s m args c cc nL RX2 E A) {a0 x : Nat} {fs fs1 : List Value} (hd : decode cc pc = .ok (.putfield 32, 3)) (hh : h a0 = some (ob 2 fs)) (hin2 : meth.name = "<init>") (kk : pV p l e R s m args below meth c nL E A Q z (pset h a0 (ob 2 fs1)) k n (pc + 3) L st) (hl : 6 < fs.length := by exact Nat.le_of_ble_eq_true rfl) (hfs : fs.set 6 (.ref x) = fs1 := by rfl) : pV p l e R s m args below meth c nL E A Q z h k n pc L (.ref x :: .ref a0 :: st) := by
  subst hfs
  exact v_putF (T := TX2) (ci := 2) (kf := 6) X hd inU2 tyX2 tyX2_ok nmX2 rfl (by decide) wf_X2_32 rfl hin2 rfl (ty := .array (.object "PeatShares$Household")) (by decide +kernel) rfl rfl hh hl kk
theorem wf_X2_38 : Cond.fieldLink RX2 38 (TX2 7).1 (TX2 7).2.1 (TX2 7).2.2.1 ∈ uw := uw_in (i := 132) (by decide +kernel) (by decide +kernel)
theorem g_X2_38 (X : pCx p s m args c cc nL RX2 E A) {a0 : Nat} {fs : List Value} {v : Value} (hd : decode cc pc = .ok (.getfield 38, 3)) (hh : h a0 = some (ob 2 fs)) (kk : pV p l e R s m args below meth c nL E A Q z h k n (pc + 3) L (v :: st)) (hv : fs[7]? = some v := by rfl) : pV p l e R s m args below meth c nL E A Q z h k n pc L (.ref a0 :: st) := v_get (T := TX2) (ci := 2) (kf := 7) X hd inU2 rfl (by decide) wf_X2_38 hh hv kk
theorem p_X2_38 (X : pCx p s m args c cc nL RX2 E A) {a0 x : Nat} {fs fs1 : List Value} (hd : decode cc pc = .ok (.putfield 38, 3)) (hh : h a0 = some (ob 2 fs)) (hin2 : meth.name = "<init>") (kk : pV p l e R s m args below meth c nL E A Q z (pset h a0 (ob 2 fs1)) k n (pc + 3) L st) (hl : 7 < fs.length := by exact Nat.le_of_ble_eq_true rfl) (hfs : fs.set 7 (.ref x) = fs1 := by rfl) : pV p l e R s m args below meth c nL E A Q z h k n pc L (.ref x :: .ref a0 :: st) := by
  subst hfs
  exact v_putF (T := TX2) (ci := 2) (kf := 7) X hd inU2 tyX2 tyX2_ok nmX2 rfl (by decide) wf_X2_38 rfl hin2 rfl (ty := .array (.object "PeatShares$Bank")) (by decide +kernel) rfl rfl hh hl kk
theorem wf_X2_44 : Cond.fieldLink RX2 44 (TX2 8).1 (TX2 8).2.1 (TX2 8).2.2.1 ∈ uw := uw_in (i := 133) (by decide +kernel) (by decide +kernel)
theorem g_X2_44 (X : pCx p s m args c cc nL RX2 E A) {a0 : Nat} {fs : List Value} {v : Value} (hd : decode cc pc = .ok (.getfield 44, 3)) (hh : h a0 = some (ob 2 fs)) (kk : pV p l e R s m args below meth c nL E A Q z h k n (pc + 3) L (v :: st)) (hv : fs[8]? = some v := by rfl) : pV p l e R s m args below meth c nL E A Q z h k n pc L (.ref a0 :: st) := v_get (T := TX2) (ci := 2) (kf := 8) X hd inU2 rfl (by decide) wf_X2_44 hh hv kk
theorem p_X2_44 (X : pCx p s m args c cc nL RX2 E A) {a0 x : Nat} {fs fs1 : List Value} (hd : decode cc pc = .ok (.putfield 44, 3)) (hh : h a0 = some (ob 2 fs)) (hin2 : meth.name = "<init>") (kk : pV p l e R s m args below meth c nL E A Q z (pset h a0 (ob 2 fs1)) k n (pc + 3) L st) (hl : 8 < fs.length := by exact Nat.le_of_ble_eq_true rfl) (hfs : fs.set 8 (.ref x) = fs1 := by rfl) : pV p l e R s m args below meth c nL E A Q z h k n pc L (.ref x :: .ref a0 :: st) := by
  subst hfs
  exact v_putF (T := TX2) (ci := 2) (kf := 8) X hd inU2 tyX2 tyX2_ok nmX2 rfl (by decide) wf_X2_44 rfl hin2 rfl (ty := .array (.object "PeatShares$TurfStack")) (by decide +kernel) rfl rfl hh hl kk
theorem wf_X4_12 : Cond.fieldLink RX4 12 (TX4 0).1 (TX4 0).2.1 (TX4 0).2.2.1 ∈ uw := uw_in (i := 154) (by decide +kernel) (by decide +kernel)
theorem g_X4_12 (X : pCx p s m args c cc nL RX4 E A) {a0 : Nat} {fs : List Value} {v : Value} (hd : decode cc pc = .ok (.getfield 12, 3)) (hh : h a0 = some (ob 4 fs)) (kk : pV p l e R s m args below meth c nL E A Q z h k n (pc + 3) L (v :: st)) (hv : fs[0]? = some v := by rfl) : pV p l e R s m args below meth c nL E A Q z h k n pc L (.ref a0 :: st) := v_get (T := TX4) (ci := 4) (kf := 0) X hd inU4 rfl (by decide) wf_X4_12 hh hv kk
theorem p_X4_12 (X : pCx p s m args c cc nL RX4 E A) {a0 x : Nat} {fs fs1 : List Value} (hd : decode cc pc = .ok (.putfield 12, 3)) (hh : h a0 = some (ob 4 fs)) (hin2 : meth.name = "<init>") (kk : pV p l e R s m args below meth c nL E A Q z (pset h a0 (ob 4 fs1)) k n (pc + 3) L st) (hl : 0 < fs.length := by exact Nat.le_of_ble_eq_true rfl) (hfs : fs.set 0 (.ref x) = fs1 := by rfl) : pV p l e R s m args below meth c nL E A Q z h k n pc L (.ref x :: .ref a0 :: st) := by
  subst hfs
  exact v_putF (T := TX4) (ci := 4) (kf := 0) X hd inU4 tyX4 tyX4_ok nmX4 rfl (by decide) wf_X4_12 rfl hin2 rfl (ty := .object "PeatShares$Parish") (by decide +kernel) rfl rfl hh hl kk
theorem wf_X6_38 : Cond.fieldLink RX6 38 (TX4 0).1 (TX4 0).2.1 (TX4 0).2.2.1 ∈ uw := uw_in (i := 155) (by decide +kernel) (by decide +kernel)
theorem g_X6_38 (X : pCx p s m args c cc nL RX6 E A) {a0 : Nat} {fs : List Value} {v : Value} (hd : decode cc pc = .ok (.getfield 38, 3)) (hh : h a0 = some (ob 4 fs)) (kk : pV p l e R s m args below meth c nL E A Q z h k n (pc + 3) L (v :: st)) (hv : fs[0]? = some v := by rfl) : pV p l e R s m args below meth c nL E A Q z h k n pc L (.ref a0 :: st) := v_get (T := TX4) (ci := 4) (kf := 0) X hd inU4 rfl (by decide) wf_X6_38 hh hv kk
theorem wf_X4_18 : Cond.fieldLink RX4 18 (TX4 1).1 (TX4 1).2.1 (TX4 1).2.2.1 ∈ uw := uw_in (i := 156) (by decide +kernel) (by decide +kernel)
theorem g_X4_18 (X : pCx p s m args c cc nL RX4 E A) {a0 : Nat} {fs : List Value} {v : Value} (hd : decode cc pc = .ok (.getfield 18, 3)) (hh : h a0 = some (ob 4 fs)) (kk : pV p l e R s m args below meth c nL E A Q z h k n (pc + 3) L (v :: st)) (hv : fs[1]? = some v := by rfl) : pV p l e R s m args below meth c nL E A Q z h k n pc L (.ref a0 :: st) := v_get (T := TX4) (ci := 4) (kf := 1) X hd inU4 rfl (by decide) wf_X4_18 hh hv kk
theorem p_X4_18 (X : pCx p s m args c cc nL RX4 E A) {a0 x : Nat} {fs fs1 : List Value} (hd : decode cc pc = .ok (.putfield 18, 3)) (hh : h a0 = some (ob 4 fs)) (hin2 : meth.name = "<init>") (kk : pV p l e R s m args below meth c nL E A Q z (pset h a0 (ob 4 fs1)) k n (pc + 3) L st) (hl : 1 < fs.length := by exact Nat.le_of_ble_eq_true rfl) (hfs : fs.set 1 (.ref x) = fs1 := by rfl) : pV p l e R s m args below meth c nL E A Q z h k n pc L (.ref x :: .ref a0 :: st) := by
  subst hfs
  exact v_putF (T := TX4) (ci := 4) (kf := 1) X hd inU4 tyX4 tyX4_ok nmX4 rfl (by decide) wf_X4_18 rfl hin2 rfl (ty := .array (.object "PeatShares$Parish")) (by decide +kernel) rfl rfl hh hl kk
theorem wf_X4_22 : Cond.fieldLink RX4 22 (TX4 2).1 (TX4 2).2.1 (TX4 2).2.2.1 ∈ uw := uw_in (i := 157) (by decide +kernel) (by decide +kernel)
theorem g_X4_22 (X : pCx p s m args c cc nL RX4 E A) {a0 : Nat} {fs : List Value} {v : Value} (hd : decode cc pc = .ok (.getfield 22, 3)) (hh : h a0 = some (ob 4 fs)) (kk : pV p l e R s m args below meth c nL E A Q z h k n (pc + 3) L (v :: st)) (hv : fs[2]? = some v := by rfl) : pV p l e R s m args below meth c nL E A Q z h k n pc L (.ref a0 :: st) := v_get (T := TX4) (ci := 4) (kf := 2) X hd inU4 rfl (by decide) wf_X4_22 hh hv kk
theorem p_X4_22 (X : pCx p s m args c cc nL RX4 E A) {a0 x : Nat} {fs fs1 : List Value} (hd : decode cc pc = .ok (.putfield 22, 3)) (hh : h a0 = some (ob 4 fs)) (hin2 : meth.name = "<init>") (kk : pV p l e R s m args below meth c nL E A Q z (pset h a0 (ob 4 fs1)) k n (pc + 3) L st) (hl : 2 < fs.length := by exact Nat.le_of_ble_eq_true rfl) (hfs : fs.set 2 (.ref x) = fs1 := by rfl) : pV p l e R s m args below meth c nL E A Q z h k n pc L (.ref x :: .ref a0 :: st) := by
  subst hfs
  exact v_putF (T := TX4) (ci := 4) (kf := 2) X hd inU4 tyX4 tyX4_ok nmX4 rfl (by decide) wf_X4_22 rfl hin2 rfl (ty := .array (.boolean)) (by decide +kernel) rfl rfl hh hl kk
theorem wf_X3_9 : Cond.fieldLink RX3 9 (TX3 0).1 (TX3 0).2.1 (TX3 0).2.2.1 ∈ uw := uw_in (i := 172) (by decide +kernel) (by decide +kernel)
theorem g_X3_9 (X : pCx p s m args c cc nL RX3 E A) {a0 : Nat} {fs : List Value} {v : Value} (hd : decode cc pc = .ok (.getfield 9, 3)) (hh : h a0 = some (ob 3 fs)) (kk : pV p l e R s m args below meth c nL E A Q z h k n (pc + 3) L (v :: st)) (hv : fs[0]? = some v := by rfl) : pV p l e R s m args below meth c nL E A Q z h k n pc L (.ref a0 :: st) := v_get (T := TX3) (ci := 3) (kf := 0) X hd inU3 rfl (by decide) wf_X3_9 hh hv kk
theorem p_X3_9 (X : pCx p s m args c cc nL RX3 E A) {a0 x : Nat} {fs fs1 : List Value} (hd : decode cc pc = .ok (.putfield 9, 3)) (hh : h a0 = some (ob 3 fs)) (hin2 : meth.name = "<init>") (kk : pV p l e R s m args below meth c nL E A Q z (pset h a0 (ob 3 fs1)) k n (pc + 3) L st) (hl : 0 < fs.length := by exact Nat.le_of_ble_eq_true rfl) (hfs : fs.set 0 (.ref x) = fs1 := by rfl) : pV p l e R s m args below meth c nL E A Q z h k n pc L (.ref x :: .ref a0 :: st) := by
  subst hfs
  exact v_putF (T := TX3) (ci := 3) (kf := 0) X hd inU3 tyX3 tyX3_ok nmX3 rfl (by decide) wf_X3_9 rfl hin2 rfl (ty := .array (.char)) (by decide +kernel) rfl rfl hh hl kk
theorem wf_X3_15 : Cond.fieldLink RX3 15 (TX3 1).1 (TX3 1).2.1 (TX3 1).2.2.1 ∈ uw := uw_in (i := 173) (by decide +kernel) (by decide +kernel)
theorem g_X3_15 (X : pCx p s m args c cc nL RX3 E A) {a0 : Nat} {fs : List Value} {v : Value} (hd : decode cc pc = .ok (.getfield 15, 3)) (hh : h a0 = some (ob 3 fs)) (kk : pV p l e R s m args below meth c nL E A Q z h k n (pc + 3) L (v :: st)) (hv : fs[1]? = some v := by rfl) : pV p l e R s m args below meth c nL E A Q z h k n pc L (.ref a0 :: st) := v_get (T := TX3) (ci := 3) (kf := 1) X hd inU3 rfl (by decide) wf_X3_15 hh hv kk
theorem p_X3_15 (X : pCx p s m args c cc nL RX3 E A) {a0 : Nat} {fs fs1 : List Value} {x : Int32} (hd : decode cc pc = .ok (.putfield 15, 3)) (hh : h a0 = some (ob 3 fs)) (kk : pV p l e R s m args below meth c nL E A Q z (pset h a0 (ob 3 fs1)) k n (pc + 3) L st) (hl : 1 < fs.length := by exact Nat.le_of_ble_eq_true rfl) (hfs : fs.set 1 (.int x) = fs1 := by rfl) : pV p l e R s m args below meth c nL E A Q z h k n pc L (.int x :: .ref a0 :: st) := by
  subst hfs
  exact v_put (T := TX3) (ci := 3) (kf := 1) X hd inU3 tyX3 tyX3_ok nmX3 rfl (by decide) wf_X3_15 rfl (ty := .int) (by decide +kernel) rfl rfl hh hl kk
theorem wf_X6_127 : Cond.fieldLink RX6 127 (TX3 1).1 (TX3 1).2.1 (TX3 1).2.2.1 ∈ uw := uw_in (i := 174) (by decide +kernel) (by decide +kernel)
theorem g_X6_127 (X : pCx p s m args c cc nL RX6 E A) {a0 : Nat} {fs : List Value} {v : Value} (hd : decode cc pc = .ok (.getfield 127, 3)) (hh : h a0 = some (ob 3 fs)) (kk : pV p l e R s m args below meth c nL E A Q z h k n (pc + 3) L (v :: st)) (hv : fs[1]? = some v := by rfl) : pV p l e R s m args below meth c nL E A Q z h k n pc L (.ref a0 :: st) := v_get (T := TX3) (ci := 3) (kf := 1) X hd inU3 rfl (by decide) wf_X6_127 hh hv kk
theorem p_X6_127 (X : pCx p s m args c cc nL RX6 E A) {a0 : Nat} {fs fs1 : List Value} {x : Int32} (hd : decode cc pc = .ok (.putfield 127, 3)) (hh : h a0 = some (ob 3 fs)) (kk : pV p l e R s m args below meth c nL E A Q z (pset h a0 (ob 3 fs1)) k n (pc + 3) L st) (hl : 1 < fs.length := by exact Nat.le_of_ble_eq_true rfl) (hfs : fs.set 1 (.int x) = fs1 := by rfl) : pV p l e R s m args below meth c nL E A Q z h k n pc L (.int x :: .ref a0 :: st) := by
  subst hfs
  exact v_put (T := TX3) (ci := 3) (kf := 1) X hd inU3 tyX3 tyX3_ok nmX3 rfl (by decide) wf_X6_127 rfl (ty := .int) (by decide +kernel) rfl rfl hh hl kk
theorem wf_X3_19 : Cond.fieldLink RX3 19 (TX3 2).1 (TX3 2).2.1 (TX3 2).2.2.1 ∈ uw := uw_in (i := 175) (by decide +kernel) (by decide +kernel)
theorem g_X3_19 (X : pCx p s m args c cc nL RX3 E A) {a0 : Nat} {fs : List Value} {v : Value} (hd : decode cc pc = .ok (.getfield 19, 3)) (hh : h a0 = some (ob 3 fs)) (kk : pV p l e R s m args below meth c nL E A Q z h k n (pc + 3) L (v :: st)) (hv : fs[2]? = some v := by rfl) : pV p l e R s m args below meth c nL E A Q z h k n pc L (.ref a0 :: st) := v_get (T := TX3) (ci := 3) (kf := 2) X hd inU3 rfl (by decide) wf_X3_19 hh hv kk
theorem p_X3_19 (X : pCx p s m args c cc nL RX3 E A) {a0 : Nat} {fs fs1 : List Value} {x : Int32} (hd : decode cc pc = .ok (.putfield 19, 3)) (hh : h a0 = some (ob 3 fs)) (kk : pV p l e R s m args below meth c nL E A Q z (pset h a0 (ob 3 fs1)) k n (pc + 3) L st) (hl : 2 < fs.length := by exact Nat.le_of_ble_eq_true rfl) (hfs : fs.set 2 (.int x) = fs1 := by rfl) : pV p l e R s m args below meth c nL E A Q z h k n pc L (.int x :: .ref a0 :: st) := by
  subst hfs
  exact v_put (T := TX3) (ci := 3) (kf := 2) X hd inU3 tyX3 tyX3_ok nmX3 rfl (by decide) wf_X3_19 rfl (ty := .int) (by decide +kernel) rfl rfl hh hl kk
theorem wf_X3_22 : Cond.fieldLink RX3 22 (TX3 3).1 (TX3 3).2.1 (TX3 3).2.2.1 ∈ uw := uw_in (i := 176) (by decide +kernel) (by decide +kernel)
theorem g_X3_22 (X : pCx p s m args c cc nL RX3 E A) {a0 : Nat} {fs : List Value} {v : Value} (hd : decode cc pc = .ok (.getfield 22, 3)) (hh : h a0 = some (ob 3 fs)) (kk : pV p l e R s m args below meth c nL E A Q z h k n (pc + 3) L (v :: st)) (hv : fs[3]? = some v := by rfl) : pV p l e R s m args below meth c nL E A Q z h k n pc L (.ref a0 :: st) := v_get (T := TX3) (ci := 3) (kf := 3) X hd inU3 rfl (by decide) wf_X3_22 hh hv kk
theorem p_X3_22 (X : pCx p s m args c cc nL RX3 E A) {a0 : Nat} {fs fs1 : List Value} {x : Int32} (hd : decode cc pc = .ok (.putfield 22, 3)) (hh : h a0 = some (ob 3 fs)) (kk : pV p l e R s m args below meth c nL E A Q z (pset h a0 (ob 3 fs1)) k n (pc + 3) L st) (hl : 3 < fs.length := by exact Nat.le_of_ble_eq_true rfl) (hfs : fs.set 3 (.int x) = fs1 := by rfl) : pV p l e R s m args below meth c nL E A Q z h k n pc L (.int x :: .ref a0 :: st) := by
  subst hfs
  exact v_put (T := TX3) (ci := 3) (kf := 3) X hd inU3 tyX3 tyX3_ok nmX3 rfl (by decide) wf_X3_22 rfl (ty := .int) (by decide +kernel) rfl rfl hh hl kk
theorem wf_X3_25 : Cond.fieldLink RX3 25 (TX3 4).1 (TX3 4).2.1 (TX3 4).2.2.1 ∈ uw := uw_in (i := 177) (by decide +kernel) (by decide +kernel)
theorem g_X3_25 (X : pCx p s m args c cc nL RX3 E A) {a0 : Nat} {fs : List Value} {v : Value} (hd : decode cc pc = .ok (.getfield 25, 3)) (hh : h a0 = some (ob 3 fs)) (kk : pV p l e R s m args below meth c nL E A Q z h k n (pc + 3) L (v :: st)) (hv : fs[4]? = some v := by rfl) : pV p l e R s m args below meth c nL E A Q z h k n pc L (.ref a0 :: st) := v_get (T := TX3) (ci := 3) (kf := 4) X hd inU3 rfl (by decide) wf_X3_25 hh hv kk
theorem p_X3_25 (X : pCx p s m args c cc nL RX3 E A) {a0 x : Nat} {fs fs1 : List Value} (hd : decode cc pc = .ok (.putfield 25, 3)) (hh : h a0 = some (ob 3 fs)) (hin2 : meth.name = "<init>") (kk : pV p l e R s m args below meth c nL E A Q z (pset h a0 (ob 3 fs1)) k n (pc + 3) L st) (hl : 4 < fs.length := by exact Nat.le_of_ble_eq_true rfl) (hfs : fs.set 4 (.ref x) = fs1 := by rfl) : pV p l e R s m args below meth c nL E A Q z h k n pc L (.ref x :: .ref a0 :: st) := by
  subst hfs
  exact v_putF (T := TX3) (ci := 3) (kf := 4) X hd inU3 tyX3 tyX3_ok nmX3 rfl (by decide) wf_X3_25 rfl hin2 rfl (ty := .array (.int)) (by decide +kernel) rfl rfl hh hl kk
theorem wf_X6_10 : Cond.fieldLink RX6 10 (TX6 0).1 (TX6 0).2.1 (TX6 0).2.2.1 ∈ uw := uw_in (i := 190) (by decide +kernel) (by decide +kernel)
theorem g_X6_10 (X : pCx p s m args c cc nL RX6 E A) {a0 : Nat} {fs : List Value} {v : Value} (hd : decode cc pc = .ok (.getfield 10, 3)) (hh : h a0 = some (ob 6 fs)) (kk : pV p l e R s m args below meth c nL E A Q z h k n (pc + 3) L (v :: st)) (hv : fs[0]? = some v := by rfl) : pV p l e R s m args below meth c nL E A Q z h k n pc L (.ref a0 :: st) := v_get (T := TX6) (ci := 6) (kf := 0) X hd inU6 rfl (by decide) wf_X6_10 hh hv kk
theorem p_X6_10 (X : pCx p s m args c cc nL RX6 E A) {a0 x : Nat} {fs fs1 : List Value} (hd : decode cc pc = .ok (.putfield 10, 3)) (hh : h a0 = some (ob 6 fs)) (kk : pV p l e R s m args below meth c nL E A Q z (pset h a0 (ob 6 fs1)) k n (pc + 3) L st) (hl : 0 < fs.length := by exact Nat.le_of_ble_eq_true rfl) (hfs : fs.set 0 (.ref x) = fs1 := by rfl) : pV p l e R s m args below meth c nL E A Q z h k n pc L (.ref x :: .ref a0 :: st) := by
  subst hfs
  exact v_put (T := TX6) (ci := 6) (kf := 0) X hd inU6 tyX6 tyX6_ok nmX6 rfl (by decide) wf_X6_10 rfl (ty := .object "PeatShares$State") (by decide +kernel) rfl rfl hh hl kk
theorem wf_X6_16 : Cond.fieldLink RX6 16 (TX6 1).1 (TX6 1).2.1 (TX6 1).2.2.1 ∈ uw := uw_in (i := 191) (by decide +kernel) (by decide +kernel)
theorem g_X6_16 (X : pCx p s m args c cc nL RX6 E A) {a0 : Nat} {fs : List Value} {v : Value} (hd : decode cc pc = .ok (.getfield 16, 3)) (hh : h a0 = some (ob 6 fs)) (kk : pV p l e R s m args below meth c nL E A Q z h k n (pc + 3) L (v :: st)) (hv : fs[1]? = some v := by rfl) : pV p l e R s m args below meth c nL E A Q z h k n pc L (.ref a0 :: st) := v_get (T := TX6) (ci := 6) (kf := 1) X hd inU6 rfl (by decide) wf_X6_16 hh hv kk
theorem p_X6_16 (X : pCx p s m args c cc nL RX6 E A) {a0 x : Nat} {fs fs1 : List Value} (hd : decode cc pc = .ok (.putfield 16, 3)) (hh : h a0 = some (ob 6 fs)) (kk : pV p l e R s m args below meth c nL E A Q z (pset h a0 (ob 6 fs1)) k n (pc + 3) L st) (hl : 1 < fs.length := by exact Nat.le_of_ble_eq_true rfl) (hfs : fs.set 1 (.ref x) = fs1 := by rfl) : pV p l e R s m args below meth c nL E A Q z h k n pc L (.ref x :: .ref a0 :: st) := by
  subst hfs
  exact v_put (T := TX6) (ci := 6) (kf := 1) X hd inU6 tyX6 tyX6_ok nmX6 rfl (by decide) wf_X6_16 rfl (ty := .object "PeatShares$State") (by decide +kernel) rfl rfl hh hl kk
theorem wf_X6_19 : Cond.fieldLink RX6 19 (TX6 2).1 (TX6 2).2.1 (TX6 2).2.2.1 ∈ uw := uw_in (i := 192) (by decide +kernel) (by decide +kernel)
theorem g_X6_19 (X : pCx p s m args c cc nL RX6 E A) {a0 : Nat} {fs : List Value} {v : Value} (hd : decode cc pc = .ok (.getfield 19, 3)) (hh : h a0 = some (ob 6 fs)) (kk : pV p l e R s m args below meth c nL E A Q z h k n (pc + 3) L (v :: st)) (hv : fs[2]? = some v := by rfl) : pV p l e R s m args below meth c nL E A Q z h k n pc L (.ref a0 :: st) := v_get (T := TX6) (ci := 6) (kf := 2) X hd inU6 rfl (by decide) wf_X6_19 hh hv kk
theorem p_X6_19 (X : pCx p s m args c cc nL RX6 E A) {a0 x : Nat} {fs fs1 : List Value} (hd : decode cc pc = .ok (.putfield 19, 3)) (hh : h a0 = some (ob 6 fs)) (hin2 : meth.name = "<init>") (kk : pV p l e R s m args below meth c nL E A Q z (pset h a0 (ob 6 fs1)) k n (pc + 3) L st) (hl : 2 < fs.length := by exact Nat.le_of_ble_eq_true rfl) (hfs : fs.set 2 (.ref x) = fs1 := by rfl) : pV p l e R s m args below meth c nL E A Q z h k n pc L (.ref x :: .ref a0 :: st) := by
  subst hfs
  exact v_putF (T := TX6) (ci := 6) (kf := 2) X hd inU6 tyX6 tyX6_ok nmX6 rfl (by decide) wf_X6_19 rfl hin2 rfl (ty := .array (.object "PeatShares$State")) (by decide +kernel) rfl rfl hh hl kk
theorem wf_X6_23 : Cond.fieldLink RX6 23 (TX6 3).1 (TX6 3).2.1 (TX6 3).2.2.1 ∈ uw := uw_in (i := 193) (by decide +kernel) (by decide +kernel)
theorem g_X6_23 (X : pCx p s m args c cc nL RX6 E A) {a0 : Nat} {fs : List Value} {v : Value} (hd : decode cc pc = .ok (.getfield 23, 3)) (hh : h a0 = some (ob 6 fs)) (kk : pV p l e R s m args below meth c nL E A Q z h k n (pc + 3) L (v :: st)) (hv : fs[3]? = some v := by rfl) : pV p l e R s m args below meth c nL E A Q z h k n pc L (.ref a0 :: st) := v_get (T := TX6) (ci := 6) (kf := 3) X hd inU6 rfl (by decide) wf_X6_23 hh hv kk
theorem p_X6_23 (X : pCx p s m args c cc nL RX6 E A) {a0 : Nat} {fs fs1 : List Value} {x : Int32} (hd : decode cc pc = .ok (.putfield 23, 3)) (hh : h a0 = some (ob 6 fs)) (kk : pV p l e R s m args below meth c nL E A Q z (pset h a0 (ob 6 fs1)) k n (pc + 3) L st) (hl : 3 < fs.length := by exact Nat.le_of_ble_eq_true rfl) (hfs : fs.set 3 (.int x) = fs1 := by rfl) : pV p l e R s m args below meth c nL E A Q z h k n pc L (.int x :: .ref a0 :: st) := by
  subst hfs
  exact v_put (T := TX6) (ci := 6) (kf := 3) X hd inU6 tyX6 tyX6_ok nmX6 rfl (by decide) wf_X6_23 rfl (ty := .int) (by decide +kernel) rfl rfl hh hl kk
theorem wf_X6_30 : Cond.fieldLink RX6 30 (TX6 4).1 (TX6 4).2.1 (TX6 4).2.2.1 ∈ uw := uw_in (i := 194) (by decide +kernel) (by decide +kernel)
theorem g_X6_30 (X : pCx p s m args c cc nL RX6 E A) {a0 : Nat} {fs : List Value} {v : Value} (hd : decode cc pc = .ok (.getfield 30, 3)) (hh : h a0 = some (ob 6 fs)) (kk : pV p l e R s m args below meth c nL E A Q z h k n (pc + 3) L (v :: st)) (hv : fs[4]? = some v := by rfl) : pV p l e R s m args below meth c nL E A Q z h k n pc L (.ref a0 :: st) := v_get (T := TX6) (ci := 6) (kf := 4) X hd inU6 rfl (by decide) wf_X6_30 hh hv kk
theorem p_X6_30 (X : pCx p s m args c cc nL RX6 E A) {a0 x : Nat} {fs fs1 : List Value} (hd : decode cc pc = .ok (.putfield 30, 3)) (hh : h a0 = some (ob 6 fs)) (hin2 : meth.name = "<init>") (kk : pV p l e R s m args below meth c nL E A Q z (pset h a0 (ob 6 fs1)) k n (pc + 3) L st) (hl : 4 < fs.length := by exact Nat.le_of_ble_eq_true rfl) (hfs : fs.set 4 (.ref x) = fs1 := by rfl) : pV p l e R s m args below meth c nL E A Q z h k n pc L (.ref x :: .ref a0 :: st) := by
  subst hfs
  exact v_putF (T := TX6) (ci := 6) (kf := 4) X hd inU6 tyX6 tyX6_ok nmX6 rfl (by decide) wf_X6_30 rfl hin2 rfl (ty := .object "PeatShares$Program") (by decide +kernel) rfl rfl hh hl kk
end PVF
