theorem wi_L : Cond.initialized RL ∈ uw := uw_in (i := 0) (by decide +kernel) (by decide +kernel)
theorem wi_X6 : Cond.initialized RX6 ∈ uw := uw_in (i := 1) (by decide +kernel) (by decide +kernel)
theorem wi_X4 : Cond.initialized RX4 ∈ uw := uw_in (i := 2) (by decide +kernel) (by decide +kernel)
theorem wi_X2 : Cond.initialized RX2 ∈ uw := uw_in (i := 3) (by decide +kernel) (by decide +kernel)
theorem wi_X1 : Cond.initialized RX1 ∈ uw := uw_in (i := 4) (by decide +kernel) (by decide +kernel)
theorem wi_X0 : Cond.initialized RX0 ∈ uw := uw_in (i := 5) (by decide +kernel) (by decide +kernel)
theorem wi_X5 : Cond.initialized RX5 ∈ uw := uw_in (i := 6) (by decide +kernel) (by decide +kernel)
theorem wi_X3 : Cond.initialized RX3 ∈ uw := uw_in (i := 7) (by decide +kernel) (by decide +kernel)
theorem wi_X7 : Cond.initialized RX7 ∈ uw := uw_in (i := 8) (by decide +kernel) (by decide +kernel)
theorem wi_Math : Cond.initialized "java/lang/Math" ∈ uw := uw_in (i := 9) (by decide +kernel) (by decide +kernel)
theorem wi_J0 : Cond.initialized RJ0 ∈ uw := uw_in (i := 10) (by decide +kernel) (by decide +kernel)
theorem wi_J1 : Cond.initialized RJ1 ∈ uw := uw_in (i := 11) (by decide +kernel) (by decide +kernel)
theorem wi_J3 : Cond.initialized RJ3 ∈ uw := uw_in (i := 12) (by decide +kernel) (by decide +kernel)
theorem wi_J2 : Cond.initialized RJ2 ∈ uw := uw_in (i := 13) (by decide +kernel) (by decide +kernel)
theorem wc_X6_init : Cond.code yX6_init cX6_init 2 none ∈ uw := uw_in (i := 18) (by decide +kernel) (by decide +kernel)
theorem wc_objectInit : Cond.code objectInit ⟨#[0xb1]⟩ 1 none ∈ uw := uw_in (i := 21) (by decide +kernel) (by decide +kernel)
theorem wc_X4_init : Cond.code yX4_init cX4_init 2 none ∈ uw := uw_in (i := 26) (by decide +kernel) (by decide +kernel)
theorem wc_X2_init : Cond.code yX2_init cX2_init 2 none ∈ uw := uw_in (i := 32) (by decide +kernel) (by decide +kernel)
theorem wc_X1_init : Cond.code yX1_init cX1_init 1 none ∈ uw := uw_in (i := 43) (by decide +kernel) (by decide +kernel)
theorem wc_X0_init : Cond.code yX0_init cX0_init 1 none ∈ uw := uw_in (i := 61) (by decide +kernel) (by decide +kernel)
theorem wc_X5_init : Cond.code yX5_init cX5_init 1 none ∈ uw := uw_in (i := 101) (by decide +kernel) (by decide +kernel)
theorem wc_X3_init : Cond.code yX3_init cX3_init 1 none ∈ uw := uw_in (i := 176) (by decide +kernel) (by decide +kernel)
theorem wc_X6_come : Cond.code yX6_come cX6_come 2 (some .int) ∈ uw := uw_in (i := 215) (by decide +kernel) (by decide +kernel)
theorem wc_X4_copyFrom : Cond.code yX4_copyFrom cX4_copyFrom 3 none ∈ uw := uw_in (i := 219) (by decide +kernel) (by decide +kernel)
theorem wc_X2_copyFrom : Cond.code yX2_copyFrom cX2_copyFrom 3 none ∈ uw := uw_in (i := 223) (by decide +kernel) (by decide +kernel)
theorem wc_X1_copyFrom : Cond.code yX1_copyFrom cX1_copyFrom 2 none ∈ uw := uw_in (i := 227) (by decide +kernel) (by decide +kernel)
theorem wc_X0_copyFrom : Cond.code yX0_copyFrom cX0_copyFrom 3 none ∈ uw := uw_in (i := 231) (by decide +kernel) (by decide +kernel)
theorem wc_X5_copyFrom : Cond.code yX5_copyFrom cX5_copyFrom 2 none ∈ uw := uw_in (i := 235) (by decide +kernel) (by decide +kernel)
theorem wc_X2_addHousehold : Cond.code yX2_addHousehold cX2_addHousehold 2 (some .int) ∈ uw := uw_in (i := 239) (by decide +kernel) (by decide +kernel)
theorem wc_X6_isWithin : Cond.code yX6_isWithin cX6_isWithin 3 (some .boolean) ∈ uw := uw_in (i := 242) (by decide +kernel) (by decide +kernel)
theorem wc_X6_recorded : Cond.code yX6_recorded cX6_recorded 3 (some .int) ∈ uw := uw_in (i := 246) (by decide +kernel) (by decide +kernel)
theorem wc_X6_dropOldestState : Cond.code yX6_dropOldestState cX6_dropOldestState 3 none ∈ uw := uw_in (i := 250) (by decide +kernel) (by decide +kernel)
theorem wc_X6_setSpades : Cond.code yX6_setSpades cX6_setSpades 3 (some .int) ∈ uw := uw_in (i := 254) (by decide +kernel) (by decide +kernel)
theorem wc_X2_changeSpades : Cond.code yX2_changeSpades cX2_changeSpades 4 (some .int) ∈ uw := uw_in (i := 258) (by decide +kernel) (by decide +kernel)
theorem wc_X2_hasHousehold : Cond.code yX2_hasHousehold cX2_hasHousehold 2 (some .boolean) ∈ uw := uw_in (i := 262) (by decide +kernel) (by decide +kernel)
theorem wc_X6_addBank : Cond.code yX6_addBank cX6_addBank 3 (some .int) ∈ uw := uw_in (i := 266) (by decide +kernel) (by decide +kernel)
theorem wc_X2_openBank : Cond.code yX2_openBank cX2_openBank 3 (some .int) ∈ uw := uw_in (i := 270) (by decide +kernel) (by decide +kernel)
theorem wc_X6_setAllowance : Cond.code yX6_setAllowance cX6_setAllowance 3 (some .int) ∈ uw := uw_in (i := 274) (by decide +kernel) (by decide +kernel)
theorem wc_X2_changeAllowance : Cond.code yX2_changeAllowance cX2_changeAllowance 4 (some .int) ∈ uw := uw_in (i := 278) (by decide +kernel) (by decide +kernel)
theorem wc_X2_hasBank : Cond.code yX2_hasBank cX2_hasBank 2 (some .boolean) ∈ uw := uw_in (i := 282) (by decide +kernel) (by decide +kernel)
theorem wc_X6_grant : Cond.code yX6_grant cX6_grant 4 (some .int) ∈ uw := uw_in (i := 286) (by decide +kernel) (by decide +kernel)
theorem wc_X2_changeRight : Cond.code yX2_changeRight cX2_changeRight 4 (some .int) ∈ uw := uw_in (i := 290) (by decide +kernel) (by decide +kernel)
theorem wc_X0_holders : Cond.code yX0_holders cX0_holders 3 (some .int) ∈ uw := uw_in (i := 294) (by decide +kernel) (by decide +kernel)
theorem wc_X6_cut : Cond.code yX6_cut cX6_cut 4 (some .int) ∈ uw := uw_in (i := 298) (by decide +kernel) (by decide +kernel)
theorem wc_X2_cutTurfs : Cond.code yX2_cutTurfs cX2_cutTurfs 6 (some .int) ∈ uw := uw_in (i := 302) (by decide +kernel) (by decide +kernel)
theorem wc_X2_shareOf : Cond.code yX2_shareOf cX2_shareOf 7 (some .int) ∈ uw := uw_in (i := 306) (by decide +kernel) (by decide +kernel)
theorem wc_X2_spadesAt : Cond.code yX2_spadesAt cX2_spadesAt 4 (some .int) ∈ uw := uw_in (i := 310) (by decide +kernel) (by decide +kernel)
theorem wc_X6_turn : Cond.code yX6_turn cX6_turn 2 (some .int) ∈ uw := uw_in (i := 315) (by decide +kernel) (by decide +kernel)
theorem wc_X2_turnStack : Cond.code yX2_turnStack cX2_turnStack 3 (some .int) ∈ uw := uw_in (i := 319) (by decide +kernel) (by decide +kernel)
theorem wc_X2_hasStack : Cond.code yX2_hasStack cX2_hasStack 2 (some .boolean) ∈ uw := uw_in (i := 323) (by decide +kernel) (by decide +kernel)
theorem wc_X6_join : Cond.code yX6_join cX6_join 3 (some .int) ∈ uw := uw_in (i := 327) (by decide +kernel) (by decide +kernel)
theorem wc_X2_joinStacks : Cond.code yX2_joinStacks cX2_joinStacks 5 (some .int) ∈ uw := uw_in (i := 331) (by decide +kernel) (by decide +kernel)
theorem wc_X5_takeAllOf : Cond.code yX5_takeAllOf cX5_takeAllOf 5 none ∈ uw := uw_in (i := 335) (by decide +kernel) (by decide +kernel)
theorem wc_min : Cond.code Lib.Math.min.name Lib.Math.min.code 2 (some .int) ∈ uw := uw_in (i := 338) (by decide +kernel) (by decide +kernel)
theorem wc_X2_removeStack : Cond.code yX2_removeStack cX2_removeStack 4 none ∈ uw := uw_in (i := 342) (by decide +kernel) (by decide +kernel)
theorem wc_X6_cart : Cond.code yX6_cart cX6_cart 3 (some .int) ∈ uw := uw_in (i := 346) (by decide +kernel) (by decide +kernel)
theorem wc_X2_cartTurfs : Cond.code yX2_cartTurfs cX2_cartTurfs 7 (some .int) ∈ uw := uw_in (i := 350) (by decide +kernel) (by decide +kernel)
theorem wc_X5_loadOf : Cond.code yX5_loadOf cX5_loadOf 2 (some .int) ∈ uw := uw_in (i := 354) (by decide +kernel) (by decide +kernel)
theorem wc_X5_turfWeight : Cond.code yX5_turfWeight cX5_turfWeight 1 (some .int) ∈ uw := uw_in (i := 358) (by decide +kernel) (by decide +kernel)
theorem wc_X2_bearingToday : Cond.code yX2_bearingToday cX2_bearingToday 2 (some .int) ∈ uw := uw_in (i := 362) (by decide +kernel) (by decide +kernel)
theorem wc_X0_bearing : Cond.code yX0_bearing cX0_bearing 3 (some .int) ∈ uw := uw_in (i := 366) (by decide +kernel) (by decide +kernel)
theorem wc_max : Cond.code Lib.Math.max.name Lib.Math.max.code 2 (some .int) ∈ uw := uw_in (i := 369) (by decide +kernel) (by decide +kernel)
theorem wc_X5_isDry : Cond.code yX5_isDry cX5_isDry 1 (some .boolean) ∈ uw := uw_in (i := 373) (by decide +kernel) (by decide +kernel)
theorem wc_X0_wearBy : Cond.code yX0_wearBy cX0_wearBy 1 (some .int) ∈ uw := uw_in (i := 376) (by decide +kernel) (by decide +kernel)
theorem wc_X6_repair : Cond.code yX6_repair cX6_repair 2 (some .int) ∈ uw := uw_in (i := 380) (by decide +kernel) (by decide +kernel)
theorem wc_X2_repairRoad : Cond.code yX2_repairRoad cX2_repairRoad 3 (some .int) ∈ uw := uw_in (i := 384) (by decide +kernel) (by decide +kernel)
theorem wc_X6_day : Cond.code yX6_day cX6_day 3 (some .int) ∈ uw := uw_in (i := 388) (by decide +kernel) (by decide +kernel)
theorem wc_X2_passDay : Cond.code yX2_passDay cX2_passDay 5 (some .int) ∈ uw := uw_in (i := 392) (by decide +kernel) (by decide +kernel)
theorem wc_X5_wetnessAfterDay : Cond.code yX5_wetnessAfterDay cX5_wetnessAfterDay 6 (some .int) ∈ uw := uw_in (i := 396) (by decide +kernel) (by decide +kernel)
theorem wc_X2_dryStacks : Cond.code yX2_dryStacks cX2_dryStacks 3 (some .int) ∈ uw := uw_in (i := 402) (by decide +kernel) (by decide +kernel)
theorem wc_X6_endYear : Cond.code yX6_endYear cX6_endYear 1 (some .int) ∈ uw := uw_in (i := 406) (by decide +kernel) (by decide +kernel)
theorem wc_X2_closeYear : Cond.code yX2_closeYear cX2_closeYear 3 (some .int) ∈ uw := uw_in (i := 410) (by decide +kernel) (by decide +kernel)
theorem wc_X0_forgetYear : Cond.code yX0_forgetYear cX0_forgetYear 2 none ∈ uw := uw_in (i := 414) (by decide +kernel) (by decide +kernel)
theorem wc_X6_take : Cond.code yX6_take cX6_take 2 (some .int) ∈ uw := uw_in (i := 418) (by decide +kernel) (by decide +kernel)
theorem wc_X4_takeSnapshot : Cond.code yX4_takeSnapshot cX4_takeSnapshot 2 (some .int) ∈ uw := uw_in (i := 422) (by decide +kernel) (by decide +kernel)
theorem wc_X6_restore : Cond.code yX6_restore cX6_restore 2 (some .int) ∈ uw := uw_in (i := 427) (by decide +kernel) (by decide +kernel)
theorem wc_X4_restoreSnapshot : Cond.code yX4_restoreSnapshot cX4_restoreSnapshot 2 (some .int) ∈ uw := uw_in (i := 431) (by decide +kernel) (by decide +kernel)
theorem wc_X6_undo : Cond.code yX6_undo cX6_undo 2 (some .int) ∈ uw := uw_in (i := 435) (by decide +kernel) (by decide +kernel)
theorem wc_X6_append : Cond.code yX6_append cX6_append 2 (some .int) ∈ uw := uw_in (i := 439) (by decide +kernel) (by decide +kernel)
theorem wc_X3_addCharacter : Cond.code yX3_addCharacter cX3_addCharacter 2 (some .int) ∈ uw := uw_in (i := 443) (by decide +kernel) (by decide +kernel)
theorem wc_X6_clearText : Cond.code yX6_clearText cX6_clearText 1 (some .int) ∈ uw := uw_in (i := 448) (by decide +kernel) (by decide +kernel)
theorem wc_X3_clearCharacters : Cond.code yX3_clearCharacters cX3_clearCharacters 2 (some .int) ∈ uw := uw_in (i := 452) (by decide +kernel) (by decide +kernel)
theorem wc_X6_run : Cond.code yX6_run cX6_run 2 (some .int) ∈ uw := uw_in (i := 456) (by decide +kernel) (by decide +kernel)
theorem wc_X3_runOn : Cond.code yX3_runOn cX3_runOn 4 (some .int) ∈ uw := uw_in (i := 460) (by decide +kernel) (by decide +kernel)
theorem wc_X3_readToken : Cond.code yX3_readToken cX3_readToken 2 none ∈ uw := uw_in (i := 464) (by decide +kernel) (by decide +kernel)
theorem wc_X3_kindOf : Cond.code yX3_kindOf cX3_kindOf 1 (some .int) ∈ uw := uw_in (i := 467) (by decide +kernel) (by decide +kernel)
theorem wc_X3_runCommand : Cond.code yX3_runCommand cX3_runCommand 6 (some .int) ∈ uw := uw_in (i := 471) (by decide +kernel) (by decide +kernel)
theorem wc_X3_commandOfToken : Cond.code yX3_commandOfToken cX3_commandOfToken 1 (some .int) ∈ uw := uw_in (i := 475) (by decide +kernel) (by decide +kernel)
theorem wc_X3_isToken : Cond.code yX3_isToken cX3_isToken 3 (some .boolean) ∈ uw := uw_in (i := 480) (by decide +kernel) (by decide +kernel)
theorem wc_J0_length_8abf5 : Cond.code yJ0_length_8abf5 cJ0_length_8abf5 1 (some .int) ∈ uw := uw_in (i := 484) (by decide +kernel) (by decide +kernel)
theorem wc_J0_coder_7d493 : Cond.code yJ0_coder_7d493 cJ0_coder_7d493 1 (some .byte) ∈ uw := uw_in (i := 488) (by decide +kernel) (by decide +kernel)
theorem wc_J0_charAt_5068e : Cond.code yJ0_charAt_5068e cJ0_charAt_5068e 2 (some .char) ∈ uw := uw_in (i := 494) (by decide +kernel) (by decide +kernel)
theorem wc_J0_isLatin1_aae02 : Cond.code yJ0_isLatin1_aae02 cJ0_isLatin1_aae02 1 (some .boolean) ∈ uw := uw_in (i := 498) (by decide +kernel) (by decide +kernel)
theorem wc_J1_charAt_3b067 : Cond.code yJ1_charAt_3b067 cJ1_charAt_3b067 2 (some .char) ∈ uw := uw_in (i := 501) (by decide +kernel) (by decide +kernel)
theorem wc_J0_checkIndex_df160 : Cond.code yJ0_checkIndex_df160 cJ0_checkIndex_df160 2 none ∈ uw := uw_in (i := 504) (by decide +kernel) (by decide +kernel)
theorem wc_J3_checkIndex_8e157 : Cond.code yJ3_checkIndex_8e157 cJ3_checkIndex_8e157 3 (some .int) ∈ uw := uw_in (i := 509) (by decide +kernel) (by decide +kernel)
theorem wc_J2_charAt_3b067 : Cond.code yJ2_charAt_3b067 cJ2_charAt_3b067 2 (some .char) ∈ uw := uw_in (i := 512) (by decide +kernel) (by decide +kernel)
theorem wc_J2_checkIndex_2214a : Cond.code yJ2_checkIndex_2214a cJ2_checkIndex_2214a 2 none ∈ uw := uw_in (i := 515) (by decide +kernel) (by decide +kernel)
theorem wc_J2_length_9d52b : Cond.code yJ2_length_9d52b cJ2_length_9d52b 1 (some .int) ∈ uw := uw_in (i := 518) (by decide +kernel) (by decide +kernel)
theorem wc_J2_getChar_3b067 : Cond.code yJ2_getChar_3b067 cJ2_getChar_3b067 2 (some .char) ∈ uw := uw_in (i := 522) (by decide +kernel) (by decide +kernel)
theorem wc_X3_numbersOf : Cond.code yX3_numbersOf cX3_numbersOf 1 (some .int) ∈ uw := uw_in (i := 537) (by decide +kernel) (by decide +kernel)
theorem wc_X3_isNumber : Cond.code yX3_isNumber cX3_isNumber 2 (some .boolean) ∈ uw := uw_in (i := 541) (by decide +kernel) (by decide +kernel)
theorem wc_X3_valueOfToken : Cond.code yX3_valueOfToken cX3_valueOfToken 3 (some .int) ∈ uw := uw_in (i := 545) (by decide +kernel) (by decide +kernel)
theorem wc_X3_perform : Cond.code yX3_perform cX3_perform 3 (some .int) ∈ uw := uw_in (i := 550) (by decide +kernel) (by decide +kernel)
theorem wc_X6_count : Cond.code yX6_count cX6_count 2 (some .int) ∈ uw := uw_in (i := 562) (by decide +kernel) (by decide +kernel)
theorem wc_X4_snapshots : Cond.code yX4_snapshots cX4_snapshots 3 (some .int) ∈ uw := uw_in (i := 567) (by decide +kernel) (by decide +kernel)
theorem wc_X6_household : Cond.code yX6_household cX6_household 3 (some .int) ∈ uw := uw_in (i := 571) (by decide +kernel) (by decide +kernel)
theorem wc_X2_householdProperty : Cond.code yX2_householdProperty cX2_householdProperty 3 (some .int) ∈ uw := uw_in (i := 575) (by decide +kernel) (by decide +kernel)
theorem wc_X2_rightsOf : Cond.code yX2_rightsOf cX2_rightsOf 4 (some .int) ∈ uw := uw_in (i := 579) (by decide +kernel) (by decide +kernel)
theorem wc_X2_stacksOf : Cond.code yX2_stacksOf cX2_stacksOf 4 (some .int) ∈ uw := uw_in (i := 583) (by decide +kernel) (by decide +kernel)
theorem wc_X2_turfsInStacksOf : Cond.code yX2_turfsInStacksOf cX2_turfsInStacksOf 4 (some .int) ∈ uw := uw_in (i := 587) (by decide +kernel) (by decide +kernel)
theorem wc_X6_bank : Cond.code yX6_bank cX6_bank 3 (some .int) ∈ uw := uw_in (i := 591) (by decide +kernel) (by decide +kernel)
theorem wc_X2_bankProperty : Cond.code yX2_bankProperty cX2_bankProperty 4 (some .int) ∈ uw := uw_in (i := 595) (by decide +kernel) (by decide +kernel)
theorem wc_X0_holdersAsBits : Cond.code yX0_holdersAsBits cX0_holdersAsBits 3 (some .int) ∈ uw := uw_in (i := 599) (by decide +kernel) (by decide +kernel)
theorem wc_X2_turfsInStacksAt : Cond.code yX2_turfsInStacksAt cX2_turfsInStacksAt 4 (some .int) ∈ uw := uw_in (i := 603) (by decide +kernel) (by decide +kernel)
theorem wc_X6_right : Cond.code yX6_right cX6_right 4 (some .int) ∈ uw := uw_in (i := 607) (by decide +kernel) (by decide +kernel)
theorem wc_X2_rightPart : Cond.code yX2_rightPart cX2_rightPart 4 (some .int) ∈ uw := uw_in (i := 611) (by decide +kernel) (by decide +kernel)
theorem wc_X2_stillToCut : Cond.code yX2_stillToCut cX2_stillToCut 3 (some .int) ∈ uw := uw_in (i := 615) (by decide +kernel) (by decide +kernel)
theorem wc_X6_stack : Cond.code yX6_stack cX6_stack 3 (some .int) ∈ uw := uw_in (i := 620) (by decide +kernel) (by decide +kernel)
theorem wc_X2_stackProperty : Cond.code yX2_stackProperty cX2_stackProperty 4 (some .int) ∈ uw := uw_in (i := 624) (by decide +kernel) (by decide +kernel)
theorem wc_X6_dryIn : Cond.code yX6_dryIn cX6_dryIn 4 (some .int) ∈ uw := uw_in (i := 629) (by decide +kernel) (by decide +kernel)
theorem wc_X2_daysUntilDry : Cond.code yX2_daysUntilDry cX2_daysUntilDry 7 (some .int) ∈ uw := uw_in (i := 633) (by decide +kernel) (by decide +kernel)
theorem wc_X6_cartLoad : Cond.code yX6_cartLoad cX6_cartLoad 2 (some .int) ∈ uw := uw_in (i := 637) (by decide +kernel) (by decide +kernel)
theorem wc_X2_greatestCartOf : Cond.code yX2_greatestCartOf cX2_greatestCartOf 4 (some .int) ∈ uw := uw_in (i := 641) (by decide +kernel) (by decide +kernel)
theorem wc_X5_greatestCart : Cond.code yX5_greatestCart cX5_greatestCart 5 (some .int) ∈ uw := uw_in (i := 645) (by decide +kernel) (by decide +kernel)
theorem wc_X6_carts : Cond.code yX6_carts cX6_carts 2 (some .int) ∈ uw := uw_in (i := 649) (by decide +kernel) (by decide +kernel)
theorem wc_X2_cartsNeeded : Cond.code yX2_cartsNeeded cX2_cartsNeeded 8 (some .int) ∈ uw := uw_in (i := 653) (by decide +kernel) (by decide +kernel)
theorem wc_X6_worth : Cond.code yX6_worth cX6_worth 3 (some .int) ∈ uw := uw_in (i := 657) (by decide +kernel) (by decide +kernel)
theorem wc_X2_worthOfShed : Cond.code yX2_worthOfShed cX2_worthOfShed 5 (some .int) ∈ uw := uw_in (i := 661) (by decide +kernel) (by decide +kernel)
theorem wc_X6_nextToCut : Cond.code yX6_nextToCut cX6_nextToCut 2 (some .int) ∈ uw := uw_in (i := 667) (by decide +kernel) (by decide +kernel)
theorem wc_X2_mostToCut : Cond.code yX2_mostToCut cX2_mostToCut 6 (some .int) ∈ uw := uw_in (i := 671) (by decide +kernel) (by decide +kernel)
theorem wc_X7_init : Cond.code yX7_init cX7_init 1 none ∈ uw := uw_in (i := 676) (by decide +kernel) (by decide +kernel)
theorem wc_X7_come : Cond.code yX7_come cX7_come 4 (some .int) ∈ uw := uw_in (i := 718) (by decide +kernel) (by decide +kernel)
theorem wc_X7_in : Cond.code yX7_in cX7_in 3 (some .boolean) ∈ uw := uw_in (i := 721) (by decide +kernel) (by decide +kernel)
theorem wc_X7_acts : Cond.code yX7_acts cX7_acts 2 none ∈ uw := uw_in (i := 725) (by decide +kernel) (by decide +kernel)
theorem wc_X7_setSpades : Cond.code yX7_setSpades cX7_setSpades 4 (some .int) ∈ uw := uw_in (i := 729) (by decide +kernel) (by decide +kernel)
theorem wc_X7_isHouse : Cond.code yX7_isHouse cX7_isHouse 2 (some .boolean) ∈ uw := uw_in (i := 733) (by decide +kernel) (by decide +kernel)
theorem wc_X7_inHouse : Cond.code yX7_inHouse cX7_inHouse 3 (some .int) ∈ uw := uw_in (i := 737) (by decide +kernel) (by decide +kernel)
theorem wc_X7_addBank : Cond.code yX7_addBank cX7_addBank 5 (some .int) ∈ uw := uw_in (i := 741) (by decide +kernel) (by decide +kernel)
theorem wc_X7_setAllowance : Cond.code yX7_setAllowance cX7_setAllowance 4 (some .int) ∈ uw := uw_in (i := 745) (by decide +kernel) (by decide +kernel)
theorem wc_X7_isBank : Cond.code yX7_isBank cX7_isBank 2 (some .boolean) ∈ uw := uw_in (i := 749) (by decide +kernel) (by decide +kernel)
theorem wc_X7_inBank : Cond.code yX7_inBank cX7_inBank 3 (some .int) ∈ uw := uw_in (i := 753) (by decide +kernel) (by decide +kernel)
theorem wc_X7_grant : Cond.code yX7_grant cX7_grant 5 (some .int) ∈ uw := uw_in (i := 757) (by decide +kernel) (by decide +kernel)
theorem wc_X7_ones : Cond.code yX7_ones cX7_ones 3 (some .int) ∈ uw := uw_in (i := 760) (by decide +kernel) (by decide +kernel)
theorem wc_X7_cut : Cond.code yX7_cut cX7_cut 5 (some .int) ∈ uw := uw_in (i := 764) (by decide +kernel) (by decide +kernel)
theorem wc_X7_mayCut : Cond.code yX7_mayCut cX7_mayCut 4 (some .int) ∈ uw := uw_in (i := 768) (by decide +kernel) (by decide +kernel)
theorem wc_X7_shareOf : Cond.code yX7_shareOf cX7_shareOf 7 (some .int) ∈ uw := uw_in (i := 772) (by decide +kernel) (by decide +kernel)
theorem wc_X7_spadesOf : Cond.code yX7_spadesOf cX7_spadesOf 4 (some .int) ∈ uw := uw_in (i := 776) (by decide +kernel) (by decide +kernel)
theorem wc_X7_hasRight : Cond.code yX7_hasRight cX7_hasRight 3 (some .boolean) ∈ uw := uw_in (i := 780) (by decide +kernel) (by decide +kernel)
theorem wc_X7_turn : Cond.code yX7_turn cX7_turn 2 (some .int) ∈ uw := uw_in (i := 785) (by decide +kernel) (by decide +kernel)
theorem wc_X7_isStack : Cond.code yX7_isStack cX7_isStack 2 (some .boolean) ∈ uw := uw_in (i := 789) (by decide +kernel) (by decide +kernel)
theorem wc_X7_inStack : Cond.code yX7_inStack cX7_inStack 3 (some .int) ∈ uw := uw_in (i := 793) (by decide +kernel) (by decide +kernel)
theorem wc_X7_join : Cond.code yX7_join cX7_join 7 (some .int) ∈ uw := uw_in (i := 797) (by decide +kernel) (by decide +kernel)
theorem wc_X7_goes : Cond.code yX7_goes cX7_goes 3 none ∈ uw := uw_in (i := 801) (by decide +kernel) (by decide +kernel)
theorem wc_X7_cart : Cond.code yX7_cart cX7_cart 5 (some .int) ∈ uw := uw_in (i := 805) (by decide +kernel) (by decide +kernel)
theorem wc_X7_load : Cond.code yX7_load cX7_load 3 (some .int) ∈ uw := uw_in (i := 809) (by decide +kernel) (by decide +kernel)
theorem wc_X7_weight : Cond.code yX7_weight cX7_weight 2 (some .int) ∈ uw := uw_in (i := 813) (by decide +kernel) (by decide +kernel)
theorem wc_X7_bears : Cond.code yX7_bears cX7_bears 3 (some .int) ∈ uw := uw_in (i := 817) (by decide +kernel) (by decide +kernel)
theorem wc_X7_isDry : Cond.code yX7_isDry cX7_isDry 2 (some .boolean) ∈ uw := uw_in (i := 821) (by decide +kernel) (by decide +kernel)
theorem wc_X7_repair : Cond.code yX7_repair cX7_repair 3 (some .int) ∈ uw := uw_in (i := 825) (by decide +kernel) (by decide +kernel)
theorem wc_X7_day : Cond.code yX7_day cX7_day 4 (some .int) ∈ uw := uw_in (i := 829) (by decide +kernel) (by decide +kernel)
theorem wc_X7_dried : Cond.code yX7_dried cX7_dried 5 (some .int) ∈ uw := uw_in (i := 832) (by decide +kernel) (by decide +kernel)
theorem wc_X7_dryStacks : Cond.code yX7_dryStacks cX7_dryStacks 3 (some .int) ∈ uw := uw_in (i := 836) (by decide +kernel) (by decide +kernel)
theorem wc_X7_endYear : Cond.code yX7_endYear cX7_endYear 3 (some .int) ∈ uw := uw_in (i := 840) (by decide +kernel) (by decide +kernel)
theorem wc_X7_take : Cond.code yX7_take cX7_take 3 (some .int) ∈ uw := uw_in (i := 844) (by decide +kernel) (by decide +kernel)
theorem wc_X7_restore : Cond.code yX7_restore cX7_restore 3 (some .int) ∈ uw := uw_in (i := 848) (by decide +kernel) (by decide +kernel)
theorem wc_X7_undo : Cond.code yX7_undo cX7_undo 2 (some .int) ∈ uw := uw_in (i := 852) (by decide +kernel) (by decide +kernel)
theorem wc_X7_append : Cond.code yX7_append cX7_append 2 (some .int) ∈ uw := uw_in (i := 856) (by decide +kernel) (by decide +kernel)
theorem wc_X7_clearText : Cond.code yX7_clearText cX7_clearText 2 (some .int) ∈ uw := uw_in (i := 860) (by decide +kernel) (by decide +kernel)
theorem wc_X7_run : Cond.code yX7_run cX7_run 4 (some .int) ∈ uw := uw_in (i := 864) (by decide +kernel) (by decide +kernel)
theorem wc_X7_readsAll : Cond.code yX7_readsAll cX7_readsAll 2 (some .int) ∈ uw := uw_in (i := 868) (by decide +kernel) (by decide +kernel)
theorem wc_X7_token : Cond.code yX7_token cX7_token 2 none ∈ uw := uw_in (i := 872) (by decide +kernel) (by decide +kernel)
theorem wc_X7_kindOf : Cond.code yX7_kindOf cX7_kindOf 1 (some .int) ∈ uw := uw_in (i := 875) (by decide +kernel) (by decide +kernel)
theorem wc_X7_readsOne : Cond.code yX7_readsOne cX7_readsOne 5 (some .int) ∈ uw := uw_in (i := 879) (by decide +kernel) (by decide +kernel)
theorem wc_X7_command : Cond.code yX7_command cX7_command 1 (some .int) ∈ uw := uw_in (i := 883) (by decide +kernel) (by decide +kernel)
theorem wc_X7_isWord : Cond.code yX7_isWord cX7_isWord 9 (some .boolean) ∈ uw := uw_in (i := 887) (by decide +kernel) (by decide +kernel)
theorem wc_X7_isNumber : Cond.code yX7_isNumber cX7_isNumber 4 (some .boolean) ∈ uw := uw_in (i := 891) (by decide +kernel) (by decide +kernel)
theorem wc_X7_does : Cond.code yX7_does cX7_does 2 (some .int) ∈ uw := uw_in (i := 895) (by decide +kernel) (by decide +kernel)
theorem wc_X7_count : Cond.code yX7_count cX7_count 2 (some .int) ∈ uw := uw_in (i := 906) (by decide +kernel) (by decide +kernel)
theorem wc_X7_household : Cond.code yX7_household cX7_household 3 (some .int) ∈ uw := uw_in (i := 910) (by decide +kernel) (by decide +kernel)
theorem wc_X7_banksOf : Cond.code yX7_banksOf cX7_banksOf 4 (some .int) ∈ uw := uw_in (i := 914) (by decide +kernel) (by decide +kernel)
theorem wc_X7_stacksOf : Cond.code yX7_stacksOf cX7_stacksOf 5 (some .int) ∈ uw := uw_in (i := 918) (by decide +kernel) (by decide +kernel)
theorem wc_X7_bank : Cond.code yX7_bank cX7_bank 3 (some .int) ∈ uw := uw_in (i := 922) (by decide +kernel) (by decide +kernel)
theorem wc_X7_turfsAt : Cond.code yX7_turfsAt cX7_turfsAt 4 (some .int) ∈ uw := uw_in (i := 926) (by decide +kernel) (by decide +kernel)
theorem wc_X7_right : Cond.code yX7_right cX7_right 4 (some .int) ∈ uw := uw_in (i := 930) (by decide +kernel) (by decide +kernel)
theorem wc_X7_stack : Cond.code yX7_stack cX7_stack 3 (some .int) ∈ uw := uw_in (i := 934) (by decide +kernel) (by decide +kernel)
theorem wc_X7_dryIn : Cond.code yX7_dryIn cX7_dryIn 6 (some .int) ∈ uw := uw_in (i := 938) (by decide +kernel) (by decide +kernel)
theorem wc_X7_cartLoad : Cond.code yX7_cartLoad cX7_cartLoad 3 (some .int) ∈ uw := uw_in (i := 942) (by decide +kernel) (by decide +kernel)
theorem wc_X7_most : Cond.code yX7_most cX7_most 5 (some .int) ∈ uw := uw_in (i := 946) (by decide +kernel) (by decide +kernel)
theorem wc_X7_carts : Cond.code yX7_carts cX7_carts 7 (some .int) ∈ uw := uw_in (i := 950) (by decide +kernel) (by decide +kernel)
theorem wc_X7_worth : Cond.code yX7_worth cX7_worth 5 (some .int) ∈ uw := uw_in (i := 954) (by decide +kernel) (by decide +kernel)
theorem wc_X7_nextToCut : Cond.code yX7_nextToCut cX7_nextToCut 6 (some .int) ∈ uw := uw_in (i := 960) (by decide +kernel) (by decide +kernel)
theorem wn_X6_init : Cond.instanceMethod yX6_init ∈ uw := uw_in (i := 17) (by decide +kernel) (by decide +kernel)
theorem wn_objectInit : Cond.instanceMethod objectInit ∈ uw := uw_in (i := 20) (by decide +kernel) (by decide +kernel)
theorem wn_X4_init : Cond.instanceMethod yX4_init ∈ uw := uw_in (i := 25) (by decide +kernel) (by decide +kernel)
theorem wn_X2_init : Cond.instanceMethod yX2_init ∈ uw := uw_in (i := 31) (by decide +kernel) (by decide +kernel)
theorem wn_X1_init : Cond.instanceMethod yX1_init ∈ uw := uw_in (i := 42) (by decide +kernel) (by decide +kernel)
theorem wn_X0_init : Cond.instanceMethod yX0_init ∈ uw := uw_in (i := 60) (by decide +kernel) (by decide +kernel)
theorem wn_X5_init : Cond.instanceMethod yX5_init ∈ uw := uw_in (i := 100) (by decide +kernel) (by decide +kernel)
theorem wn_X3_init : Cond.instanceMethod yX3_init ∈ uw := uw_in (i := 175) (by decide +kernel) (by decide +kernel)
theorem wn_X6_come : Cond.instanceMethod yX6_come ∈ uw := uw_in (i := 213) (by decide +kernel) (by decide +kernel)
theorem wn_X4_copyFrom : Cond.instanceMethod yX4_copyFrom ∈ uw := uw_in (i := 217) (by decide +kernel) (by decide +kernel)
theorem wn_X2_copyFrom : Cond.instanceMethod yX2_copyFrom ∈ uw := uw_in (i := 221) (by decide +kernel) (by decide +kernel)
theorem wn_X1_copyFrom : Cond.instanceMethod yX1_copyFrom ∈ uw := uw_in (i := 225) (by decide +kernel) (by decide +kernel)
theorem wn_X0_copyFrom : Cond.instanceMethod yX0_copyFrom ∈ uw := uw_in (i := 229) (by decide +kernel) (by decide +kernel)
theorem wn_X5_copyFrom : Cond.instanceMethod yX5_copyFrom ∈ uw := uw_in (i := 233) (by decide +kernel) (by decide +kernel)
theorem wn_X2_addHousehold : Cond.instanceMethod yX2_addHousehold ∈ uw := uw_in (i := 237) (by decide +kernel) (by decide +kernel)
theorem wn_X6_recorded : Cond.instanceMethod yX6_recorded ∈ uw := uw_in (i := 245) (by decide +kernel) (by decide +kernel)
theorem wn_X6_dropOldestState : Cond.instanceMethod yX6_dropOldestState ∈ uw := uw_in (i := 249) (by decide +kernel) (by decide +kernel)
theorem wn_X6_setSpades : Cond.instanceMethod yX6_setSpades ∈ uw := uw_in (i := 252) (by decide +kernel) (by decide +kernel)
theorem wn_X2_changeSpades : Cond.instanceMethod yX2_changeSpades ∈ uw := uw_in (i := 256) (by decide +kernel) (by decide +kernel)
theorem wn_X2_hasHousehold : Cond.instanceMethod yX2_hasHousehold ∈ uw := uw_in (i := 260) (by decide +kernel) (by decide +kernel)
theorem wn_X6_addBank : Cond.instanceMethod yX6_addBank ∈ uw := uw_in (i := 264) (by decide +kernel) (by decide +kernel)
theorem wn_X2_openBank : Cond.instanceMethod yX2_openBank ∈ uw := uw_in (i := 268) (by decide +kernel) (by decide +kernel)
theorem wn_X6_setAllowance : Cond.instanceMethod yX6_setAllowance ∈ uw := uw_in (i := 272) (by decide +kernel) (by decide +kernel)
theorem wn_X2_changeAllowance : Cond.instanceMethod yX2_changeAllowance ∈ uw := uw_in (i := 276) (by decide +kernel) (by decide +kernel)
theorem wn_X2_hasBank : Cond.instanceMethod yX2_hasBank ∈ uw := uw_in (i := 280) (by decide +kernel) (by decide +kernel)
theorem wn_X6_grant : Cond.instanceMethod yX6_grant ∈ uw := uw_in (i := 284) (by decide +kernel) (by decide +kernel)
theorem wn_X2_changeRight : Cond.instanceMethod yX2_changeRight ∈ uw := uw_in (i := 288) (by decide +kernel) (by decide +kernel)
theorem wn_X0_holders : Cond.instanceMethod yX0_holders ∈ uw := uw_in (i := 292) (by decide +kernel) (by decide +kernel)
theorem wn_X6_cut : Cond.instanceMethod yX6_cut ∈ uw := uw_in (i := 296) (by decide +kernel) (by decide +kernel)
theorem wn_X2_cutTurfs : Cond.instanceMethod yX2_cutTurfs ∈ uw := uw_in (i := 300) (by decide +kernel) (by decide +kernel)
theorem wn_X2_shareOf : Cond.instanceMethod yX2_shareOf ∈ uw := uw_in (i := 304) (by decide +kernel) (by decide +kernel)
theorem wn_X2_spadesAt : Cond.instanceMethod yX2_spadesAt ∈ uw := uw_in (i := 308) (by decide +kernel) (by decide +kernel)
theorem wn_X6_turn : Cond.instanceMethod yX6_turn ∈ uw := uw_in (i := 313) (by decide +kernel) (by decide +kernel)
theorem wn_X2_turnStack : Cond.instanceMethod yX2_turnStack ∈ uw := uw_in (i := 317) (by decide +kernel) (by decide +kernel)
theorem wn_X2_hasStack : Cond.instanceMethod yX2_hasStack ∈ uw := uw_in (i := 321) (by decide +kernel) (by decide +kernel)
theorem wn_X6_join : Cond.instanceMethod yX6_join ∈ uw := uw_in (i := 325) (by decide +kernel) (by decide +kernel)
theorem wn_X2_joinStacks : Cond.instanceMethod yX2_joinStacks ∈ uw := uw_in (i := 329) (by decide +kernel) (by decide +kernel)
theorem wn_X5_takeAllOf : Cond.instanceMethod yX5_takeAllOf ∈ uw := uw_in (i := 333) (by decide +kernel) (by decide +kernel)
theorem wn_X2_removeStack : Cond.instanceMethod yX2_removeStack ∈ uw := uw_in (i := 340) (by decide +kernel) (by decide +kernel)
theorem wn_X6_cart : Cond.instanceMethod yX6_cart ∈ uw := uw_in (i := 344) (by decide +kernel) (by decide +kernel)
theorem wn_X2_cartTurfs : Cond.instanceMethod yX2_cartTurfs ∈ uw := uw_in (i := 348) (by decide +kernel) (by decide +kernel)
theorem wn_X5_loadOf : Cond.instanceMethod yX5_loadOf ∈ uw := uw_in (i := 352) (by decide +kernel) (by decide +kernel)
theorem wn_X5_turfWeight : Cond.instanceMethod yX5_turfWeight ∈ uw := uw_in (i := 356) (by decide +kernel) (by decide +kernel)
theorem wn_X2_bearingToday : Cond.instanceMethod yX2_bearingToday ∈ uw := uw_in (i := 360) (by decide +kernel) (by decide +kernel)
theorem wn_X0_bearing : Cond.instanceMethod yX0_bearing ∈ uw := uw_in (i := 364) (by decide +kernel) (by decide +kernel)
theorem wn_X5_isDry : Cond.instanceMethod yX5_isDry ∈ uw := uw_in (i := 371) (by decide +kernel) (by decide +kernel)
theorem wn_X6_repair : Cond.instanceMethod yX6_repair ∈ uw := uw_in (i := 378) (by decide +kernel) (by decide +kernel)
theorem wn_X2_repairRoad : Cond.instanceMethod yX2_repairRoad ∈ uw := uw_in (i := 382) (by decide +kernel) (by decide +kernel)
theorem wn_X6_day : Cond.instanceMethod yX6_day ∈ uw := uw_in (i := 386) (by decide +kernel) (by decide +kernel)
theorem wn_X2_passDay : Cond.instanceMethod yX2_passDay ∈ uw := uw_in (i := 390) (by decide +kernel) (by decide +kernel)
theorem wn_X5_wetnessAfterDay : Cond.instanceMethod yX5_wetnessAfterDay ∈ uw := uw_in (i := 394) (by decide +kernel) (by decide +kernel)
theorem wn_X2_dryStacks : Cond.instanceMethod yX2_dryStacks ∈ uw := uw_in (i := 400) (by decide +kernel) (by decide +kernel)
theorem wn_X6_endYear : Cond.instanceMethod yX6_endYear ∈ uw := uw_in (i := 404) (by decide +kernel) (by decide +kernel)
theorem wn_X2_closeYear : Cond.instanceMethod yX2_closeYear ∈ uw := uw_in (i := 408) (by decide +kernel) (by decide +kernel)
theorem wn_X0_forgetYear : Cond.instanceMethod yX0_forgetYear ∈ uw := uw_in (i := 412) (by decide +kernel) (by decide +kernel)
theorem wn_X6_take : Cond.instanceMethod yX6_take ∈ uw := uw_in (i := 416) (by decide +kernel) (by decide +kernel)
theorem wn_X4_takeSnapshot : Cond.instanceMethod yX4_takeSnapshot ∈ uw := uw_in (i := 420) (by decide +kernel) (by decide +kernel)
theorem wn_X6_restore : Cond.instanceMethod yX6_restore ∈ uw := uw_in (i := 425) (by decide +kernel) (by decide +kernel)
theorem wn_X4_restoreSnapshot : Cond.instanceMethod yX4_restoreSnapshot ∈ uw := uw_in (i := 429) (by decide +kernel) (by decide +kernel)
theorem wn_X6_undo : Cond.instanceMethod yX6_undo ∈ uw := uw_in (i := 433) (by decide +kernel) (by decide +kernel)
theorem wn_X6_append : Cond.instanceMethod yX6_append ∈ uw := uw_in (i := 437) (by decide +kernel) (by decide +kernel)
theorem wn_X3_addCharacter : Cond.instanceMethod yX3_addCharacter ∈ uw := uw_in (i := 441) (by decide +kernel) (by decide +kernel)
theorem wn_X6_clearText : Cond.instanceMethod yX6_clearText ∈ uw := uw_in (i := 446) (by decide +kernel) (by decide +kernel)
theorem wn_X3_clearCharacters : Cond.instanceMethod yX3_clearCharacters ∈ uw := uw_in (i := 450) (by decide +kernel) (by decide +kernel)
theorem wn_X6_run : Cond.instanceMethod yX6_run ∈ uw := uw_in (i := 454) (by decide +kernel) (by decide +kernel)
theorem wn_X3_runOn : Cond.instanceMethod yX3_runOn ∈ uw := uw_in (i := 458) (by decide +kernel) (by decide +kernel)
theorem wn_X3_readToken : Cond.instanceMethod yX3_readToken ∈ uw := uw_in (i := 462) (by decide +kernel) (by decide +kernel)
theorem wn_X3_runCommand : Cond.instanceMethod yX3_runCommand ∈ uw := uw_in (i := 469) (by decide +kernel) (by decide +kernel)
theorem wn_X3_commandOfToken : Cond.instanceMethod yX3_commandOfToken ∈ uw := uw_in (i := 473) (by decide +kernel) (by decide +kernel)
theorem wn_X3_isToken : Cond.instanceMethod yX3_isToken ∈ uw := uw_in (i := 478) (by decide +kernel) (by decide +kernel)
theorem wn_J0_length_8abf5 : Cond.instanceMethod yJ0_length_8abf5 ∈ uw := uw_in (i := 482) (by decide +kernel) (by decide +kernel)
theorem wn_J0_coder_7d493 : Cond.instanceMethod yJ0_coder_7d493 ∈ uw := uw_in (i := 486) (by decide +kernel) (by decide +kernel)
theorem wn_J0_charAt_5068e : Cond.instanceMethod yJ0_charAt_5068e ∈ uw := uw_in (i := 492) (by decide +kernel) (by decide +kernel)
theorem wn_J0_isLatin1_aae02 : Cond.instanceMethod yJ0_isLatin1_aae02 ∈ uw := uw_in (i := 496) (by decide +kernel) (by decide +kernel)
theorem wn_X3_isNumber : Cond.instanceMethod yX3_isNumber ∈ uw := uw_in (i := 539) (by decide +kernel) (by decide +kernel)
theorem wn_X3_valueOfToken : Cond.instanceMethod yX3_valueOfToken ∈ uw := uw_in (i := 543) (by decide +kernel) (by decide +kernel)
theorem wn_X3_perform : Cond.instanceMethod yX3_perform ∈ uw := uw_in (i := 548) (by decide +kernel) (by decide +kernel)
theorem wn_X6_count : Cond.instanceMethod yX6_count ∈ uw := uw_in (i := 560) (by decide +kernel) (by decide +kernel)
theorem wn_X4_snapshots : Cond.instanceMethod yX4_snapshots ∈ uw := uw_in (i := 565) (by decide +kernel) (by decide +kernel)
theorem wn_X6_household : Cond.instanceMethod yX6_household ∈ uw := uw_in (i := 569) (by decide +kernel) (by decide +kernel)
theorem wn_X2_householdProperty : Cond.instanceMethod yX2_householdProperty ∈ uw := uw_in (i := 573) (by decide +kernel) (by decide +kernel)
theorem wn_X2_rightsOf : Cond.instanceMethod yX2_rightsOf ∈ uw := uw_in (i := 577) (by decide +kernel) (by decide +kernel)
theorem wn_X2_stacksOf : Cond.instanceMethod yX2_stacksOf ∈ uw := uw_in (i := 581) (by decide +kernel) (by decide +kernel)
theorem wn_X2_turfsInStacksOf : Cond.instanceMethod yX2_turfsInStacksOf ∈ uw := uw_in (i := 585) (by decide +kernel) (by decide +kernel)
theorem wn_X6_bank : Cond.instanceMethod yX6_bank ∈ uw := uw_in (i := 589) (by decide +kernel) (by decide +kernel)
theorem wn_X2_bankProperty : Cond.instanceMethod yX2_bankProperty ∈ uw := uw_in (i := 593) (by decide +kernel) (by decide +kernel)
theorem wn_X0_holdersAsBits : Cond.instanceMethod yX0_holdersAsBits ∈ uw := uw_in (i := 597) (by decide +kernel) (by decide +kernel)
theorem wn_X2_turfsInStacksAt : Cond.instanceMethod yX2_turfsInStacksAt ∈ uw := uw_in (i := 601) (by decide +kernel) (by decide +kernel)
theorem wn_X6_right : Cond.instanceMethod yX6_right ∈ uw := uw_in (i := 605) (by decide +kernel) (by decide +kernel)
theorem wn_X2_rightPart : Cond.instanceMethod yX2_rightPart ∈ uw := uw_in (i := 609) (by decide +kernel) (by decide +kernel)
theorem wn_X2_stillToCut : Cond.instanceMethod yX2_stillToCut ∈ uw := uw_in (i := 613) (by decide +kernel) (by decide +kernel)
theorem wn_X6_stack : Cond.instanceMethod yX6_stack ∈ uw := uw_in (i := 618) (by decide +kernel) (by decide +kernel)
theorem wn_X2_stackProperty : Cond.instanceMethod yX2_stackProperty ∈ uw := uw_in (i := 622) (by decide +kernel) (by decide +kernel)
theorem wn_X6_dryIn : Cond.instanceMethod yX6_dryIn ∈ uw := uw_in (i := 627) (by decide +kernel) (by decide +kernel)
theorem wn_X2_daysUntilDry : Cond.instanceMethod yX2_daysUntilDry ∈ uw := uw_in (i := 631) (by decide +kernel) (by decide +kernel)
theorem wn_X6_cartLoad : Cond.instanceMethod yX6_cartLoad ∈ uw := uw_in (i := 635) (by decide +kernel) (by decide +kernel)
theorem wn_X2_greatestCartOf : Cond.instanceMethod yX2_greatestCartOf ∈ uw := uw_in (i := 639) (by decide +kernel) (by decide +kernel)
theorem wn_X5_greatestCart : Cond.instanceMethod yX5_greatestCart ∈ uw := uw_in (i := 643) (by decide +kernel) (by decide +kernel)
theorem wn_X6_carts : Cond.instanceMethod yX6_carts ∈ uw := uw_in (i := 647) (by decide +kernel) (by decide +kernel)
theorem wn_X2_cartsNeeded : Cond.instanceMethod yX2_cartsNeeded ∈ uw := uw_in (i := 651) (by decide +kernel) (by decide +kernel)
theorem wn_X6_worth : Cond.instanceMethod yX6_worth ∈ uw := uw_in (i := 655) (by decide +kernel) (by decide +kernel)
theorem wn_X2_worthOfShed : Cond.instanceMethod yX2_worthOfShed ∈ uw := uw_in (i := 659) (by decide +kernel) (by decide +kernel)
theorem wn_X6_nextToCut : Cond.instanceMethod yX6_nextToCut ∈ uw := uw_in (i := 665) (by decide +kernel) (by decide +kernel)
theorem wn_X2_mostToCut : Cond.instanceMethod yX2_mostToCut ∈ uw := uw_in (i := 669) (by decide +kernel) (by decide +kernel)
theorem wn_X7_init : Cond.instanceMethod yX7_init ∈ uw := uw_in (i := 675) (by decide +kernel) (by decide +kernel)
theorem wn_X7_come : Cond.instanceMethod yX7_come ∈ uw := uw_in (i := 716) (by decide +kernel) (by decide +kernel)
theorem wn_X7_acts : Cond.instanceMethod yX7_acts ∈ uw := uw_in (i := 724) (by decide +kernel) (by decide +kernel)
theorem wn_X7_setSpades : Cond.instanceMethod yX7_setSpades ∈ uw := uw_in (i := 727) (by decide +kernel) (by decide +kernel)
theorem wn_X7_isHouse : Cond.instanceMethod yX7_isHouse ∈ uw := uw_in (i := 732) (by decide +kernel) (by decide +kernel)
theorem wn_X7_inHouse : Cond.instanceMethod yX7_inHouse ∈ uw := uw_in (i := 736) (by decide +kernel) (by decide +kernel)
theorem wn_X7_addBank : Cond.instanceMethod yX7_addBank ∈ uw := uw_in (i := 739) (by decide +kernel) (by decide +kernel)
theorem wn_X7_setAllowance : Cond.instanceMethod yX7_setAllowance ∈ uw := uw_in (i := 743) (by decide +kernel) (by decide +kernel)
theorem wn_X7_isBank : Cond.instanceMethod yX7_isBank ∈ uw := uw_in (i := 748) (by decide +kernel) (by decide +kernel)
theorem wn_X7_inBank : Cond.instanceMethod yX7_inBank ∈ uw := uw_in (i := 752) (by decide +kernel) (by decide +kernel)
theorem wn_X7_grant : Cond.instanceMethod yX7_grant ∈ uw := uw_in (i := 755) (by decide +kernel) (by decide +kernel)
theorem wn_X7_cut : Cond.instanceMethod yX7_cut ∈ uw := uw_in (i := 762) (by decide +kernel) (by decide +kernel)
theorem wn_X7_mayCut : Cond.instanceMethod yX7_mayCut ∈ uw := uw_in (i := 767) (by decide +kernel) (by decide +kernel)
theorem wn_X7_shareOf : Cond.instanceMethod yX7_shareOf ∈ uw := uw_in (i := 771) (by decide +kernel) (by decide +kernel)
theorem wn_X7_spadesOf : Cond.instanceMethod yX7_spadesOf ∈ uw := uw_in (i := 775) (by decide +kernel) (by decide +kernel)
theorem wn_X7_hasRight : Cond.instanceMethod yX7_hasRight ∈ uw := uw_in (i := 779) (by decide +kernel) (by decide +kernel)
theorem wn_X7_turn : Cond.instanceMethod yX7_turn ∈ uw := uw_in (i := 783) (by decide +kernel) (by decide +kernel)
theorem wn_X7_isStack : Cond.instanceMethod yX7_isStack ∈ uw := uw_in (i := 788) (by decide +kernel) (by decide +kernel)
theorem wn_X7_inStack : Cond.instanceMethod yX7_inStack ∈ uw := uw_in (i := 792) (by decide +kernel) (by decide +kernel)
theorem wn_X7_join : Cond.instanceMethod yX7_join ∈ uw := uw_in (i := 795) (by decide +kernel) (by decide +kernel)
theorem wn_X7_goes : Cond.instanceMethod yX7_goes ∈ uw := uw_in (i := 800) (by decide +kernel) (by decide +kernel)
theorem wn_X7_cart : Cond.instanceMethod yX7_cart ∈ uw := uw_in (i := 803) (by decide +kernel) (by decide +kernel)
theorem wn_X7_load : Cond.instanceMethod yX7_load ∈ uw := uw_in (i := 808) (by decide +kernel) (by decide +kernel)
theorem wn_X7_weight : Cond.instanceMethod yX7_weight ∈ uw := uw_in (i := 812) (by decide +kernel) (by decide +kernel)
theorem wn_X7_bears : Cond.instanceMethod yX7_bears ∈ uw := uw_in (i := 816) (by decide +kernel) (by decide +kernel)
theorem wn_X7_isDry : Cond.instanceMethod yX7_isDry ∈ uw := uw_in (i := 820) (by decide +kernel) (by decide +kernel)
theorem wn_X7_repair : Cond.instanceMethod yX7_repair ∈ uw := uw_in (i := 823) (by decide +kernel) (by decide +kernel)
theorem wn_X7_day : Cond.instanceMethod yX7_day ∈ uw := uw_in (i := 827) (by decide +kernel) (by decide +kernel)
theorem wn_X7_dryStacks : Cond.instanceMethod yX7_dryStacks ∈ uw := uw_in (i := 835) (by decide +kernel) (by decide +kernel)
theorem wn_X7_endYear : Cond.instanceMethod yX7_endYear ∈ uw := uw_in (i := 838) (by decide +kernel) (by decide +kernel)
theorem wn_X7_take : Cond.instanceMethod yX7_take ∈ uw := uw_in (i := 842) (by decide +kernel) (by decide +kernel)
theorem wn_X7_restore : Cond.instanceMethod yX7_restore ∈ uw := uw_in (i := 846) (by decide +kernel) (by decide +kernel)
theorem wn_X7_undo : Cond.instanceMethod yX7_undo ∈ uw := uw_in (i := 850) (by decide +kernel) (by decide +kernel)
theorem wn_X7_append : Cond.instanceMethod yX7_append ∈ uw := uw_in (i := 854) (by decide +kernel) (by decide +kernel)
theorem wn_X7_clearText : Cond.instanceMethod yX7_clearText ∈ uw := uw_in (i := 858) (by decide +kernel) (by decide +kernel)
theorem wn_X7_run : Cond.instanceMethod yX7_run ∈ uw := uw_in (i := 862) (by decide +kernel) (by decide +kernel)
theorem wn_X7_readsAll : Cond.instanceMethod yX7_readsAll ∈ uw := uw_in (i := 867) (by decide +kernel) (by decide +kernel)
theorem wn_X7_token : Cond.instanceMethod yX7_token ∈ uw := uw_in (i := 871) (by decide +kernel) (by decide +kernel)
theorem wn_X7_readsOne : Cond.instanceMethod yX7_readsOne ∈ uw := uw_in (i := 878) (by decide +kernel) (by decide +kernel)
theorem wn_X7_command : Cond.instanceMethod yX7_command ∈ uw := uw_in (i := 882) (by decide +kernel) (by decide +kernel)
theorem wn_X7_isWord : Cond.instanceMethod yX7_isWord ∈ uw := uw_in (i := 886) (by decide +kernel) (by decide +kernel)
theorem wn_X7_isNumber : Cond.instanceMethod yX7_isNumber ∈ uw := uw_in (i := 890) (by decide +kernel) (by decide +kernel)
theorem wn_X7_does : Cond.instanceMethod yX7_does ∈ uw := uw_in (i := 894) (by decide +kernel) (by decide +kernel)
theorem wn_X7_count : Cond.instanceMethod yX7_count ∈ uw := uw_in (i := 904) (by decide +kernel) (by decide +kernel)
theorem wn_X7_household : Cond.instanceMethod yX7_household ∈ uw := uw_in (i := 908) (by decide +kernel) (by decide +kernel)
theorem wn_X7_banksOf : Cond.instanceMethod yX7_banksOf ∈ uw := uw_in (i := 913) (by decide +kernel) (by decide +kernel)
theorem wn_X7_stacksOf : Cond.instanceMethod yX7_stacksOf ∈ uw := uw_in (i := 917) (by decide +kernel) (by decide +kernel)
theorem wn_X7_bank : Cond.instanceMethod yX7_bank ∈ uw := uw_in (i := 920) (by decide +kernel) (by decide +kernel)
theorem wn_X7_turfsAt : Cond.instanceMethod yX7_turfsAt ∈ uw := uw_in (i := 925) (by decide +kernel) (by decide +kernel)
theorem wn_X7_right : Cond.instanceMethod yX7_right ∈ uw := uw_in (i := 928) (by decide +kernel) (by decide +kernel)
theorem wn_X7_stack : Cond.instanceMethod yX7_stack ∈ uw := uw_in (i := 932) (by decide +kernel) (by decide +kernel)
theorem wn_X7_dryIn : Cond.instanceMethod yX7_dryIn ∈ uw := uw_in (i := 936) (by decide +kernel) (by decide +kernel)
theorem wn_X7_cartLoad : Cond.instanceMethod yX7_cartLoad ∈ uw := uw_in (i := 940) (by decide +kernel) (by decide +kernel)
theorem wn_X7_most : Cond.instanceMethod yX7_most ∈ uw := uw_in (i := 945) (by decide +kernel) (by decide +kernel)
theorem wn_X7_carts : Cond.instanceMethod yX7_carts ∈ uw := uw_in (i := 948) (by decide +kernel) (by decide +kernel)
theorem wn_X7_worth : Cond.instanceMethod yX7_worth ∈ uw := uw_in (i := 952) (by decide +kernel) (by decide +kernel)
theorem wn_X7_nextToCut : Cond.instanceMethod yX7_nextToCut ∈ uw := uw_in (i := 958) (by decide +kernel) (by decide +kernel)
theorem wt_X6_isWithin : Cond.static yX6_isWithin ∈ uw := uw_in (i := 241) (by decide +kernel) (by decide +kernel)
theorem wt_min : Cond.static Lib.Math.min.name ∈ uw := uw_in (i := 337) (by decide +kernel) (by decide +kernel)
theorem wt_max : Cond.static Lib.Math.max.name ∈ uw := uw_in (i := 368) (by decide +kernel) (by decide +kernel)
theorem wt_X0_wearBy : Cond.static yX0_wearBy ∈ uw := uw_in (i := 375) (by decide +kernel) (by decide +kernel)
theorem wt_X3_kindOf : Cond.static yX3_kindOf ∈ uw := uw_in (i := 466) (by decide +kernel) (by decide +kernel)
theorem wt_J1_charAt_3b067 : Cond.static yJ1_charAt_3b067 ∈ uw := uw_in (i := 500) (by decide +kernel) (by decide +kernel)
theorem wt_J0_checkIndex_df160 : Cond.static yJ0_checkIndex_df160 ∈ uw := uw_in (i := 503) (by decide +kernel) (by decide +kernel)
theorem wt_J3_checkIndex_8e157 : Cond.static yJ3_checkIndex_8e157 ∈ uw := uw_in (i := 508) (by decide +kernel) (by decide +kernel)
theorem wt_J2_charAt_3b067 : Cond.static yJ2_charAt_3b067 ∈ uw := uw_in (i := 511) (by decide +kernel) (by decide +kernel)
theorem wt_J2_checkIndex_2214a : Cond.static yJ2_checkIndex_2214a ∈ uw := uw_in (i := 514) (by decide +kernel) (by decide +kernel)
theorem wt_J2_length_9d52b : Cond.static yJ2_length_9d52b ∈ uw := uw_in (i := 517) (by decide +kernel) (by decide +kernel)
theorem wt_J2_getChar_3b067 : Cond.static yJ2_getChar_3b067 ∈ uw := uw_in (i := 521) (by decide +kernel) (by decide +kernel)
theorem wt_X3_numbersOf : Cond.static yX3_numbersOf ∈ uw := uw_in (i := 536) (by decide +kernel) (by decide +kernel)
theorem wt_X7_in : Cond.static yX7_in ∈ uw := uw_in (i := 720) (by decide +kernel) (by decide +kernel)
theorem wt_X7_ones : Cond.static yX7_ones ∈ uw := uw_in (i := 759) (by decide +kernel) (by decide +kernel)
theorem wt_X7_dried : Cond.static yX7_dried ∈ uw := uw_in (i := 831) (by decide +kernel) (by decide +kernel)
theorem wt_X7_kindOf : Cond.static yX7_kindOf ∈ uw := uw_in (i := 874) (by decide +kernel) (by decide +kernel)
theorem ws_X6_come : Cond.selects yX6_come.cls yX6_come yX6_come ∈ uw := uw_in (i := 214) (by decide +kernel) (by decide +kernel)
theorem ws_X4_copyFrom : Cond.selects yX4_copyFrom.cls yX4_copyFrom yX4_copyFrom ∈ uw := uw_in (i := 218) (by decide +kernel) (by decide +kernel)
theorem ws_X2_copyFrom : Cond.selects yX2_copyFrom.cls yX2_copyFrom yX2_copyFrom ∈ uw := uw_in (i := 222) (by decide +kernel) (by decide +kernel)
theorem ws_X1_copyFrom : Cond.selects yX1_copyFrom.cls yX1_copyFrom yX1_copyFrom ∈ uw := uw_in (i := 226) (by decide +kernel) (by decide +kernel)
theorem ws_X0_copyFrom : Cond.selects yX0_copyFrom.cls yX0_copyFrom yX0_copyFrom ∈ uw := uw_in (i := 230) (by decide +kernel) (by decide +kernel)
theorem ws_X5_copyFrom : Cond.selects yX5_copyFrom.cls yX5_copyFrom yX5_copyFrom ∈ uw := uw_in (i := 234) (by decide +kernel) (by decide +kernel)
theorem ws_X2_addHousehold : Cond.selects yX2_addHousehold.cls yX2_addHousehold yX2_addHousehold ∈ uw := uw_in (i := 238) (by decide +kernel) (by decide +kernel)
theorem ws_X6_setSpades : Cond.selects yX6_setSpades.cls yX6_setSpades yX6_setSpades ∈ uw := uw_in (i := 253) (by decide +kernel) (by decide +kernel)
theorem ws_X2_changeSpades : Cond.selects yX2_changeSpades.cls yX2_changeSpades yX2_changeSpades ∈ uw := uw_in (i := 257) (by decide +kernel) (by decide +kernel)
theorem ws_X2_hasHousehold : Cond.selects yX2_hasHousehold.cls yX2_hasHousehold yX2_hasHousehold ∈ uw := uw_in (i := 261) (by decide +kernel) (by decide +kernel)
theorem ws_X6_addBank : Cond.selects yX6_addBank.cls yX6_addBank yX6_addBank ∈ uw := uw_in (i := 265) (by decide +kernel) (by decide +kernel)
theorem ws_X2_openBank : Cond.selects yX2_openBank.cls yX2_openBank yX2_openBank ∈ uw := uw_in (i := 269) (by decide +kernel) (by decide +kernel)
theorem ws_X6_setAllowance : Cond.selects yX6_setAllowance.cls yX6_setAllowance yX6_setAllowance ∈ uw := uw_in (i := 273) (by decide +kernel) (by decide +kernel)
theorem ws_X2_changeAllowance : Cond.selects yX2_changeAllowance.cls yX2_changeAllowance yX2_changeAllowance ∈ uw := uw_in (i := 277) (by decide +kernel) (by decide +kernel)
theorem ws_X2_hasBank : Cond.selects yX2_hasBank.cls yX2_hasBank yX2_hasBank ∈ uw := uw_in (i := 281) (by decide +kernel) (by decide +kernel)
theorem ws_X6_grant : Cond.selects yX6_grant.cls yX6_grant yX6_grant ∈ uw := uw_in (i := 285) (by decide +kernel) (by decide +kernel)
theorem ws_X2_changeRight : Cond.selects yX2_changeRight.cls yX2_changeRight yX2_changeRight ∈ uw := uw_in (i := 289) (by decide +kernel) (by decide +kernel)
theorem ws_X0_holders : Cond.selects yX0_holders.cls yX0_holders yX0_holders ∈ uw := uw_in (i := 293) (by decide +kernel) (by decide +kernel)
theorem ws_X6_cut : Cond.selects yX6_cut.cls yX6_cut yX6_cut ∈ uw := uw_in (i := 297) (by decide +kernel) (by decide +kernel)
theorem ws_X2_cutTurfs : Cond.selects yX2_cutTurfs.cls yX2_cutTurfs yX2_cutTurfs ∈ uw := uw_in (i := 301) (by decide +kernel) (by decide +kernel)
theorem ws_X2_shareOf : Cond.selects yX2_shareOf.cls yX2_shareOf yX2_shareOf ∈ uw := uw_in (i := 305) (by decide +kernel) (by decide +kernel)
theorem ws_X2_spadesAt : Cond.selects yX2_spadesAt.cls yX2_spadesAt yX2_spadesAt ∈ uw := uw_in (i := 309) (by decide +kernel) (by decide +kernel)
theorem ws_X6_turn : Cond.selects yX6_turn.cls yX6_turn yX6_turn ∈ uw := uw_in (i := 314) (by decide +kernel) (by decide +kernel)
theorem ws_X2_turnStack : Cond.selects yX2_turnStack.cls yX2_turnStack yX2_turnStack ∈ uw := uw_in (i := 318) (by decide +kernel) (by decide +kernel)
theorem ws_X2_hasStack : Cond.selects yX2_hasStack.cls yX2_hasStack yX2_hasStack ∈ uw := uw_in (i := 322) (by decide +kernel) (by decide +kernel)
theorem ws_X6_join : Cond.selects yX6_join.cls yX6_join yX6_join ∈ uw := uw_in (i := 326) (by decide +kernel) (by decide +kernel)
theorem ws_X2_joinStacks : Cond.selects yX2_joinStacks.cls yX2_joinStacks yX2_joinStacks ∈ uw := uw_in (i := 330) (by decide +kernel) (by decide +kernel)
theorem ws_X5_takeAllOf : Cond.selects yX5_takeAllOf.cls yX5_takeAllOf yX5_takeAllOf ∈ uw := uw_in (i := 334) (by decide +kernel) (by decide +kernel)
theorem ws_X2_removeStack : Cond.selects yX2_removeStack.cls yX2_removeStack yX2_removeStack ∈ uw := uw_in (i := 341) (by decide +kernel) (by decide +kernel)
theorem ws_X6_cart : Cond.selects yX6_cart.cls yX6_cart yX6_cart ∈ uw := uw_in (i := 345) (by decide +kernel) (by decide +kernel)
theorem ws_X2_cartTurfs : Cond.selects yX2_cartTurfs.cls yX2_cartTurfs yX2_cartTurfs ∈ uw := uw_in (i := 349) (by decide +kernel) (by decide +kernel)
theorem ws_X5_loadOf : Cond.selects yX5_loadOf.cls yX5_loadOf yX5_loadOf ∈ uw := uw_in (i := 353) (by decide +kernel) (by decide +kernel)
theorem ws_X5_turfWeight : Cond.selects yX5_turfWeight.cls yX5_turfWeight yX5_turfWeight ∈ uw := uw_in (i := 357) (by decide +kernel) (by decide +kernel)
theorem ws_X2_bearingToday : Cond.selects yX2_bearingToday.cls yX2_bearingToday yX2_bearingToday ∈ uw := uw_in (i := 361) (by decide +kernel) (by decide +kernel)
theorem ws_X0_bearing : Cond.selects yX0_bearing.cls yX0_bearing yX0_bearing ∈ uw := uw_in (i := 365) (by decide +kernel) (by decide +kernel)
theorem ws_X5_isDry : Cond.selects yX5_isDry.cls yX5_isDry yX5_isDry ∈ uw := uw_in (i := 372) (by decide +kernel) (by decide +kernel)
theorem ws_X6_repair : Cond.selects yX6_repair.cls yX6_repair yX6_repair ∈ uw := uw_in (i := 379) (by decide +kernel) (by decide +kernel)
theorem ws_X2_repairRoad : Cond.selects yX2_repairRoad.cls yX2_repairRoad yX2_repairRoad ∈ uw := uw_in (i := 383) (by decide +kernel) (by decide +kernel)
theorem ws_X6_day : Cond.selects yX6_day.cls yX6_day yX6_day ∈ uw := uw_in (i := 387) (by decide +kernel) (by decide +kernel)
theorem ws_X2_passDay : Cond.selects yX2_passDay.cls yX2_passDay yX2_passDay ∈ uw := uw_in (i := 391) (by decide +kernel) (by decide +kernel)
theorem ws_X5_wetnessAfterDay : Cond.selects yX5_wetnessAfterDay.cls yX5_wetnessAfterDay yX5_wetnessAfterDay ∈ uw := uw_in (i := 395) (by decide +kernel) (by decide +kernel)
theorem ws_X2_dryStacks : Cond.selects yX2_dryStacks.cls yX2_dryStacks yX2_dryStacks ∈ uw := uw_in (i := 401) (by decide +kernel) (by decide +kernel)
theorem ws_X6_endYear : Cond.selects yX6_endYear.cls yX6_endYear yX6_endYear ∈ uw := uw_in (i := 405) (by decide +kernel) (by decide +kernel)
theorem ws_X2_closeYear : Cond.selects yX2_closeYear.cls yX2_closeYear yX2_closeYear ∈ uw := uw_in (i := 409) (by decide +kernel) (by decide +kernel)
theorem ws_X0_forgetYear : Cond.selects yX0_forgetYear.cls yX0_forgetYear yX0_forgetYear ∈ uw := uw_in (i := 413) (by decide +kernel) (by decide +kernel)
theorem ws_X6_take : Cond.selects yX6_take.cls yX6_take yX6_take ∈ uw := uw_in (i := 417) (by decide +kernel) (by decide +kernel)
theorem ws_X4_takeSnapshot : Cond.selects yX4_takeSnapshot.cls yX4_takeSnapshot yX4_takeSnapshot ∈ uw := uw_in (i := 421) (by decide +kernel) (by decide +kernel)
theorem ws_X6_restore : Cond.selects yX6_restore.cls yX6_restore yX6_restore ∈ uw := uw_in (i := 426) (by decide +kernel) (by decide +kernel)
theorem ws_X4_restoreSnapshot : Cond.selects yX4_restoreSnapshot.cls yX4_restoreSnapshot yX4_restoreSnapshot ∈ uw := uw_in (i := 430) (by decide +kernel) (by decide +kernel)
theorem ws_X6_undo : Cond.selects yX6_undo.cls yX6_undo yX6_undo ∈ uw := uw_in (i := 434) (by decide +kernel) (by decide +kernel)
theorem ws_X6_append : Cond.selects yX6_append.cls yX6_append yX6_append ∈ uw := uw_in (i := 438) (by decide +kernel) (by decide +kernel)
theorem ws_X3_addCharacter : Cond.selects yX3_addCharacter.cls yX3_addCharacter yX3_addCharacter ∈ uw := uw_in (i := 442) (by decide +kernel) (by decide +kernel)
theorem ws_X6_clearText : Cond.selects yX6_clearText.cls yX6_clearText yX6_clearText ∈ uw := uw_in (i := 447) (by decide +kernel) (by decide +kernel)
theorem ws_X3_clearCharacters : Cond.selects yX3_clearCharacters.cls yX3_clearCharacters yX3_clearCharacters ∈ uw := uw_in (i := 451) (by decide +kernel) (by decide +kernel)
theorem ws_X6_run : Cond.selects yX6_run.cls yX6_run yX6_run ∈ uw := uw_in (i := 455) (by decide +kernel) (by decide +kernel)
theorem ws_X3_runOn : Cond.selects yX3_runOn.cls yX3_runOn yX3_runOn ∈ uw := uw_in (i := 459) (by decide +kernel) (by decide +kernel)
theorem ws_X3_readToken : Cond.selects yX3_readToken.cls yX3_readToken yX3_readToken ∈ uw := uw_in (i := 463) (by decide +kernel) (by decide +kernel)
theorem ws_X3_runCommand : Cond.selects yX3_runCommand.cls yX3_runCommand yX3_runCommand ∈ uw := uw_in (i := 470) (by decide +kernel) (by decide +kernel)
theorem ws_X3_commandOfToken : Cond.selects yX3_commandOfToken.cls yX3_commandOfToken yX3_commandOfToken ∈ uw := uw_in (i := 474) (by decide +kernel) (by decide +kernel)
theorem ws_X3_isToken : Cond.selects yX3_isToken.cls yX3_isToken yX3_isToken ∈ uw := uw_in (i := 479) (by decide +kernel) (by decide +kernel)
theorem ws_J0_length_8abf5 : Cond.selects yJ0_length_8abf5.cls yJ0_length_8abf5 yJ0_length_8abf5 ∈ uw := uw_in (i := 483) (by decide +kernel) (by decide +kernel)
theorem ws_J0_coder_7d493 : Cond.selects yJ0_coder_7d493.cls yJ0_coder_7d493 yJ0_coder_7d493 ∈ uw := uw_in (i := 487) (by decide +kernel) (by decide +kernel)
theorem ws_J0_charAt_5068e : Cond.selects yJ0_charAt_5068e.cls yJ0_charAt_5068e yJ0_charAt_5068e ∈ uw := uw_in (i := 493) (by decide +kernel) (by decide +kernel)
theorem ws_J0_isLatin1_aae02 : Cond.selects yJ0_isLatin1_aae02.cls yJ0_isLatin1_aae02 yJ0_isLatin1_aae02 ∈ uw := uw_in (i := 497) (by decide +kernel) (by decide +kernel)
theorem ws_X3_isNumber : Cond.selects yX3_isNumber.cls yX3_isNumber yX3_isNumber ∈ uw := uw_in (i := 540) (by decide +kernel) (by decide +kernel)
theorem ws_X3_valueOfToken : Cond.selects yX3_valueOfToken.cls yX3_valueOfToken yX3_valueOfToken ∈ uw := uw_in (i := 544) (by decide +kernel) (by decide +kernel)
theorem ws_X3_perform : Cond.selects yX3_perform.cls yX3_perform yX3_perform ∈ uw := uw_in (i := 549) (by decide +kernel) (by decide +kernel)
theorem ws_X6_count : Cond.selects yX6_count.cls yX6_count yX6_count ∈ uw := uw_in (i := 561) (by decide +kernel) (by decide +kernel)
theorem ws_X4_snapshots : Cond.selects yX4_snapshots.cls yX4_snapshots yX4_snapshots ∈ uw := uw_in (i := 566) (by decide +kernel) (by decide +kernel)
theorem ws_X6_household : Cond.selects yX6_household.cls yX6_household yX6_household ∈ uw := uw_in (i := 570) (by decide +kernel) (by decide +kernel)
theorem ws_X2_householdProperty : Cond.selects yX2_householdProperty.cls yX2_householdProperty yX2_householdProperty ∈ uw := uw_in (i := 574) (by decide +kernel) (by decide +kernel)
theorem ws_X2_rightsOf : Cond.selects yX2_rightsOf.cls yX2_rightsOf yX2_rightsOf ∈ uw := uw_in (i := 578) (by decide +kernel) (by decide +kernel)
theorem ws_X2_stacksOf : Cond.selects yX2_stacksOf.cls yX2_stacksOf yX2_stacksOf ∈ uw := uw_in (i := 582) (by decide +kernel) (by decide +kernel)
theorem ws_X2_turfsInStacksOf : Cond.selects yX2_turfsInStacksOf.cls yX2_turfsInStacksOf yX2_turfsInStacksOf ∈ uw := uw_in (i := 586) (by decide +kernel) (by decide +kernel)
theorem ws_X6_bank : Cond.selects yX6_bank.cls yX6_bank yX6_bank ∈ uw := uw_in (i := 590) (by decide +kernel) (by decide +kernel)
theorem ws_X2_bankProperty : Cond.selects yX2_bankProperty.cls yX2_bankProperty yX2_bankProperty ∈ uw := uw_in (i := 594) (by decide +kernel) (by decide +kernel)
theorem ws_X0_holdersAsBits : Cond.selects yX0_holdersAsBits.cls yX0_holdersAsBits yX0_holdersAsBits ∈ uw := uw_in (i := 598) (by decide +kernel) (by decide +kernel)
theorem ws_X2_turfsInStacksAt : Cond.selects yX2_turfsInStacksAt.cls yX2_turfsInStacksAt yX2_turfsInStacksAt ∈ uw := uw_in (i := 602) (by decide +kernel) (by decide +kernel)
theorem ws_X6_right : Cond.selects yX6_right.cls yX6_right yX6_right ∈ uw := uw_in (i := 606) (by decide +kernel) (by decide +kernel)
theorem ws_X2_rightPart : Cond.selects yX2_rightPart.cls yX2_rightPart yX2_rightPart ∈ uw := uw_in (i := 610) (by decide +kernel) (by decide +kernel)
theorem ws_X2_stillToCut : Cond.selects yX2_stillToCut.cls yX2_stillToCut yX2_stillToCut ∈ uw := uw_in (i := 614) (by decide +kernel) (by decide +kernel)
theorem ws_X6_stack : Cond.selects yX6_stack.cls yX6_stack yX6_stack ∈ uw := uw_in (i := 619) (by decide +kernel) (by decide +kernel)
theorem ws_X2_stackProperty : Cond.selects yX2_stackProperty.cls yX2_stackProperty yX2_stackProperty ∈ uw := uw_in (i := 623) (by decide +kernel) (by decide +kernel)
theorem ws_X6_dryIn : Cond.selects yX6_dryIn.cls yX6_dryIn yX6_dryIn ∈ uw := uw_in (i := 628) (by decide +kernel) (by decide +kernel)
theorem ws_X2_daysUntilDry : Cond.selects yX2_daysUntilDry.cls yX2_daysUntilDry yX2_daysUntilDry ∈ uw := uw_in (i := 632) (by decide +kernel) (by decide +kernel)
theorem ws_X6_cartLoad : Cond.selects yX6_cartLoad.cls yX6_cartLoad yX6_cartLoad ∈ uw := uw_in (i := 636) (by decide +kernel) (by decide +kernel)
theorem ws_X2_greatestCartOf : Cond.selects yX2_greatestCartOf.cls yX2_greatestCartOf yX2_greatestCartOf ∈ uw := uw_in (i := 640) (by decide +kernel) (by decide +kernel)
theorem ws_X5_greatestCart : Cond.selects yX5_greatestCart.cls yX5_greatestCart yX5_greatestCart ∈ uw := uw_in (i := 644) (by decide +kernel) (by decide +kernel)
theorem ws_X6_carts : Cond.selects yX6_carts.cls yX6_carts yX6_carts ∈ uw := uw_in (i := 648) (by decide +kernel) (by decide +kernel)
theorem ws_X2_cartsNeeded : Cond.selects yX2_cartsNeeded.cls yX2_cartsNeeded yX2_cartsNeeded ∈ uw := uw_in (i := 652) (by decide +kernel) (by decide +kernel)
theorem ws_X6_worth : Cond.selects yX6_worth.cls yX6_worth yX6_worth ∈ uw := uw_in (i := 656) (by decide +kernel) (by decide +kernel)
theorem ws_X2_worthOfShed : Cond.selects yX2_worthOfShed.cls yX2_worthOfShed yX2_worthOfShed ∈ uw := uw_in (i := 660) (by decide +kernel) (by decide +kernel)
theorem ws_X6_nextToCut : Cond.selects yX6_nextToCut.cls yX6_nextToCut yX6_nextToCut ∈ uw := uw_in (i := 666) (by decide +kernel) (by decide +kernel)
theorem ws_X2_mostToCut : Cond.selects yX2_mostToCut.cls yX2_mostToCut yX2_mostToCut ∈ uw := uw_in (i := 670) (by decide +kernel) (by decide +kernel)
theorem ws_X7_come : Cond.selects yX7_come.cls yX7_come yX7_come ∈ uw := uw_in (i := 717) (by decide +kernel) (by decide +kernel)
theorem ws_X7_setSpades : Cond.selects yX7_setSpades.cls yX7_setSpades yX7_setSpades ∈ uw := uw_in (i := 728) (by decide +kernel) (by decide +kernel)
theorem ws_X7_addBank : Cond.selects yX7_addBank.cls yX7_addBank yX7_addBank ∈ uw := uw_in (i := 740) (by decide +kernel) (by decide +kernel)
theorem ws_X7_setAllowance : Cond.selects yX7_setAllowance.cls yX7_setAllowance yX7_setAllowance ∈ uw := uw_in (i := 744) (by decide +kernel) (by decide +kernel)
theorem ws_X7_grant : Cond.selects yX7_grant.cls yX7_grant yX7_grant ∈ uw := uw_in (i := 756) (by decide +kernel) (by decide +kernel)
theorem ws_X7_cut : Cond.selects yX7_cut.cls yX7_cut yX7_cut ∈ uw := uw_in (i := 763) (by decide +kernel) (by decide +kernel)
theorem ws_X7_turn : Cond.selects yX7_turn.cls yX7_turn yX7_turn ∈ uw := uw_in (i := 784) (by decide +kernel) (by decide +kernel)
theorem ws_X7_join : Cond.selects yX7_join.cls yX7_join yX7_join ∈ uw := uw_in (i := 796) (by decide +kernel) (by decide +kernel)
theorem ws_X7_cart : Cond.selects yX7_cart.cls yX7_cart yX7_cart ∈ uw := uw_in (i := 804) (by decide +kernel) (by decide +kernel)
theorem ws_X7_repair : Cond.selects yX7_repair.cls yX7_repair yX7_repair ∈ uw := uw_in (i := 824) (by decide +kernel) (by decide +kernel)
theorem ws_X7_day : Cond.selects yX7_day.cls yX7_day yX7_day ∈ uw := uw_in (i := 828) (by decide +kernel) (by decide +kernel)
theorem ws_X7_endYear : Cond.selects yX7_endYear.cls yX7_endYear yX7_endYear ∈ uw := uw_in (i := 839) (by decide +kernel) (by decide +kernel)
theorem ws_X7_take : Cond.selects yX7_take.cls yX7_take yX7_take ∈ uw := uw_in (i := 843) (by decide +kernel) (by decide +kernel)
theorem ws_X7_restore : Cond.selects yX7_restore.cls yX7_restore yX7_restore ∈ uw := uw_in (i := 847) (by decide +kernel) (by decide +kernel)
theorem ws_X7_undo : Cond.selects yX7_undo.cls yX7_undo yX7_undo ∈ uw := uw_in (i := 851) (by decide +kernel) (by decide +kernel)
theorem ws_X7_append : Cond.selects yX7_append.cls yX7_append yX7_append ∈ uw := uw_in (i := 855) (by decide +kernel) (by decide +kernel)
theorem ws_X7_clearText : Cond.selects yX7_clearText.cls yX7_clearText yX7_clearText ∈ uw := uw_in (i := 859) (by decide +kernel) (by decide +kernel)
theorem ws_X7_run : Cond.selects yX7_run.cls yX7_run yX7_run ∈ uw := uw_in (i := 863) (by decide +kernel) (by decide +kernel)
theorem ws_X7_count : Cond.selects yX7_count.cls yX7_count yX7_count ∈ uw := uw_in (i := 905) (by decide +kernel) (by decide +kernel)
theorem ws_X7_household : Cond.selects yX7_household.cls yX7_household yX7_household ∈ uw := uw_in (i := 909) (by decide +kernel) (by decide +kernel)
theorem ws_X7_bank : Cond.selects yX7_bank.cls yX7_bank yX7_bank ∈ uw := uw_in (i := 921) (by decide +kernel) (by decide +kernel)
theorem ws_X7_right : Cond.selects yX7_right.cls yX7_right yX7_right ∈ uw := uw_in (i := 929) (by decide +kernel) (by decide +kernel)
theorem ws_X7_stack : Cond.selects yX7_stack.cls yX7_stack yX7_stack ∈ uw := uw_in (i := 933) (by decide +kernel) (by decide +kernel)
theorem ws_X7_dryIn : Cond.selects yX7_dryIn.cls yX7_dryIn yX7_dryIn ∈ uw := uw_in (i := 937) (by decide +kernel) (by decide +kernel)
theorem ws_X7_cartLoad : Cond.selects yX7_cartLoad.cls yX7_cartLoad yX7_cartLoad ∈ uw := uw_in (i := 941) (by decide +kernel) (by decide +kernel)
theorem ws_X7_carts : Cond.selects yX7_carts.cls yX7_carts yX7_carts ∈ uw := uw_in (i := 949) (by decide +kernel) (by decide +kernel)
theorem ws_X7_worth : Cond.selects yX7_worth.cls yX7_worth yX7_worth ∈ uw := uw_in (i := 953) (by decide +kernel) (by decide +kernel)
theorem ws_X7_nextToCut : Cond.selects yX7_nextToCut.cls yX7_nextToCut yX7_nextToCut ∈ uw := uw_in (i := 959) (by decide +kernel) (by decide +kernel)
theorem ws_X6_recorded : Cond.selects yX6_recorded.cls yX6_recorded yX6_recorded ∈ uw := uw_sel (i := 0) (by decide +kernel) (by decide +kernel)
theorem ws_X6_dropOldestState : Cond.selects yX6_dropOldestState.cls yX6_dropOldestState yX6_dropOldestState ∈ uw := uw_sel (i := 1) (by decide +kernel) (by decide +kernel)
theorem ws_X7_acts : Cond.selects yX7_acts.cls yX7_acts yX7_acts ∈ uw := uw_sel (i := 2) (by decide +kernel) (by decide +kernel)
theorem ws_X7_isHouse : Cond.selects yX7_isHouse.cls yX7_isHouse yX7_isHouse ∈ uw := uw_sel (i := 3) (by decide +kernel) (by decide +kernel)
theorem ws_X7_inHouse : Cond.selects yX7_inHouse.cls yX7_inHouse yX7_inHouse ∈ uw := uw_sel (i := 4) (by decide +kernel) (by decide +kernel)
theorem ws_X7_isBank : Cond.selects yX7_isBank.cls yX7_isBank yX7_isBank ∈ uw := uw_sel (i := 5) (by decide +kernel) (by decide +kernel)
theorem ws_X7_inBank : Cond.selects yX7_inBank.cls yX7_inBank yX7_inBank ∈ uw := uw_sel (i := 6) (by decide +kernel) (by decide +kernel)
theorem ws_X7_mayCut : Cond.selects yX7_mayCut.cls yX7_mayCut yX7_mayCut ∈ uw := uw_sel (i := 7) (by decide +kernel) (by decide +kernel)
theorem ws_X7_shareOf : Cond.selects yX7_shareOf.cls yX7_shareOf yX7_shareOf ∈ uw := uw_sel (i := 8) (by decide +kernel) (by decide +kernel)
theorem ws_X7_spadesOf : Cond.selects yX7_spadesOf.cls yX7_spadesOf yX7_spadesOf ∈ uw := uw_sel (i := 9) (by decide +kernel) (by decide +kernel)
theorem ws_X7_hasRight : Cond.selects yX7_hasRight.cls yX7_hasRight yX7_hasRight ∈ uw := uw_sel (i := 10) (by decide +kernel) (by decide +kernel)
theorem ws_X7_isStack : Cond.selects yX7_isStack.cls yX7_isStack yX7_isStack ∈ uw := uw_sel (i := 11) (by decide +kernel) (by decide +kernel)
theorem ws_X7_inStack : Cond.selects yX7_inStack.cls yX7_inStack yX7_inStack ∈ uw := uw_sel (i := 12) (by decide +kernel) (by decide +kernel)
theorem ws_X7_goes : Cond.selects yX7_goes.cls yX7_goes yX7_goes ∈ uw := uw_sel (i := 13) (by decide +kernel) (by decide +kernel)
theorem ws_X7_load : Cond.selects yX7_load.cls yX7_load yX7_load ∈ uw := uw_sel (i := 14) (by decide +kernel) (by decide +kernel)
theorem ws_X7_weight : Cond.selects yX7_weight.cls yX7_weight yX7_weight ∈ uw := uw_sel (i := 15) (by decide +kernel) (by decide +kernel)
theorem ws_X7_bears : Cond.selects yX7_bears.cls yX7_bears yX7_bears ∈ uw := uw_sel (i := 16) (by decide +kernel) (by decide +kernel)
theorem ws_X7_isDry : Cond.selects yX7_isDry.cls yX7_isDry yX7_isDry ∈ uw := uw_sel (i := 17) (by decide +kernel) (by decide +kernel)
theorem ws_X7_dryStacks : Cond.selects yX7_dryStacks.cls yX7_dryStacks yX7_dryStacks ∈ uw := uw_sel (i := 18) (by decide +kernel) (by decide +kernel)
theorem ws_X7_readsAll : Cond.selects yX7_readsAll.cls yX7_readsAll yX7_readsAll ∈ uw := uw_sel (i := 19) (by decide +kernel) (by decide +kernel)
theorem ws_X7_token : Cond.selects yX7_token.cls yX7_token yX7_token ∈ uw := uw_sel (i := 20) (by decide +kernel) (by decide +kernel)
theorem ws_X7_readsOne : Cond.selects yX7_readsOne.cls yX7_readsOne yX7_readsOne ∈ uw := uw_sel (i := 21) (by decide +kernel) (by decide +kernel)
theorem ws_X7_command : Cond.selects yX7_command.cls yX7_command yX7_command ∈ uw := uw_sel (i := 22) (by decide +kernel) (by decide +kernel)
theorem ws_X7_isWord : Cond.selects yX7_isWord.cls yX7_isWord yX7_isWord ∈ uw := uw_sel (i := 23) (by decide +kernel) (by decide +kernel)
theorem ws_X7_isNumber : Cond.selects yX7_isNumber.cls yX7_isNumber yX7_isNumber ∈ uw := uw_sel (i := 24) (by decide +kernel) (by decide +kernel)
theorem ws_X7_does : Cond.selects yX7_does.cls yX7_does yX7_does ∈ uw := uw_sel (i := 25) (by decide +kernel) (by decide +kernel)
theorem ws_X7_banksOf : Cond.selects yX7_banksOf.cls yX7_banksOf yX7_banksOf ∈ uw := uw_sel (i := 26) (by decide +kernel) (by decide +kernel)
theorem ws_X7_stacksOf : Cond.selects yX7_stacksOf.cls yX7_stacksOf yX7_stacksOf ∈ uw := uw_sel (i := 27) (by decide +kernel) (by decide +kernel)
theorem ws_X7_turfsAt : Cond.selects yX7_turfsAt.cls yX7_turfsAt yX7_turfsAt ∈ uw := uw_sel (i := 28) (by decide +kernel) (by decide +kernel)
theorem ws_X7_most : Cond.selects yX7_most.cls yX7_most yX7_most ∈ uw := uw_sel (i := 29) (by decide +kernel) (by decide +kernel)
theorem wv_L_9 : pWI RL 9 yX6_init cX6_init 2 0 := ⟨⟨uw_in (i := 16) (by decide +kernel) (by decide +kernel), wi_X6, wc_X6_init, by decide +kernel⟩, rfl, wn_X6_init⟩
theorem wm_X6_1 : Cond.methodLink RX6 1 objectInit ∈ uw := uw_in (i := 19) (by decide +kernel) (by decide +kernel)
theorem wv_X6_9 : pWI RX6 9 yX4_init cX4_init 2 0 := ⟨⟨uw_in (i := 24) (by decide +kernel) (by decide +kernel), wi_X4, wc_X4_init, by decide +kernel⟩, rfl, wn_X4_init⟩
theorem wm_X4_3 : Cond.methodLink RX4 3 objectInit ∈ uw := uw_in (i := 27) (by decide +kernel) (by decide +kernel)
theorem wv_X4_11 : pWI RX4 11 yX2_init cX2_init 2 0 := ⟨⟨uw_in (i := 30) (by decide +kernel) (by decide +kernel), wi_X2, wc_X2_init, by decide +kernel⟩, rfl, wn_X2_init⟩
theorem wm_X2_3 : Cond.methodLink RX2 3 objectInit ∈ uw := uw_in (i := 33) (by decide +kernel) (by decide +kernel)
theorem wm_X1_1 : Cond.methodLink RX1 1 objectInit ∈ uw := uw_in (i := 44) (by decide +kernel) (by decide +kernel)
theorem wm_X0_3 : Cond.methodLink RX0 3 objectInit ∈ uw := uw_in (i := 62) (by decide +kernel) (by decide +kernel)
theorem wm_X5_3 : Cond.methodLink RX5 3 objectInit ∈ uw := uw_in (i := 102) (by decide +kernel) (by decide +kernel)
theorem wm_X3_3 : Cond.methodLink RX3 3 objectInit ∈ uw := uw_in (i := 177) (by decide +kernel) (by decide +kernel)
theorem wv_L_13 : pWV RL 13 yX6_come cX6_come 2 (some .int) 1 := ⟨⟨uw_in (i := 212) (by decide +kernel) (by decide +kernel), wi_X6, wc_X6_come, by decide +kernel⟩, wn_X6_come, ws_X6_come⟩
theorem wv_X6_34 : pWV RX6 34 yX4_copyFrom cX4_copyFrom 3 none 1 := ⟨⟨uw_in (i := 216) (by decide +kernel) (by decide +kernel), wi_X4, wc_X4_copyFrom, by decide +kernel⟩, wn_X4_copyFrom, ws_X4_copyFrom⟩
theorem wv_X4_26 : pWV RX4 26 yX2_copyFrom cX2_copyFrom 3 none 1 := ⟨⟨uw_in (i := 220) (by decide +kernel) (by decide +kernel), wi_X2, wc_X2_copyFrom, by decide +kernel⟩, wn_X2_copyFrom, ws_X2_copyFrom⟩
theorem wv_X2_51 : pWV RX2 51 yX1_copyFrom cX1_copyFrom 2 none 1 := ⟨⟨uw_in (i := 224) (by decide +kernel) (by decide +kernel), wi_X1, wc_X1_copyFrom, by decide +kernel⟩, wn_X1_copyFrom, ws_X1_copyFrom⟩
theorem wv_X2_55 : pWV RX2 55 yX0_copyFrom cX0_copyFrom 3 none 1 := ⟨⟨uw_in (i := 228) (by decide +kernel) (by decide +kernel), wi_X0, wc_X0_copyFrom, by decide +kernel⟩, wn_X0_copyFrom, ws_X0_copyFrom⟩
theorem wv_X2_58 : pWV RX2 58 yX5_copyFrom cX5_copyFrom 2 none 1 := ⟨⟨uw_in (i := 232) (by decide +kernel) (by decide +kernel), wi_X5, wc_X5_copyFrom, by decide +kernel⟩, wn_X5_copyFrom, ws_X5_copyFrom⟩
theorem wv_X6_42 : pWV RX6 42 yX2_addHousehold cX2_addHousehold 2 (some .int) 1 := ⟨⟨uw_in (i := 236) (by decide +kernel) (by decide +kernel), wi_X2, wc_X2_addHousehold, by decide +kernel⟩, wn_X2_addHousehold, ws_X2_addHousehold⟩
theorem wv_X6_48 : pWV RX6 48 yX6_recorded cX6_recorded 3 (some .int) 1 := ⟨⟨uw_in (i := 243) (by decide +kernel) (by decide +kernel), wi_X6, wc_X6_recorded, by decide +kernel⟩, wn_X6_recorded, ws_X6_recorded⟩
theorem wv_X6_157 : pWV RX6 157 yX6_dropOldestState cX6_dropOldestState 3 none 0 := ⟨⟨uw_in (i := 247) (by decide +kernel) (by decide +kernel), wi_X6, wc_X6_dropOldestState, by decide +kernel⟩, wn_X6_dropOldestState, ws_X6_dropOldestState⟩
theorem wv_L_18 : pWV RL 18 yX6_setSpades cX6_setSpades 3 (some .int) 2 := ⟨⟨uw_in (i := 251) (by decide +kernel) (by decide +kernel), wi_X6, wc_X6_setSpades, by decide +kernel⟩, wn_X6_setSpades, ws_X6_setSpades⟩
theorem wv_X6_51 : pWV RX6 51 yX2_changeSpades cX2_changeSpades 4 (some .int) 2 := ⟨⟨uw_in (i := 255) (by decide +kernel) (by decide +kernel), wi_X2, wc_X2_changeSpades, by decide +kernel⟩, wn_X2_changeSpades, ws_X2_changeSpades⟩
theorem wv_X2_68 : pWV RX2 68 yX2_hasHousehold cX2_hasHousehold 2 (some .boolean) 1 := ⟨⟨uw_in (i := 259) (by decide +kernel) (by decide +kernel), wi_X2, wc_X2_hasHousehold, by decide +kernel⟩, wn_X2_hasHousehold, ws_X2_hasHousehold⟩
theorem wv_L_23 : pWV RL 23 yX6_addBank cX6_addBank 3 (some .int) 2 := ⟨⟨uw_in (i := 263) (by decide +kernel) (by decide +kernel), wi_X6, wc_X6_addBank, by decide +kernel⟩, wn_X6_addBank, ws_X6_addBank⟩
theorem wv_X6_55 : pWV RX6 55 yX2_openBank cX2_openBank 3 (some .int) 2 := ⟨⟨uw_in (i := 267) (by decide +kernel) (by decide +kernel), wi_X2, wc_X2_openBank, by decide +kernel⟩, wn_X2_openBank, ws_X2_openBank⟩
theorem wv_L_27 : pWV RL 27 yX6_setAllowance cX6_setAllowance 3 (some .int) 2 := ⟨⟨uw_in (i := 271) (by decide +kernel) (by decide +kernel), wi_X6, wc_X6_setAllowance, by decide +kernel⟩, wn_X6_setAllowance, ws_X6_setAllowance⟩
theorem wv_X6_58 : pWV RX6 58 yX2_changeAllowance cX2_changeAllowance 4 (some .int) 2 := ⟨⟨uw_in (i := 275) (by decide +kernel) (by decide +kernel), wi_X2, wc_X2_changeAllowance, by decide +kernel⟩, wn_X2_changeAllowance, ws_X2_changeAllowance⟩
theorem wv_X2_78 : pWV RX2 78 yX2_hasBank cX2_hasBank 2 (some .boolean) 1 := ⟨⟨uw_in (i := 279) (by decide +kernel) (by decide +kernel), wi_X2, wc_X2_hasBank, by decide +kernel⟩, wn_X2_hasBank, ws_X2_hasBank⟩
theorem wv_L_31 : pWV RL 31 yX6_grant cX6_grant 4 (some .int) 3 := ⟨⟨uw_in (i := 283) (by decide +kernel) (by decide +kernel), wi_X6, wc_X6_grant, by decide +kernel⟩, wn_X6_grant, ws_X6_grant⟩
theorem wv_X6_61 : pWV RX6 61 yX2_changeRight cX2_changeRight 4 (some .int) 3 := ⟨⟨uw_in (i := 287) (by decide +kernel) (by decide +kernel), wi_X2, wc_X2_changeRight, by decide +kernel⟩, wn_X2_changeRight, ws_X2_changeRight⟩
theorem wv_X2_85 : pWV RX2 85 yX0_holders cX0_holders 3 (some .int) 0 := ⟨⟨uw_in (i := 291) (by decide +kernel) (by decide +kernel), wi_X0, wc_X0_holders, by decide +kernel⟩, wn_X0_holders, ws_X0_holders⟩
theorem wv_L_36 : pWV RL 36 yX6_cut cX6_cut 4 (some .int) 3 := ⟨⟨uw_in (i := 295) (by decide +kernel) (by decide +kernel), wi_X6, wc_X6_cut, by decide +kernel⟩, wn_X6_cut, ws_X6_cut⟩
theorem wv_X6_65 : pWV RX6 65 yX2_cutTurfs cX2_cutTurfs 6 (some .int) 3 := ⟨⟨uw_in (i := 299) (by decide +kernel) (by decide +kernel), wi_X2, wc_X2_cutTurfs, by decide +kernel⟩, wn_X2_cutTurfs, ws_X2_cutTurfs⟩
theorem wv_X2_93 : pWV RX2 93 yX2_shareOf cX2_shareOf 7 (some .int) 2 := ⟨⟨uw_in (i := 303) (by decide +kernel) (by decide +kernel), wi_X2, wc_X2_shareOf, by decide +kernel⟩, wn_X2_shareOf, ws_X2_shareOf⟩
theorem wv_X2_89 : pWV RX2 89 yX2_spadesAt cX2_spadesAt 4 (some .int) 1 := ⟨⟨uw_in (i := 307) (by decide +kernel) (by decide +kernel), wi_X2, wc_X2_spadesAt, by decide +kernel⟩, wn_X2_spadesAt, ws_X2_spadesAt⟩
theorem wv_L_40 : pWV RL 40 yX6_turn cX6_turn 2 (some .int) 1 := ⟨⟨uw_in (i := 312) (by decide +kernel) (by decide +kernel), wi_X6, wc_X6_turn, by decide +kernel⟩, wn_X6_turn, ws_X6_turn⟩
theorem wv_X6_68 : pWV RX6 68 yX2_turnStack cX2_turnStack 3 (some .int) 1 := ⟨⟨uw_in (i := 316) (by decide +kernel) (by decide +kernel), wi_X2, wc_X2_turnStack, by decide +kernel⟩, wn_X2_turnStack, ws_X2_turnStack⟩
theorem wv_X2_129 : pWV RX2 129 yX2_hasStack cX2_hasStack 2 (some .boolean) 1 := ⟨⟨uw_in (i := 320) (by decide +kernel) (by decide +kernel), wi_X2, wc_X2_hasStack, by decide +kernel⟩, wn_X2_hasStack, ws_X2_hasStack⟩
theorem wv_L_44 : pWV RL 44 yX6_join cX6_join 3 (some .int) 2 := ⟨⟨uw_in (i := 324) (by decide +kernel) (by decide +kernel), wi_X6, wc_X6_join, by decide +kernel⟩, wn_X6_join, ws_X6_join⟩
theorem wv_X6_71 : pWV RX6 71 yX2_joinStacks cX2_joinStacks 5 (some .int) 2 := ⟨⟨uw_in (i := 328) (by decide +kernel) (by decide +kernel), wi_X2, wc_X2_joinStacks, by decide +kernel⟩, wn_X2_joinStacks, ws_X2_joinStacks⟩
theorem wv_X2_132 : pWV RX2 132 yX5_takeAllOf cX5_takeAllOf 5 none 1 := ⟨⟨uw_in (i := 332) (by decide +kernel) (by decide +kernel), wi_X5, wc_X5_takeAllOf, by decide +kernel⟩, wn_X5_takeAllOf, ws_X5_takeAllOf⟩
theorem wm_X5_31 : Cond.methodLink RX5 31 Lib.Math.min.name ∈ uw := uw_in (i := 336) (by decide +kernel) (by decide +kernel)
theorem wv_X2_135 : pWV RX2 135 yX2_removeStack cX2_removeStack 4 none 1 := ⟨⟨uw_in (i := 339) (by decide +kernel) (by decide +kernel), wi_X2, wc_X2_removeStack, by decide +kernel⟩, wn_X2_removeStack, ws_X2_removeStack⟩
theorem wv_L_48 : pWV RL 48 yX6_cart cX6_cart 3 (some .int) 2 := ⟨⟨uw_in (i := 343) (by decide +kernel) (by decide +kernel), wi_X6, wc_X6_cart, by decide +kernel⟩, wn_X6_cart, ws_X6_cart⟩
theorem wv_X6_74 : pWV RX6 74 yX2_cartTurfs cX2_cartTurfs 7 (some .int) 2 := ⟨⟨uw_in (i := 347) (by decide +kernel) (by decide +kernel), wi_X2, wc_X2_cartTurfs, by decide +kernel⟩, wn_X2_cartTurfs, ws_X2_cartTurfs⟩
theorem wv_X2_165 : pWV RX2 165 yX5_loadOf cX5_loadOf 2 (some .int) 1 := ⟨⟨uw_in (i := 351) (by decide +kernel) (by decide +kernel), wi_X5, wc_X5_loadOf, by decide +kernel⟩, wn_X5_loadOf, ws_X5_loadOf⟩
theorem wv_X5_27 : pWV RX5 27 yX5_turfWeight cX5_turfWeight 1 (some .int) 0 := ⟨⟨uw_in (i := 355) (by decide +kernel) (by decide +kernel), wi_X5, wc_X5_turfWeight, by decide +kernel⟩, wn_X5_turfWeight, ws_X5_turfWeight⟩
theorem wv_X2_169 : pWV RX2 169 yX2_bearingToday cX2_bearingToday 2 (some .int) 1 := ⟨⟨uw_in (i := 359) (by decide +kernel) (by decide +kernel), wi_X2, wc_X2_bearingToday, by decide +kernel⟩, wn_X2_bearingToday, ws_X2_bearingToday⟩
theorem wv_X2_162 : pWV RX2 162 yX0_bearing cX0_bearing 3 (some .int) 2 := ⟨⟨uw_in (i := 363) (by decide +kernel) (by decide +kernel), wi_X0, wc_X0_bearing, by decide +kernel⟩, wn_X0_bearing, ws_X0_bearing⟩
theorem wm_X0_38 : Cond.methodLink RX0 38 Lib.Math.max.name ∈ uw := uw_in (i := 367) (by decide +kernel) (by decide +kernel)
theorem wv_X2_139 : pWV RX2 139 yX5_isDry cX5_isDry 1 (some .boolean) 0 := ⟨⟨uw_in (i := 370) (by decide +kernel) (by decide +kernel), wi_X5, wc_X5_isDry, by decide +kernel⟩, wn_X5_isDry, ws_X5_isDry⟩
theorem wv_X2_181 : pWS RX2 181 yX0_wearBy cX0_wearBy 1 (some .int) 1 := ⟨⟨uw_in (i := 374) (by decide +kernel) (by decide +kernel), wi_X0, wc_X0_wearBy, by decide +kernel⟩, wt_X0_wearBy⟩
theorem wv_L_52 : pWV RL 52 yX6_repair cX6_repair 2 (some .int) 1 := ⟨⟨uw_in (i := 377) (by decide +kernel) (by decide +kernel), wi_X6, wc_X6_repair, by decide +kernel⟩, wn_X6_repair, ws_X6_repair⟩
theorem wv_X6_77 : pWV RX6 77 yX2_repairRoad cX2_repairRoad 3 (some .int) 1 := ⟨⟨uw_in (i := 381) (by decide +kernel) (by decide +kernel), wi_X2, wc_X2_repairRoad, by decide +kernel⟩, wn_X2_repairRoad, ws_X2_repairRoad⟩
theorem wv_L_56 : pWV RL 56 yX6_day cX6_day 3 (some .int) 2 := ⟨⟨uw_in (i := 385) (by decide +kernel) (by decide +kernel), wi_X6, wc_X6_day, by decide +kernel⟩, wn_X6_day, ws_X6_day⟩
theorem wv_X6_80 : pWV RX6 80 yX2_passDay cX2_passDay 5 (some .int) 2 := ⟨⟨uw_in (i := 389) (by decide +kernel) (by decide +kernel), wi_X2, wc_X2_passDay, by decide +kernel⟩, wn_X2_passDay, ws_X2_passDay⟩
theorem wv_X2_146 : pWV RX2 146 yX5_wetnessAfterDay cX5_wetnessAfterDay 6 (some .int) 3 := ⟨⟨uw_in (i := 393) (by decide +kernel) (by decide +kernel), wi_X5, wc_X5_wetnessAfterDay, by decide +kernel⟩, wn_X5_wetnessAfterDay, ws_X5_wetnessAfterDay⟩
theorem wv_X2_150 : pWV RX2 150 yX2_dryStacks cX2_dryStacks 3 (some .int) 0 := ⟨⟨uw_in (i := 399) (by decide +kernel) (by decide +kernel), wi_X2, wc_X2_dryStacks, by decide +kernel⟩, wn_X2_dryStacks, ws_X2_dryStacks⟩
theorem wv_L_60 : pWV RL 60 yX6_endYear cX6_endYear 1 (some .int) 0 := ⟨⟨uw_in (i := 403) (by decide +kernel) (by decide +kernel), wi_X6, wc_X6_endYear, by decide +kernel⟩, wn_X6_endYear, ws_X6_endYear⟩
theorem wv_X6_83 : pWV RX6 83 yX2_closeYear cX2_closeYear 3 (some .int) 0 := ⟨⟨uw_in (i := 407) (by decide +kernel) (by decide +kernel), wi_X2, wc_X2_closeYear, by decide +kernel⟩, wn_X2_closeYear, ws_X2_closeYear⟩
theorem wv_X2_156 : pWV RX2 156 yX0_forgetYear cX0_forgetYear 2 none 0 := ⟨⟨uw_in (i := 411) (by decide +kernel) (by decide +kernel), wi_X0, wc_X0_forgetYear, by decide +kernel⟩, wn_X0_forgetYear, ws_X0_forgetYear⟩
theorem wv_L_65 : pWV RL 65 yX6_take cX6_take 2 (some .int) 1 := ⟨⟨uw_in (i := 415) (by decide +kernel) (by decide +kernel), wi_X6, wc_X6_take, by decide +kernel⟩, wn_X6_take, ws_X6_take⟩
theorem wv_X6_87 : pWV RX6 87 yX4_takeSnapshot cX4_takeSnapshot 2 (some .int) 1 := ⟨⟨uw_in (i := 419) (by decide +kernel) (by decide +kernel), wi_X4, wc_X4_takeSnapshot, by decide +kernel⟩, wn_X4_takeSnapshot, ws_X4_takeSnapshot⟩
theorem wv_L_69 : pWV RL 69 yX6_restore cX6_restore 2 (some .int) 1 := ⟨⟨uw_in (i := 424) (by decide +kernel) (by decide +kernel), wi_X6, wc_X6_restore, by decide +kernel⟩, wn_X6_restore, ws_X6_restore⟩
theorem wv_X6_90 : pWV RX6 90 yX4_restoreSnapshot cX4_restoreSnapshot 2 (some .int) 1 := ⟨⟨uw_in (i := 428) (by decide +kernel) (by decide +kernel), wi_X4, wc_X4_restoreSnapshot, by decide +kernel⟩, wn_X4_restoreSnapshot, ws_X4_restoreSnapshot⟩
theorem wv_L_73 : pWV RL 73 yX6_undo cX6_undo 2 (some .int) 0 := ⟨⟨uw_in (i := 432) (by decide +kernel) (by decide +kernel), wi_X6, wc_X6_undo, by decide +kernel⟩, wn_X6_undo, ws_X6_undo⟩
theorem wv_L_77 : pWV RL 77 yX6_append cX6_append 2 (some .int) 1 := ⟨⟨uw_in (i := 436) (by decide +kernel) (by decide +kernel), wi_X6, wc_X6_append, by decide +kernel⟩, wn_X6_append, ws_X6_append⟩
theorem wv_X6_93 : pWV RX6 93 yX3_addCharacter cX3_addCharacter 2 (some .int) 1 := ⟨⟨uw_in (i := 440) (by decide +kernel) (by decide +kernel), wi_X3, wc_X3_addCharacter, by decide +kernel⟩, wn_X3_addCharacter, ws_X3_addCharacter⟩
theorem wv_L_81 : pWV RL 81 yX6_clearText cX6_clearText 1 (some .int) 0 := ⟨⟨uw_in (i := 445) (by decide +kernel) (by decide +kernel), wi_X6, wc_X6_clearText, by decide +kernel⟩, wn_X6_clearText, ws_X6_clearText⟩
theorem wv_X6_96 : pWV RX6 96 yX3_clearCharacters cX3_clearCharacters 2 (some .int) 0 := ⟨⟨uw_in (i := 449) (by decide +kernel) (by decide +kernel), wi_X3, wc_X3_clearCharacters, by decide +kernel⟩, wn_X3_clearCharacters, ws_X3_clearCharacters⟩
theorem wv_L_85 : pWV RL 85 yX6_run cX6_run 2 (some .int) 0 := ⟨⟨uw_in (i := 453) (by decide +kernel) (by decide +kernel), wi_X6, wc_X6_run, by decide +kernel⟩, wn_X6_run, ws_X6_run⟩
theorem wv_X6_99 : pWV RX6 99 yX3_runOn cX3_runOn 4 (some .int) 1 := ⟨⟨uw_in (i := 457) (by decide +kernel) (by decide +kernel), wi_X3, wc_X3_runOn, by decide +kernel⟩, wn_X3_runOn, ws_X3_runOn⟩
theorem wv_X3_33 : pWV RX3 33 yX3_readToken cX3_readToken 2 none 0 := ⟨⟨uw_in (i := 461) (by decide +kernel) (by decide +kernel), wi_X3, wc_X3_readToken, by decide +kernel⟩, wn_X3_readToken, ws_X3_readToken⟩
theorem wv_X3_65 : pWS RX3 65 yX3_kindOf cX3_kindOf 1 (some .int) 1 := ⟨⟨uw_in (i := 465) (by decide +kernel) (by decide +kernel), wi_X3, wc_X3_kindOf, by decide +kernel⟩, wt_X3_kindOf⟩
theorem wv_X3_36 : pWV RX3 36 yX3_runCommand cX3_runCommand 6 (some .int) 1 := ⟨⟨uw_in (i := 468) (by decide +kernel) (by decide +kernel), wi_X3, wc_X3_runCommand, by decide +kernel⟩, wn_X3_runCommand, ws_X3_runCommand⟩
theorem wv_X3_40 : pWV RX3 40 yX3_commandOfToken cX3_commandOfToken 1 (some .int) 0 := ⟨⟨uw_in (i := 472) (by decide +kernel) (by decide +kernel), wi_X3, wc_X3_commandOfToken, by decide +kernel⟩, wn_X3_commandOfToken, ws_X3_commandOfToken⟩
theorem wv_X3_57 : pWV RX3 57 yX3_isToken cX3_isToken 3 (some .boolean) 1 := ⟨⟨uw_in (i := 477) (by decide +kernel) (by decide +kernel), wi_X3, wc_X3_isToken, by decide +kernel⟩, wn_X3_isToken, ws_X3_isToken⟩
theorem wv_X3_69 : pWV RX3 69 yJ0_length_8abf5 cJ0_length_8abf5 1 (some .int) 0 := ⟨⟨uw_in (i := 481) (by decide +kernel) (by decide +kernel), wi_J0, wc_J0_length_8abf5, by decide +kernel⟩, wn_J0_length_8abf5, ws_J0_length_8abf5⟩
theorem wv_J0_335 : pWV RJ0 335 yJ0_coder_7d493 cJ0_coder_7d493 1 (some .byte) 0 := ⟨⟨uw_in (i := 485) (by decide +kernel) (by decide +kernel), wi_J0, wc_J0_coder_7d493, by decide +kernel⟩, wn_J0_coder_7d493, ws_J0_coder_7d493⟩
theorem wv_X3_73 : pWV RX3 73 yJ0_charAt_5068e cJ0_charAt_5068e 2 (some .char) 1 := ⟨⟨uw_in (i := 491) (by decide +kernel) (by decide +kernel), wi_J0, wc_J0_charAt_5068e, by decide +kernel⟩, wn_J0_charAt_5068e, ws_J0_charAt_5068e⟩
theorem wv_J0_492 : pWV RJ0 492 yJ0_isLatin1_aae02 cJ0_isLatin1_aae02 1 (some .boolean) 0 := ⟨⟨uw_in (i := 495) (by decide +kernel) (by decide +kernel), wi_J0, wc_J0_isLatin1_aae02, by decide +kernel⟩, wn_J0_isLatin1_aae02, ws_J0_isLatin1_aae02⟩
theorem wv_J0_495 : pWS RJ0 495 yJ1_charAt_3b067 cJ1_charAt_3b067 2 (some .char) 2 := ⟨⟨uw_in (i := 499) (by decide +kernel) (by decide +kernel), wi_J1, wc_J1_charAt_3b067, by decide +kernel⟩, wt_J1_charAt_3b067⟩
theorem wv_J1_9 : pWS RJ1 9 yJ0_checkIndex_df160 cJ0_checkIndex_df160 2 none 2 := ⟨⟨uw_in (i := 502) (by decide +kernel) (by decide +kernel), wi_J0, wc_J0_checkIndex_df160, by decide +kernel⟩, wt_J0_checkIndex_df160⟩
theorem wv_J0_1059 : pWS RJ0 1059 yJ3_checkIndex_8e157 cJ3_checkIndex_8e157 3 (some .int) 3 := ⟨⟨uw_in (i := 507) (by decide +kernel) (by decide +kernel), wi_J3, wc_J3_checkIndex_8e157, by decide +kernel⟩, wt_J3_checkIndex_8e157⟩
theorem wv_J0_498 : pWS RJ0 498 yJ2_charAt_3b067 cJ2_charAt_3b067 2 (some .char) 2 := ⟨⟨uw_in (i := 510) (by decide +kernel) (by decide +kernel), wi_J2, wc_J2_charAt_3b067, by decide +kernel⟩, wt_J2_charAt_3b067⟩
theorem wv_J2_67 : pWS RJ2 67 yJ2_checkIndex_2214a cJ2_checkIndex_2214a 2 none 2 := ⟨⟨uw_in (i := 513) (by decide +kernel) (by decide +kernel), wi_J2, wc_J2_checkIndex_2214a, by decide +kernel⟩, wt_J2_checkIndex_2214a⟩
theorem wv_J2_48 : pWS RJ2 48 yJ2_length_9d52b cJ2_length_9d52b 1 (some .int) 1 := ⟨⟨uw_in (i := 516) (by decide +kernel) (by decide +kernel), wi_J2, wc_J2_length_9d52b, by decide +kernel⟩, wt_J2_length_9d52b⟩
theorem wv_J2_414 : pWS RJ2 414 yJ0_checkIndex_df160 cJ0_checkIndex_df160 2 none 2 := ⟨⟨uw_in (i := 519) (by decide +kernel) (by decide +kernel), wi_J0, wc_J0_checkIndex_df160, by decide +kernel⟩, wt_J0_checkIndex_df160⟩
theorem wv_J2_71 : pWS RJ2 71 yJ2_getChar_3b067 cJ2_getChar_3b067 2 (some .char) 2 := ⟨⟨uw_in (i := 520) (by decide +kernel) (by decide +kernel), wi_J2, wc_J2_getChar_3b067, by decide +kernel⟩, wt_J2_getChar_3b067⟩
theorem wv_X3_44 : pWS RX3 44 yX3_numbersOf cX3_numbersOf 1 (some .int) 1 := ⟨⟨uw_in (i := 535) (by decide +kernel) (by decide +kernel), wi_X3, wc_X3_numbersOf, by decide +kernel⟩, wt_X3_numbersOf⟩
theorem wv_X3_48 : pWV RX3 48 yX3_isNumber cX3_isNumber 2 (some .boolean) 0 := ⟨⟨uw_in (i := 538) (by decide +kernel) (by decide +kernel), wi_X3, wc_X3_isNumber, by decide +kernel⟩, wn_X3_isNumber, ws_X3_isNumber⟩
theorem wv_X3_52 : pWV RX3 52 yX3_valueOfToken cX3_valueOfToken 3 (some .int) 0 := ⟨⟨uw_in (i := 542) (by decide +kernel) (by decide +kernel), wi_X3, wc_X3_valueOfToken, by decide +kernel⟩, wn_X3_valueOfToken, ws_X3_valueOfToken⟩
theorem wv_X3_61 : pWV RX3 61 yX3_perform cX3_perform 3 (some .int) 2 := ⟨⟨uw_in (i := 547) (by decide +kernel) (by decide +kernel), wi_X3, wc_X3_perform, by decide +kernel⟩, wn_X3_perform, ws_X3_perform⟩
theorem wv_X3_91 : pWV RX3 91 yX2_addHousehold cX2_addHousehold 2 (some .int) 1 := ⟨⟨uw_in (i := 551) (by decide +kernel) (by decide +kernel), wi_X2, wc_X2_addHousehold, by decide +kernel⟩, wn_X2_addHousehold, ws_X2_addHousehold⟩
theorem wv_X3_96 : pWV RX3 96 yX2_openBank cX2_openBank 3 (some .int) 2 := ⟨⟨uw_in (i := 552) (by decide +kernel) (by decide +kernel), wi_X2, wc_X2_openBank, by decide +kernel⟩, wn_X2_openBank, ws_X2_openBank⟩
theorem wv_X3_100 : pWV RX3 100 yX2_changeRight cX2_changeRight 4 (some .int) 3 := ⟨⟨uw_in (i := 553) (by decide +kernel) (by decide +kernel), wi_X2, wc_X2_changeRight, by decide +kernel⟩, wn_X2_changeRight, ws_X2_changeRight⟩
theorem wv_X3_104 : pWV RX3 104 yX2_cutTurfs cX2_cutTurfs 6 (some .int) 3 := ⟨⟨uw_in (i := 554) (by decide +kernel) (by decide +kernel), wi_X2, wc_X2_cutTurfs, by decide +kernel⟩, wn_X2_cutTurfs, ws_X2_cutTurfs⟩
theorem wv_X3_107 : pWV RX3 107 yX2_turnStack cX2_turnStack 3 (some .int) 1 := ⟨⟨uw_in (i := 555) (by decide +kernel) (by decide +kernel), wi_X2, wc_X2_turnStack, by decide +kernel⟩, wn_X2_turnStack, ws_X2_turnStack⟩
theorem wv_X3_110 : pWV RX3 110 yX2_cartTurfs cX2_cartTurfs 7 (some .int) 2 := ⟨⟨uw_in (i := 556) (by decide +kernel) (by decide +kernel), wi_X2, wc_X2_cartTurfs, by decide +kernel⟩, wn_X2_cartTurfs, ws_X2_cartTurfs⟩
theorem wv_X3_113 : pWV RX3 113 yX2_passDay cX2_passDay 5 (some .int) 2 := ⟨⟨uw_in (i := 557) (by decide +kernel) (by decide +kernel), wi_X2, wc_X2_passDay, by decide +kernel⟩, wn_X2_passDay, ws_X2_passDay⟩
theorem wv_L_89 : pWV RL 89 yX6_count cX6_count 2 (some .int) 1 := ⟨⟨uw_in (i := 559) (by decide +kernel) (by decide +kernel), wi_X6, wc_X6_count, by decide +kernel⟩, wn_X6_count, ws_X6_count⟩
theorem wv_X6_115 : pWV RX6 115 yX2_dryStacks cX2_dryStacks 3 (some .int) 0 := ⟨⟨uw_in (i := 563) (by decide +kernel) (by decide +kernel), wi_X2, wc_X2_dryStacks, by decide +kernel⟩, wn_X2_dryStacks, ws_X2_dryStacks⟩
theorem wv_X6_124 : pWV RX6 124 yX4_snapshots cX4_snapshots 3 (some .int) 0 := ⟨⟨uw_in (i := 564) (by decide +kernel) (by decide +kernel), wi_X4, wc_X4_snapshots, by decide +kernel⟩, wn_X4_snapshots, ws_X4_snapshots⟩
theorem wv_L_93 : pWV RL 93 yX6_household cX6_household 3 (some .int) 2 := ⟨⟨uw_in (i := 568) (by decide +kernel) (by decide +kernel), wi_X6, wc_X6_household, by decide +kernel⟩, wn_X6_household, ws_X6_household⟩
theorem wv_X6_130 : pWV RX6 130 yX2_householdProperty cX2_householdProperty 3 (some .int) 2 := ⟨⟨uw_in (i := 572) (by decide +kernel) (by decide +kernel), wi_X2, wc_X2_householdProperty, by decide +kernel⟩, wn_X2_householdProperty, ws_X2_householdProperty⟩
theorem wv_X2_187 : pWV RX2 187 yX2_rightsOf cX2_rightsOf 4 (some .int) 1 := ⟨⟨uw_in (i := 576) (by decide +kernel) (by decide +kernel), wi_X2, wc_X2_rightsOf, by decide +kernel⟩, wn_X2_rightsOf, ws_X2_rightsOf⟩
theorem wv_X2_190 : pWV RX2 190 yX2_stacksOf cX2_stacksOf 4 (some .int) 1 := ⟨⟨uw_in (i := 580) (by decide +kernel) (by decide +kernel), wi_X2, wc_X2_stacksOf, by decide +kernel⟩, wn_X2_stacksOf, ws_X2_stacksOf⟩
theorem wv_X2_193 : pWV RX2 193 yX2_turfsInStacksOf cX2_turfsInStacksOf 4 (some .int) 1 := ⟨⟨uw_in (i := 584) (by decide +kernel) (by decide +kernel), wi_X2, wc_X2_turfsInStacksOf, by decide +kernel⟩, wn_X2_turfsInStacksOf, ws_X2_turfsInStacksOf⟩
theorem wv_L_97 : pWV RL 97 yX6_bank cX6_bank 3 (some .int) 2 := ⟨⟨uw_in (i := 588) (by decide +kernel) (by decide +kernel), wi_X6, wc_X6_bank, by decide +kernel⟩, wn_X6_bank, ws_X6_bank⟩
theorem wv_X6_133 : pWV RX6 133 yX2_bankProperty cX2_bankProperty 4 (some .int) 2 := ⟨⟨uw_in (i := 592) (by decide +kernel) (by decide +kernel), wi_X2, wc_X2_bankProperty, by decide +kernel⟩, wn_X2_bankProperty, ws_X2_bankProperty⟩
theorem wv_X2_196 : pWV RX2 196 yX0_holdersAsBits cX0_holdersAsBits 3 (some .int) 0 := ⟨⟨uw_in (i := 596) (by decide +kernel) (by decide +kernel), wi_X0, wc_X0_holdersAsBits, by decide +kernel⟩, wn_X0_holdersAsBits, ws_X0_holdersAsBits⟩
theorem wv_X2_199 : pWV RX2 199 yX2_turfsInStacksAt cX2_turfsInStacksAt 4 (some .int) 1 := ⟨⟨uw_in (i := 600) (by decide +kernel) (by decide +kernel), wi_X2, wc_X2_turfsInStacksAt, by decide +kernel⟩, wn_X2_turfsInStacksAt, ws_X2_turfsInStacksAt⟩
theorem wv_L_101 : pWV RL 101 yX6_right cX6_right 4 (some .int) 3 := ⟨⟨uw_in (i := 604) (by decide +kernel) (by decide +kernel), wi_X6, wc_X6_right, by decide +kernel⟩, wn_X6_right, ws_X6_right⟩
theorem wv_X6_136 : pWV RX6 136 yX2_rightPart cX2_rightPart 4 (some .int) 3 := ⟨⟨uw_in (i := 608) (by decide +kernel) (by decide +kernel), wi_X2, wc_X2_rightPart, by decide +kernel⟩, wn_X2_rightPart, ws_X2_rightPart⟩
theorem wv_X2_107 : pWV RX2 107 yX2_stillToCut cX2_stillToCut 3 (some .int) 2 := ⟨⟨uw_in (i := 612) (by decide +kernel) (by decide +kernel), wi_X2, wc_X2_stillToCut, by decide +kernel⟩, wn_X2_stillToCut, ws_X2_stillToCut⟩
theorem wm_X2_101 : Cond.methodLink RX2 101 Lib.Math.max.name ∈ uw := uw_in (i := 616) (by decide +kernel) (by decide +kernel)
theorem wv_L_105 : pWV RL 105 yX6_stack cX6_stack 3 (some .int) 2 := ⟨⟨uw_in (i := 617) (by decide +kernel) (by decide +kernel), wi_X6, wc_X6_stack, by decide +kernel⟩, wn_X6_stack, ws_X6_stack⟩
theorem wv_X6_139 : pWV RX6 139 yX2_stackProperty cX2_stackProperty 4 (some .int) 2 := ⟨⟨uw_in (i := 621) (by decide +kernel) (by decide +kernel), wi_X2, wc_X2_stackProperty, by decide +kernel⟩, wn_X2_stackProperty, ws_X2_stackProperty⟩
theorem wv_X2_143 : pWV RX2 143 yX5_turfWeight cX5_turfWeight 1 (some .int) 0 := ⟨⟨uw_in (i := 625) (by decide +kernel) (by decide +kernel), wi_X5, wc_X5_turfWeight, by decide +kernel⟩, wn_X5_turfWeight, ws_X5_turfWeight⟩
theorem wv_L_109 : pWV RL 109 yX6_dryIn cX6_dryIn 4 (some .int) 3 := ⟨⟨uw_in (i := 626) (by decide +kernel) (by decide +kernel), wi_X6, wc_X6_dryIn, by decide +kernel⟩, wn_X6_dryIn, ws_X6_dryIn⟩
theorem wv_X6_142 : pWV RX6 142 yX2_daysUntilDry cX2_daysUntilDry 7 (some .int) 3 := ⟨⟨uw_in (i := 630) (by decide +kernel) (by decide +kernel), wi_X2, wc_X2_daysUntilDry, by decide +kernel⟩, wn_X2_daysUntilDry, ws_X2_daysUntilDry⟩
theorem wv_L_113 : pWV RL 113 yX6_cartLoad cX6_cartLoad 2 (some .int) 1 := ⟨⟨uw_in (i := 634) (by decide +kernel) (by decide +kernel), wi_X6, wc_X6_cartLoad, by decide +kernel⟩, wn_X6_cartLoad, ws_X6_cartLoad⟩
theorem wv_X6_145 : pWV RX6 145 yX2_greatestCartOf cX2_greatestCartOf 4 (some .int) 1 := ⟨⟨uw_in (i := 638) (by decide +kernel) (by decide +kernel), wi_X2, wc_X2_greatestCartOf, by decide +kernel⟩, wn_X2_greatestCartOf, ws_X2_greatestCartOf⟩
theorem wv_X2_184 : pWV RX2 184 yX5_greatestCart cX5_greatestCart 5 (some .int) 2 := ⟨⟨uw_in (i := 642) (by decide +kernel) (by decide +kernel), wi_X5, wc_X5_greatestCart, by decide +kernel⟩, wn_X5_greatestCart, ws_X5_greatestCart⟩
theorem wv_L_117 : pWV RL 117 yX6_carts cX6_carts 2 (some .int) 1 := ⟨⟨uw_in (i := 646) (by decide +kernel) (by decide +kernel), wi_X6, wc_X6_carts, by decide +kernel⟩, wn_X6_carts, ws_X6_carts⟩
theorem wv_X6_148 : pWV RX6 148 yX2_cartsNeeded cX2_cartsNeeded 8 (some .int) 1 := ⟨⟨uw_in (i := 650) (by decide +kernel) (by decide +kernel), wi_X2, wc_X2_cartsNeeded, by decide +kernel⟩, wn_X2_cartsNeeded, ws_X2_cartsNeeded⟩
theorem wv_L_121 : pWV RL 121 yX6_worth cX6_worth 3 (some .int) 2 := ⟨⟨uw_in (i := 654) (by decide +kernel) (by decide +kernel), wi_X6, wc_X6_worth, by decide +kernel⟩, wn_X6_worth, ws_X6_worth⟩
theorem wv_X6_151 : pWV RX6 151 yX2_worthOfShed cX2_worthOfShed 5 (some .int) 2 := ⟨⟨uw_in (i := 658) (by decide +kernel) (by decide +kernel), wi_X2, wc_X2_worthOfShed, by decide +kernel⟩, wn_X2_worthOfShed, ws_X2_worthOfShed⟩
theorem wv_L_125 : pWV RL 125 yX6_nextToCut cX6_nextToCut 2 (some .int) 1 := ⟨⟨uw_in (i := 664) (by decide +kernel) (by decide +kernel), wi_X6, wc_X6_nextToCut, by decide +kernel⟩, wn_X6_nextToCut, ws_X6_nextToCut⟩
theorem wv_X6_154 : pWV RX6 154 yX2_mostToCut cX2_mostToCut 6 (some .int) 1 := ⟨⟨uw_in (i := 668) (by decide +kernel) (by decide +kernel), wi_X2, wc_X2_mostToCut, by decide +kernel⟩, wn_X2_mostToCut, ws_X2_mostToCut⟩
theorem wv_L_12 : pWI RL 12 yX7_init cX7_init 1 0 := ⟨⟨uw_in (i := 674) (by decide +kernel) (by decide +kernel), wi_X7, wc_X7_init, by decide +kernel⟩, rfl, wn_X7_init⟩
theorem wm_X7_1 : Cond.methodLink RX7 1 objectInit ∈ uw := uw_in (i := 677) (by decide +kernel) (by decide +kernel)
theorem wv_L_17 : pWV RL 17 yX7_come cX7_come 4 (some .int) 1 := ⟨⟨uw_in (i := 715) (by decide +kernel) (by decide +kernel), wi_X7, wc_X7_come, by decide +kernel⟩, wn_X7_come, ws_X7_come⟩
theorem wv_X7_33 : pWS RX7 33 yX7_in cX7_in 3 (some .boolean) 3 := ⟨⟨uw_in (i := 719) (by decide +kernel) (by decide +kernel), wi_X7, wc_X7_in, by decide +kernel⟩, wt_X7_in⟩
theorem wv_X7_37 : pWV RX7 37 yX7_acts cX7_acts 2 none 0 := ⟨⟨uw_in (i := 722) (by decide +kernel) (by decide +kernel), wi_X7, wc_X7_acts, by decide +kernel⟩, wn_X7_acts, ws_X7_acts⟩
theorem wv_L_22 : pWV RL 22 yX7_setSpades cX7_setSpades 4 (some .int) 2 := ⟨⟨uw_in (i := 726) (by decide +kernel) (by decide +kernel), wi_X7, wc_X7_setSpades, by decide +kernel⟩, wn_X7_setSpades, ws_X7_setSpades⟩
theorem wv_X7_40 : pWV RX7 40 yX7_isHouse cX7_isHouse 2 (some .boolean) 1 := ⟨⟨uw_in (i := 730) (by decide +kernel) (by decide +kernel), wi_X7, wc_X7_isHouse, by decide +kernel⟩, wn_X7_isHouse, ws_X7_isHouse⟩
theorem wv_X7_44 : pWV RX7 44 yX7_inHouse cX7_inHouse 3 (some .int) 2 := ⟨⟨uw_in (i := 734) (by decide +kernel) (by decide +kernel), wi_X7, wc_X7_inHouse, by decide +kernel⟩, wn_X7_inHouse, ws_X7_inHouse⟩
theorem wv_L_26 : pWV RL 26 yX7_addBank cX7_addBank 5 (some .int) 2 := ⟨⟨uw_in (i := 738) (by decide +kernel) (by decide +kernel), wi_X7, wc_X7_addBank, by decide +kernel⟩, wn_X7_addBank, ws_X7_addBank⟩
theorem wv_L_30 : pWV RL 30 yX7_setAllowance cX7_setAllowance 4 (some .int) 2 := ⟨⟨uw_in (i := 742) (by decide +kernel) (by decide +kernel), wi_X7, wc_X7_setAllowance, by decide +kernel⟩, wn_X7_setAllowance, ws_X7_setAllowance⟩
theorem wv_X7_48 : pWV RX7 48 yX7_isBank cX7_isBank 2 (some .boolean) 1 := ⟨⟨uw_in (i := 746) (by decide +kernel) (by decide +kernel), wi_X7, wc_X7_isBank, by decide +kernel⟩, wn_X7_isBank, ws_X7_isBank⟩
theorem wv_X7_51 : pWV RX7 51 yX7_inBank cX7_inBank 3 (some .int) 2 := ⟨⟨uw_in (i := 750) (by decide +kernel) (by decide +kernel), wi_X7, wc_X7_inBank, by decide +kernel⟩, wn_X7_inBank, ws_X7_inBank⟩
theorem wv_L_35 : pWV RL 35 yX7_grant cX7_grant 5 (some .int) 3 := ⟨⟨uw_in (i := 754) (by decide +kernel) (by decide +kernel), wi_X7, wc_X7_grant, by decide +kernel⟩, wn_X7_grant, ws_X7_grant⟩
theorem wv_X7_54 : pWS RX7 54 yX7_ones cX7_ones 3 (some .int) 1 := ⟨⟨uw_in (i := 758) (by decide +kernel) (by decide +kernel), wi_X7, wc_X7_ones, by decide +kernel⟩, wt_X7_ones⟩
theorem wv_L_39 : pWV RL 39 yX7_cut cX7_cut 5 (some .int) 3 := ⟨⟨uw_in (i := 761) (by decide +kernel) (by decide +kernel), wi_X7, wc_X7_cut, by decide +kernel⟩, wn_X7_cut, ws_X7_cut⟩
theorem wv_X7_68 : pWV RX7 68 yX7_mayCut cX7_mayCut 4 (some .int) 2 := ⟨⟨uw_in (i := 765) (by decide +kernel) (by decide +kernel), wi_X7, wc_X7_mayCut, by decide +kernel⟩, wn_X7_mayCut, ws_X7_mayCut⟩
theorem wv_X7_65 : pWV RX7 65 yX7_shareOf cX7_shareOf 7 (some .int) 2 := ⟨⟨uw_in (i := 769) (by decide +kernel) (by decide +kernel), wi_X7, wc_X7_shareOf, by decide +kernel⟩, wn_X7_shareOf, ws_X7_shareOf⟩
theorem wv_X7_62 : pWV RX7 62 yX7_spadesOf cX7_spadesOf 4 (some .int) 1 := ⟨⟨uw_in (i := 773) (by decide +kernel) (by decide +kernel), wi_X7, wc_X7_spadesOf, by decide +kernel⟩, wn_X7_spadesOf, ws_X7_spadesOf⟩
theorem wv_X7_58 : pWV RX7 58 yX7_hasRight cX7_hasRight 3 (some .boolean) 2 := ⟨⟨uw_in (i := 777) (by decide +kernel) (by decide +kernel), wi_X7, wc_X7_hasRight, by decide +kernel⟩, wn_X7_hasRight, ws_X7_hasRight⟩
theorem wv_L_43 : pWV RL 43 yX7_turn cX7_turn 2 (some .int) 1 := ⟨⟨uw_in (i := 782) (by decide +kernel) (by decide +kernel), wi_X7, wc_X7_turn, by decide +kernel⟩, wn_X7_turn, ws_X7_turn⟩
theorem wv_X7_72 : pWV RX7 72 yX7_isStack cX7_isStack 2 (some .boolean) 1 := ⟨⟨uw_in (i := 786) (by decide +kernel) (by decide +kernel), wi_X7, wc_X7_isStack, by decide +kernel⟩, wn_X7_isStack, ws_X7_isStack⟩
theorem wv_X7_75 : pWV RX7 75 yX7_inStack cX7_inStack 3 (some .int) 2 := ⟨⟨uw_in (i := 790) (by decide +kernel) (by decide +kernel), wi_X7, wc_X7_inStack, by decide +kernel⟩, wn_X7_inStack, ws_X7_inStack⟩
theorem wv_L_47 : pWV RL 47 yX7_join cX7_join 7 (some .int) 2 := ⟨⟨uw_in (i := 794) (by decide +kernel) (by decide +kernel), wi_X7, wc_X7_join, by decide +kernel⟩, wn_X7_join, ws_X7_join⟩
theorem wv_X7_78 : pWV RX7 78 yX7_goes cX7_goes 3 none 1 := ⟨⟨uw_in (i := 798) (by decide +kernel) (by decide +kernel), wi_X7, wc_X7_goes, by decide +kernel⟩, wn_X7_goes, ws_X7_goes⟩
theorem wv_L_51 : pWV RL 51 yX7_cart cX7_cart 5 (some .int) 2 := ⟨⟨uw_in (i := 802) (by decide +kernel) (by decide +kernel), wi_X7, wc_X7_cart, by decide +kernel⟩, wn_X7_cart, ws_X7_cart⟩
theorem wv_X7_85 : pWV RX7 85 yX7_load cX7_load 3 (some .int) 2 := ⟨⟨uw_in (i := 806) (by decide +kernel) (by decide +kernel), wi_X7, wc_X7_load, by decide +kernel⟩, wn_X7_load, ws_X7_load⟩
theorem wv_X7_82 : pWV RX7 82 yX7_weight cX7_weight 2 (some .int) 1 := ⟨⟨uw_in (i := 810) (by decide +kernel) (by decide +kernel), wi_X7, wc_X7_weight, by decide +kernel⟩, wn_X7_weight, ws_X7_weight⟩
theorem wv_X7_88 : pWV RX7 88 yX7_bears cX7_bears 3 (some .int) 1 := ⟨⟨uw_in (i := 814) (by decide +kernel) (by decide +kernel), wi_X7, wc_X7_bears, by decide +kernel⟩, wn_X7_bears, ws_X7_bears⟩
theorem wv_X7_91 : pWV RX7 91 yX7_isDry cX7_isDry 2 (some .boolean) 1 := ⟨⟨uw_in (i := 818) (by decide +kernel) (by decide +kernel), wi_X7, wc_X7_isDry, by decide +kernel⟩, wn_X7_isDry, ws_X7_isDry⟩
theorem wv_L_55 : pWV RL 55 yX7_repair cX7_repair 3 (some .int) 1 := ⟨⟨uw_in (i := 822) (by decide +kernel) (by decide +kernel), wi_X7, wc_X7_repair, by decide +kernel⟩, wn_X7_repair, ws_X7_repair⟩
theorem wv_L_59 : pWV RL 59 yX7_day cX7_day 4 (some .int) 2 := ⟨⟨uw_in (i := 826) (by decide +kernel) (by decide +kernel), wi_X7, wc_X7_day, by decide +kernel⟩, wn_X7_day, ws_X7_day⟩
theorem wv_X7_94 : pWS RX7 94 yX7_dried cX7_dried 5 (some .int) 4 := ⟨⟨uw_in (i := 830) (by decide +kernel) (by decide +kernel), wi_X7, wc_X7_dried, by decide +kernel⟩, wt_X7_dried⟩
theorem wv_X7_98 : pWV RX7 98 yX7_dryStacks cX7_dryStacks 3 (some .int) 0 := ⟨⟨uw_in (i := 833) (by decide +kernel) (by decide +kernel), wi_X7, wc_X7_dryStacks, by decide +kernel⟩, wn_X7_dryStacks, ws_X7_dryStacks⟩
theorem wv_L_64 : pWV RL 64 yX7_endYear cX7_endYear 3 (some .int) 0 := ⟨⟨uw_in (i := 837) (by decide +kernel) (by decide +kernel), wi_X7, wc_X7_endYear, by decide +kernel⟩, wn_X7_endYear, ws_X7_endYear⟩
theorem wv_L_68 : pWV RL 68 yX7_take cX7_take 3 (some .int) 1 := ⟨⟨uw_in (i := 841) (by decide +kernel) (by decide +kernel), wi_X7, wc_X7_take, by decide +kernel⟩, wn_X7_take, ws_X7_take⟩
theorem wv_L_72 : pWV RL 72 yX7_restore cX7_restore 3 (some .int) 1 := ⟨⟨uw_in (i := 845) (by decide +kernel) (by decide +kernel), wi_X7, wc_X7_restore, by decide +kernel⟩, wn_X7_restore, ws_X7_restore⟩
theorem wv_L_76 : pWV RL 76 yX7_undo cX7_undo 2 (some .int) 0 := ⟨⟨uw_in (i := 849) (by decide +kernel) (by decide +kernel), wi_X7, wc_X7_undo, by decide +kernel⟩, wn_X7_undo, ws_X7_undo⟩
theorem wv_L_80 : pWV RL 80 yX7_append cX7_append 2 (some .int) 1 := ⟨⟨uw_in (i := 853) (by decide +kernel) (by decide +kernel), wi_X7, wc_X7_append, by decide +kernel⟩, wn_X7_append, ws_X7_append⟩
theorem wv_L_84 : pWV RL 84 yX7_clearText cX7_clearText 2 (some .int) 0 := ⟨⟨uw_in (i := 857) (by decide +kernel) (by decide +kernel), wi_X7, wc_X7_clearText, by decide +kernel⟩, wn_X7_clearText, ws_X7_clearText⟩
theorem wv_L_88 : pWV RL 88 yX7_run cX7_run 4 (some .int) 0 := ⟨⟨uw_in (i := 861) (by decide +kernel) (by decide +kernel), wi_X7, wc_X7_run, by decide +kernel⟩, wn_X7_run, ws_X7_run⟩
theorem wv_X7_161 : pWV RX7 161 yX7_readsAll cX7_readsAll 2 (some .int) 0 := ⟨⟨uw_in (i := 865) (by decide +kernel) (by decide +kernel), wi_X7, wc_X7_readsAll, by decide +kernel⟩, wn_X7_readsAll, ws_X7_readsAll⟩
theorem wv_X7_121 : pWV RX7 121 yX7_token cX7_token 2 none 0 := ⟨⟨uw_in (i := 869) (by decide +kernel) (by decide +kernel), wi_X7, wc_X7_token, by decide +kernel⟩, wn_X7_token, ws_X7_token⟩
theorem wv_X7_111 : pWS RX7 111 yX7_kindOf cX7_kindOf 1 (some .int) 1 := ⟨⟨uw_in (i := 873) (by decide +kernel) (by decide +kernel), wi_X7, wc_X7_kindOf, by decide +kernel⟩, wt_X7_kindOf⟩
theorem wv_X7_158 : pWV RX7 158 yX7_readsOne cX7_readsOne 5 (some .int) 0 := ⟨⟨uw_in (i := 876) (by decide +kernel) (by decide +kernel), wi_X7, wc_X7_readsOne, by decide +kernel⟩, wn_X7_readsOne, ws_X7_readsOne⟩
theorem wv_X7_146 : pWV RX7 146 yX7_command cX7_command 1 (some .int) 0 := ⟨⟨uw_in (i := 880) (by decide +kernel) (by decide +kernel), wi_X7, wc_X7_command, by decide +kernel⟩, wn_X7_command, ws_X7_command⟩
theorem wv_X7_117 : pWV RX7 117 yX7_isWord cX7_isWord 9 (some .boolean) 5 := ⟨⟨uw_in (i := 884) (by decide +kernel) (by decide +kernel), wi_X7, wc_X7_isWord, by decide +kernel⟩, wn_X7_isWord, ws_X7_isWord⟩
theorem wv_X7_149 : pWV RX7 149 yX7_isNumber cX7_isNumber 4 (some .boolean) 1 := ⟨⟨uw_in (i := 888) (by decide +kernel) (by decide +kernel), wi_X7, wc_X7_isNumber, by decide +kernel⟩, wn_X7_isNumber, ws_X7_isNumber⟩
theorem wv_X7_152 : pWV RX7 152 yX7_does cX7_does 2 (some .int) 1 := ⟨⟨uw_in (i := 892) (by decide +kernel) (by decide +kernel), wi_X7, wc_X7_does, by decide +kernel⟩, wn_X7_does, ws_X7_does⟩
theorem wv_X7_124 : pWV RX7 124 yX7_come cX7_come 4 (some .int) 1 := ⟨⟨uw_in (i := 896) (by decide +kernel) (by decide +kernel), wi_X7, wc_X7_come, by decide +kernel⟩, wn_X7_come, ws_X7_come⟩
theorem wv_X7_127 : pWV RX7 127 yX7_addBank cX7_addBank 5 (some .int) 2 := ⟨⟨uw_in (i := 897) (by decide +kernel) (by decide +kernel), wi_X7, wc_X7_addBank, by decide +kernel⟩, wn_X7_addBank, ws_X7_addBank⟩
theorem wv_X7_130 : pWV RX7 130 yX7_grant cX7_grant 5 (some .int) 3 := ⟨⟨uw_in (i := 898) (by decide +kernel) (by decide +kernel), wi_X7, wc_X7_grant, by decide +kernel⟩, wn_X7_grant, ws_X7_grant⟩
theorem wv_X7_134 : pWV RX7 134 yX7_cut cX7_cut 5 (some .int) 3 := ⟨⟨uw_in (i := 899) (by decide +kernel) (by decide +kernel), wi_X7, wc_X7_cut, by decide +kernel⟩, wn_X7_cut, ws_X7_cut⟩
theorem wv_X7_137 : pWV RX7 137 yX7_turn cX7_turn 2 (some .int) 1 := ⟨⟨uw_in (i := 900) (by decide +kernel) (by decide +kernel), wi_X7, wc_X7_turn, by decide +kernel⟩, wn_X7_turn, ws_X7_turn⟩
theorem wv_X7_140 : pWV RX7 140 yX7_cart cX7_cart 5 (some .int) 2 := ⟨⟨uw_in (i := 901) (by decide +kernel) (by decide +kernel), wi_X7, wc_X7_cart, by decide +kernel⟩, wn_X7_cart, ws_X7_cart⟩
theorem wv_X7_143 : pWV RX7 143 yX7_day cX7_day 4 (some .int) 2 := ⟨⟨uw_in (i := 902) (by decide +kernel) (by decide +kernel), wi_X7, wc_X7_day, by decide +kernel⟩, wn_X7_day, ws_X7_day⟩
theorem wv_L_92 : pWV RL 92 yX7_count cX7_count 2 (some .int) 1 := ⟨⟨uw_in (i := 903) (by decide +kernel) (by decide +kernel), wi_X7, wc_X7_count, by decide +kernel⟩, wn_X7_count, ws_X7_count⟩
theorem wv_L_96 : pWV RL 96 yX7_household cX7_household 3 (some .int) 2 := ⟨⟨uw_in (i := 907) (by decide +kernel) (by decide +kernel), wi_X7, wc_X7_household, by decide +kernel⟩, wn_X7_household, ws_X7_household⟩
theorem wv_X7_164 : pWV RX7 164 yX7_banksOf cX7_banksOf 4 (some .int) 1 := ⟨⟨uw_in (i := 911) (by decide +kernel) (by decide +kernel), wi_X7, wc_X7_banksOf, by decide +kernel⟩, wn_X7_banksOf, ws_X7_banksOf⟩
theorem wv_X7_167 : pWV RX7 167 yX7_stacksOf cX7_stacksOf 5 (some .int) 2 := ⟨⟨uw_in (i := 915) (by decide +kernel) (by decide +kernel), wi_X7, wc_X7_stacksOf, by decide +kernel⟩, wn_X7_stacksOf, ws_X7_stacksOf⟩
theorem wv_L_100 : pWV RL 100 yX7_bank cX7_bank 3 (some .int) 2 := ⟨⟨uw_in (i := 919) (by decide +kernel) (by decide +kernel), wi_X7, wc_X7_bank, by decide +kernel⟩, wn_X7_bank, ws_X7_bank⟩
theorem wv_X7_171 : pWV RX7 171 yX7_turfsAt cX7_turfsAt 4 (some .int) 1 := ⟨⟨uw_in (i := 923) (by decide +kernel) (by decide +kernel), wi_X7, wc_X7_turfsAt, by decide +kernel⟩, wn_X7_turfsAt, ws_X7_turfsAt⟩
theorem wv_L_104 : pWV RL 104 yX7_right cX7_right 4 (some .int) 3 := ⟨⟨uw_in (i := 927) (by decide +kernel) (by decide +kernel), wi_X7, wc_X7_right, by decide +kernel⟩, wn_X7_right, ws_X7_right⟩
theorem wv_L_108 : pWV RL 108 yX7_stack cX7_stack 3 (some .int) 2 := ⟨⟨uw_in (i := 931) (by decide +kernel) (by decide +kernel), wi_X7, wc_X7_stack, by decide +kernel⟩, wn_X7_stack, ws_X7_stack⟩
theorem wv_L_112 : pWV RL 112 yX7_dryIn cX7_dryIn 6 (some .int) 3 := ⟨⟨uw_in (i := 935) (by decide +kernel) (by decide +kernel), wi_X7, wc_X7_dryIn, by decide +kernel⟩, wn_X7_dryIn, ws_X7_dryIn⟩
theorem wv_L_116 : pWV RL 116 yX7_cartLoad cX7_cartLoad 3 (some .int) 1 := ⟨⟨uw_in (i := 939) (by decide +kernel) (by decide +kernel), wi_X7, wc_X7_cartLoad, by decide +kernel⟩, wn_X7_cartLoad, ws_X7_cartLoad⟩
theorem wv_X7_174 : pWV RX7 174 yX7_most cX7_most 5 (some .int) 3 := ⟨⟨uw_in (i := 943) (by decide +kernel) (by decide +kernel), wi_X7, wc_X7_most, by decide +kernel⟩, wn_X7_most, ws_X7_most⟩
theorem wv_L_120 : pWV RL 120 yX7_carts cX7_carts 7 (some .int) 1 := ⟨⟨uw_in (i := 947) (by decide +kernel) (by decide +kernel), wi_X7, wc_X7_carts, by decide +kernel⟩, wn_X7_carts, ws_X7_carts⟩
theorem wv_L_124 : pWV RL 124 yX7_worth cX7_worth 5 (some .int) 2 := ⟨⟨uw_in (i := 951) (by decide +kernel) (by decide +kernel), wi_X7, wc_X7_worth, by decide +kernel⟩, wn_X7_worth, ws_X7_worth⟩
theorem wv_L_128 : pWV RL 128 yX7_nextToCut cX7_nextToCut 6 (some .int) 1 := ⟨⟨uw_in (i := 957) (by decide +kernel) (by decide +kernel), wi_X7, wc_X7_nextToCut, by decide +kernel⟩, wn_X7_nextToCut, ws_X7_nextToCut⟩
theorem wv_X2_48 : pWN RX2 48 yX1_init RX6 cX1_init 1 none 0 ∧ yX1_init.name = "<init>" ∧ Cond.instanceMethod yX1_init ∈ uw := ⟨⟨by simp [pNest], wi_X1, wc_X1_init, by decide +kernel⟩, rfl, wn_X1_init⟩
theorem wv_X2_49 : pWN RX2 49 yX0_init RX6 cX0_init 1 none 0 ∧ yX0_init.name = "<init>" ∧ Cond.instanceMethod yX0_init ∈ uw := ⟨⟨by simp [pNest], wi_X0, wc_X0_init, by decide +kernel⟩, rfl, wn_X0_init⟩
theorem wv_X2_50 : pWN RX2 50 yX5_init RX6 cX5_init 1 none 0 ∧ yX5_init.name = "<init>" ∧ Cond.instanceMethod yX5_init ∈ uw := ⟨⟨by simp [pNest], wi_X5, wc_X5_init, by decide +kernel⟩, rfl, wn_X5_init⟩
theorem wv_X6_29 : pWN RX6 29 yX3_init RX6 cX3_init 1 none 0 ∧ yX3_init.name = "<init>" ∧ Cond.instanceMethod yX3_init ∈ uw := ⟨⟨by simp [pNest], wi_X3, wc_X3_init, by decide +kernel⟩, rfl, wn_X3_init⟩
theorem wv_X2_61 : pWN RX2 61 yX6_isWithin RX6 cX6_isWithin 3 (some .boolean) 3 ∧ Cond.static yX6_isWithin ∈ uw := ⟨⟨by simp [pNest], wi_X6, wc_X6_isWithin, by decide +kernel⟩, wt_X6_isWithin⟩
theorem wv_X4_30 : pWN RX4 30 yX6_isWithin RX6 cX6_isWithin 3 (some .boolean) 3 ∧ Cond.static yX6_isWithin ∈ uw := ⟨⟨by simp [pNest], wi_X6, wc_X6_isWithin, by decide +kernel⟩, wt_X6_isWithin⟩
theorem wv_X3_29 : pWN RX3 29 yX6_isWithin RX6 cX6_isWithin 3 (some .boolean) 3 ∧ Cond.static yX6_isWithin ∈ uw := ⟨⟨by simp [pNest], wi_X6, wc_X6_isWithin, by decide +kernel⟩, wt_X6_isWithin⟩
theorem wk_L_7 : Cond.classLink RL 7 RX6 ∈ uw := uw_in (i := 14) (by decide +kernel) (by decide +kernel)
theorem wk_X6_7 : Cond.classLink RX6 7 RX4 ∈ uw := uw_in (i := 22) (by decide +kernel) (by decide +kernel)
theorem wk_X4_9 : Cond.classLink RX4 9 RX2 ∈ uw := uw_in (i := 28) (by decide +kernel) (by decide +kernel)
theorem wk_X2_30 : Cond.classLink RX2 30 RX1 ∈ uw := uw_in (i := 34) (by decide +kernel) (by decide +kernel)
theorem wk_X2_36 : Cond.classLink RX2 36 RX0 ∈ uw := uw_in (i := 36) (by decide +kernel) (by decide +kernel)
theorem wk_X2_42 : Cond.classLink RX2 42 RX5 ∈ uw := uw_in (i := 38) (by decide +kernel) (by decide +kernel)
theorem wk_X6_27 : Cond.classLink RX6 27 RX3 ∈ uw := uw_in (i := 172) (by decide +kernel) (by decide +kernel)
theorem wk_L_10 : Cond.classLink RL 10 RX7 ∈ uw := uw_in (i := 672) (by decide +kernel) (by decide +kernel)
theorem wx_X6 : Cond.instantiable RX6 5 ∈ uw := uw_in (i := 15) (by decide +kernel) (by decide +kernel)
theorem wx_X4 : Cond.instantiable RX4 3 ∈ uw := uw_in (i := 23) (by decide +kernel) (by decide +kernel)
theorem wx_X2 : Cond.instantiable RX2 9 ∈ uw := uw_in (i := 29) (by decide +kernel) (by decide +kernel)
theorem wx_X1 : Cond.instantiable RX1 3 ∈ uw := uw_in (i := 40) (by decide +kernel) (by decide +kernel)
theorem wx_X0 : Cond.instantiable RX0 8 ∈ uw := uw_in (i := 58) (by decide +kernel) (by decide +kernel)
theorem wx_X5 : Cond.instantiable RX5 5 ∈ uw := uw_in (i := 98) (by decide +kernel) (by decide +kernel)
theorem wx_X3 : Cond.instantiable RX3 5 ∈ uw := uw_in (i := 173) (by decide +kernel) (by decide +kernel)
theorem wx_X7 : Cond.instantiable RX7 12 ∈ uw := uw_in (i := 673) (by decide +kernel) (by decide +kernel)
theorem wq_X2_122 : Cond.constant RX2 122 100000 ∈ uw := uw_in (i := 311) (by decide +kernel) (by decide +kernel)
theorem wq_X5_37 : Cond.constantDouble RX5 37 4634204016564240384 ∈ uw := uw_in (i := 397) (by decide +kernel) (by decide +kernel)
theorem wq_X5_39 : Cond.constant RX5 39 100000 ∈ uw := uw_in (i := 398) (by decide +kernel) (by decide +kernel)
theorem wq_X2_202 : Cond.constant RX2 202 2000000000 ∈ uw := uw_in (i := 662) (by decide +kernel) (by decide +kernel)
theorem wq_X2_203 : Cond.constantLong RX2 203 2147483647 ∈ uw := uw_in (i := 663) (by decide +kernel) (by decide +kernel)
theorem wq_X7_71 : Cond.constant RX7 71 100000 ∈ uw := uw_in (i := 781) (by decide +kernel) (by decide +kernel)
theorem wq_X7_177 : Cond.constant RX7 177 2000000000 ∈ uw := uw_in (i := 955) (by decide +kernel) (by decide +kernel)
theorem wq_X7_178 : Cond.constantLong RX7 178 2147483647 ∈ uw := uw_in (i := 956) (by decide +kernel) (by decide +kernel)
theorem wa_boolean : Cond.arrayClass .boolean ∈ uw := uw_in (i := 96) (by decide +kernel) (by decide +kernel)
theorem wa_int : Cond.arrayClass .int ∈ uw := uw_in (i := 97) (by decide +kernel) (by decide +kernel)
theorem wa_char : Cond.arrayClass .char ∈ uw := uw_in (i := 195) (by decide +kernel) (by decide +kernel)
theorem wa_byte : Cond.arrayClass .byte ∈ uw := uw_in (i := 558) (by decide +kernel) (by decide +kernel)
theorem inU0 : ∀ w ∈ u_ws RX0 TX0 8, w ∈ uw := by
  intro w hw
  obtain ⟨k, hk, rfl⟩ := List.mem_map.mp hw
  have hk := List.mem_range.mp hk
  match k, hk with
  | 0, _ => exact uw_in (i := 79) (by decide +kernel) (by decide +kernel)
  | 1, _ => exact uw_in (i := 81) (by decide +kernel) (by decide +kernel)
  | 2, _ => exact uw_in (i := 83) (by decide +kernel) (by decide +kernel)
  | 3, _ => exact uw_in (i := 85) (by decide +kernel) (by decide +kernel)
  | 4, _ => exact uw_in (i := 87) (by decide +kernel) (by decide +kernel)
  | 5, _ => exact uw_in (i := 89) (by decide +kernel) (by decide +kernel)
  | 6, _ => exact uw_in (i := 91) (by decide +kernel) (by decide +kernel)
  | 7, _ => exact uw_in (i := 93) (by decide +kernel) (by decide +kernel)
theorem inU1 : ∀ w ∈ u_ws RX1 TX1 3, w ∈ uw := by
  intro w hw
  obtain ⟨k, hk, rfl⟩ := List.mem_map.mp hw
  have hk := List.mem_range.mp hk
  match k, hk with
  | 0, _ => exact uw_in (i := 51) (by decide +kernel) (by decide +kernel)
  | 1, _ => exact uw_in (i := 53) (by decide +kernel) (by decide +kernel)
  | 2, _ => exact uw_in (i := 55) (by decide +kernel) (by decide +kernel)
theorem inU2 : ∀ w ∈ u_ws RX2 TX2 9, w ∈ uw := by
  intro w hw
  obtain ⟨k, hk, rfl⟩ := List.mem_map.mp hw
  have hk := List.mem_range.mp hk
  match k, hk with
  | 0, _ => exact uw_in (i := 140) (by decide +kernel) (by decide +kernel)
  | 1, _ => exact uw_in (i := 142) (by decide +kernel) (by decide +kernel)
  | 2, _ => exact uw_in (i := 144) (by decide +kernel) (by decide +kernel)
  | 3, _ => exact uw_in (i := 146) (by decide +kernel) (by decide +kernel)
  | 4, _ => exact uw_in (i := 148) (by decide +kernel) (by decide +kernel)
  | 5, _ => exact uw_in (i := 150) (by decide +kernel) (by decide +kernel)
  | 6, _ => exact uw_in (i := 152) (by decide +kernel) (by decide +kernel)
  | 7, _ => exact uw_in (i := 154) (by decide +kernel) (by decide +kernel)
  | 8, _ => exact uw_in (i := 156) (by decide +kernel) (by decide +kernel)
theorem inU3 : ∀ w ∈ u_ws RX3 TX3 5, w ∈ uw := by
  intro w hw
  obtain ⟨k, hk, rfl⟩ := List.mem_map.mp hw
  have hk := List.mem_range.mp hk
  match k, hk with
  | 0, _ => exact uw_in (i := 184) (by decide +kernel) (by decide +kernel)
  | 1, _ => exact uw_in (i := 186) (by decide +kernel) (by decide +kernel)
  | 2, _ => exact uw_in (i := 188) (by decide +kernel) (by decide +kernel)
  | 3, _ => exact uw_in (i := 190) (by decide +kernel) (by decide +kernel)
  | 4, _ => exact uw_in (i := 192) (by decide +kernel) (by decide +kernel)
theorem inU4 : ∀ w ∈ u_ws RX4 TX4 3, w ∈ uw := by
  intro w hw
  obtain ⟨k, hk, rfl⟩ := List.mem_map.mp hw
  have hk := List.mem_range.mp hk
  match k, hk with
  | 0, _ => exact uw_in (i := 164) (by decide +kernel) (by decide +kernel)
  | 1, _ => exact uw_in (i := 166) (by decide +kernel) (by decide +kernel)
  | 2, _ => exact uw_in (i := 168) (by decide +kernel) (by decide +kernel)
theorem inU5 : ∀ w ∈ u_ws RX5 TX5 5, w ∈ uw := by
  intro w hw
  obtain ⟨k, hk, rfl⟩ := List.mem_map.mp hw
  have hk := List.mem_range.mp hk
  match k, hk with
  | 0, _ => exact uw_in (i := 113) (by decide +kernel) (by decide +kernel)
  | 1, _ => exact uw_in (i := 115) (by decide +kernel) (by decide +kernel)
  | 2, _ => exact uw_in (i := 117) (by decide +kernel) (by decide +kernel)
  | 3, _ => exact uw_in (i := 119) (by decide +kernel) (by decide +kernel)
  | 4, _ => exact uw_in (i := 121) (by decide +kernel) (by decide +kernel)
theorem inU6 : ∀ w ∈ u_ws RX6 TX6 5, w ∈ uw := by
  intro w hw
  obtain ⟨k, hk, rfl⟩ := List.mem_map.mp hw
  have hk := List.mem_range.mp hk
  match k, hk with
  | 0, _ => exact uw_in (i := 201) (by decide +kernel) (by decide +kernel)
  | 1, _ => exact uw_in (i := 203) (by decide +kernel) (by decide +kernel)
  | 2, _ => exact uw_in (i := 205) (by decide +kernel) (by decide +kernel)
  | 3, _ => exact uw_in (i := 207) (by decide +kernel) (by decide +kernel)
  | 4, _ => exact uw_in (i := 209) (by decide +kernel) (by decide +kernel)
theorem inU7 : ∀ w ∈ u_ws RX7 TX7 12, w ∈ uw := by
  intro w hw
  obtain ⟨k, hk, rfl⟩ := List.mem_map.mp hw
  have hk := List.mem_range.mp hk
  match k, hk with
  | 0, _ => exact uw_in (i := 690) (by decide +kernel) (by decide +kernel)
  | 1, _ => exact uw_in (i := 692) (by decide +kernel) (by decide +kernel)
  | 2, _ => exact uw_in (i := 694) (by decide +kernel) (by decide +kernel)
  | 3, _ => exact uw_in (i := 696) (by decide +kernel) (by decide +kernel)
  | 4, _ => exact uw_in (i := 698) (by decide +kernel) (by decide +kernel)
  | 5, _ => exact uw_in (i := 700) (by decide +kernel) (by decide +kernel)
  | 6, _ => exact uw_in (i := 702) (by decide +kernel) (by decide +kernel)
  | 7, _ => exact uw_in (i := 704) (by decide +kernel) (by decide +kernel)
  | 8, _ => exact uw_in (i := 706) (by decide +kernel) (by decide +kernel)
  | 9, _ => exact uw_in (i := 708) (by decide +kernel) (by decide +kernel)
  | 10, _ => exact uw_in (i := 710) (by decide +kernel) (by decide +kernel)
  | 11, _ => exact uw_in (i := 712) (by decide +kernel) (by decide +kernel)
section PVF
variable {p : Program} {l : Launch} {e : Env} {R : Room} {s : State} {m : MethodId} {args : Array Value} {below : List Frame} {meth : Method} {c : Code} {cc : ByteArray} {nL : Nat} {E : pE} {A : Nat → Prop} {Q : State → Prop} {z : Nat} {h : pH} {k n : Nat} {pc : Nat} {L : List (Option Value)} {st : List Value}
theorem wf_X1_7 : Cond.fieldLink RX1 7 (TX1 0).1 (TX1 0).2.1 (TX1 0).2.2.1 ∈ uw := uw_in (i := 45) (by decide +kernel) (by decide +kernel)
theorem g_X1_7 (X : pCx p s m args c cc nL RX1 E A) {a0 : Nat} {fs : List Value} {v : Value} (hd : decode cc pc = .ok (.getfield 7, 3)) (hh : h a0 = some (ob 1 fs)) (kk : pV p l e R s m args below meth c nL E A Q z h k n (pc + 3) L (v :: st)) (hv : fs[0]? = some v := by rfl) : pV p l e R s m args below meth c nL E A Q z h k n pc L (.ref a0 :: st) := v_get (T := TX1) (ci := 1) (kf := 0) X hd inU1 rfl (by decide) wf_X1_7 hh hv kk
theorem p_X1_7 (X : pCx p s m args c cc nL RX1 E A) {a0 : Nat} {fs fs1 : List Value} {x : Int32} (hd : decode cc pc = .ok (.putfield 7, 3)) (hh : h a0 = some (ob 1 fs)) (kk : pV p l e R s m args below meth c nL E A Q z (pset h a0 (ob 1 fs1)) k n (pc + 3) L st) (hl : 0 < fs.length := by exact Nat.le_of_ble_eq_true rfl) (hfs : fs.set 0 (.int x) = fs1 := by rfl) : pV p l e R s m args below meth c nL E A Q z h k n pc L (.int x :: .ref a0 :: st) := by
  subst hfs
  exact v_put (T := TX1) (ci := 1) (kf := 0) X hd inU1 tyX1 tyX1_ok nmX1 rfl (by decide) wf_X1_7 rfl (ty := .int) (by decide +kernel) rfl rfl hh hl kk
theorem wf_X2_65 : Cond.fieldLink RX2 65 (TX1 0).1 (TX1 0).2.1 (TX1 0).2.2.1 ∈ uw := uw_in (i := 46) (by decide +kernel) (by decide +kernel)
theorem g_X2_65 (X : pCx p s m args c cc nL RX2 E A) {a0 : Nat} {fs : List Value} {v : Value} (hd : decode cc pc = .ok (.getfield 65, 3)) (hh : h a0 = some (ob 1 fs)) (kk : pV p l e R s m args below meth c nL E A Q z h k n (pc + 3) L (v :: st)) (hv : fs[0]? = some v := by rfl) : pV p l e R s m args below meth c nL E A Q z h k n pc L (.ref a0 :: st) := v_get (T := TX1) (ci := 1) (kf := 0) X hd inU1 rfl (by decide) wf_X2_65 hh hv kk
theorem p_X2_65 (X : pCx p s m args c cc nL RX2 E A) {a0 : Nat} {fs fs1 : List Value} {x : Int32} (hd : decode cc pc = .ok (.putfield 65, 3)) (hh : h a0 = some (ob 1 fs)) (kk : pV p l e R s m args below meth c nL E A Q z (pset h a0 (ob 1 fs1)) k n (pc + 3) L st) (hl : 0 < fs.length := by exact Nat.le_of_ble_eq_true rfl) (hfs : fs.set 0 (.int x) = fs1 := by rfl) : pV p l e R s m args below meth c nL E A Q z h k n pc L (.int x :: .ref a0 :: st) := by
  subst hfs
  exact v_put (T := TX1) (ci := 1) (kf := 0) X hd inU1 tyX1 tyX1_ok nmX1 rfl (by decide) wf_X2_65 rfl (ty := .int) (by decide +kernel) rfl rfl hh hl kk
theorem wf_X1_13 : Cond.fieldLink RX1 13 (TX1 1).1 (TX1 1).2.1 (TX1 1).2.2.1 ∈ uw := uw_in (i := 47) (by decide +kernel) (by decide +kernel)
theorem g_X1_13 (X : pCx p s m args c cc nL RX1 E A) {a0 : Nat} {fs : List Value} {v : Value} (hd : decode cc pc = .ok (.getfield 13, 3)) (hh : h a0 = some (ob 1 fs)) (kk : pV p l e R s m args below meth c nL E A Q z h k n (pc + 3) L (v :: st)) (hv : fs[1]? = some v := by rfl) : pV p l e R s m args below meth c nL E A Q z h k n pc L (.ref a0 :: st) := v_get (T := TX1) (ci := 1) (kf := 1) X hd inU1 rfl (by decide) wf_X1_13 hh hv kk
theorem p_X1_13 (X : pCx p s m args c cc nL RX1 E A) {a0 : Nat} {fs fs1 : List Value} {x : Int32} (hd : decode cc pc = .ok (.putfield 13, 3)) (hh : h a0 = some (ob 1 fs)) (kk : pV p l e R s m args below meth c nL E A Q z (pset h a0 (ob 1 fs1)) k n (pc + 3) L st) (hl : 1 < fs.length := by exact Nat.le_of_ble_eq_true rfl) (hfs : fs.set 1 (.int x) = fs1 := by rfl) : pV p l e R s m args below meth c nL E A Q z h k n pc L (.int x :: .ref a0 :: st) := by
  subst hfs
  exact v_put (T := TX1) (ci := 1) (kf := 1) X hd inU1 tyX1 tyX1_ok nmX1 rfl (by decide) wf_X1_13 rfl (ty := .int) (by decide +kernel) rfl rfl hh hl kk
theorem wf_X2_172 : Cond.fieldLink RX2 172 (TX1 1).1 (TX1 1).2.1 (TX1 1).2.2.1 ∈ uw := uw_in (i := 48) (by decide +kernel) (by decide +kernel)
theorem g_X2_172 (X : pCx p s m args c cc nL RX2 E A) {a0 : Nat} {fs : List Value} {v : Value} (hd : decode cc pc = .ok (.getfield 172, 3)) (hh : h a0 = some (ob 1 fs)) (kk : pV p l e R s m args below meth c nL E A Q z h k n (pc + 3) L (v :: st)) (hv : fs[1]? = some v := by rfl) : pV p l e R s m args below meth c nL E A Q z h k n pc L (.ref a0 :: st) := v_get (T := TX1) (ci := 1) (kf := 1) X hd inU1 rfl (by decide) wf_X2_172 hh hv kk
theorem p_X2_172 (X : pCx p s m args c cc nL RX2 E A) {a0 : Nat} {fs fs1 : List Value} {x : Int32} (hd : decode cc pc = .ok (.putfield 172, 3)) (hh : h a0 = some (ob 1 fs)) (kk : pV p l e R s m args below meth c nL E A Q z (pset h a0 (ob 1 fs1)) k n (pc + 3) L st) (hl : 1 < fs.length := by exact Nat.le_of_ble_eq_true rfl) (hfs : fs.set 1 (.int x) = fs1 := by rfl) : pV p l e R s m args below meth c nL E A Q z h k n pc L (.int x :: .ref a0 :: st) := by
  subst hfs
  exact v_put (T := TX1) (ci := 1) (kf := 1) X hd inU1 tyX1 tyX1_ok nmX1 rfl (by decide) wf_X2_172 rfl (ty := .int) (by decide +kernel) rfl rfl hh hl kk
theorem wf_X1_16 : Cond.fieldLink RX1 16 (TX1 2).1 (TX1 2).2.1 (TX1 2).2.2.1 ∈ uw := uw_in (i := 49) (by decide +kernel) (by decide +kernel)
theorem g_X1_16 (X : pCx p s m args c cc nL RX1 E A) {a0 : Nat} {fs : List Value} {v : Value} (hd : decode cc pc = .ok (.getfield 16, 3)) (hh : h a0 = some (ob 1 fs)) (kk : pV p l e R s m args below meth c nL E A Q z h k n (pc + 3) L (v :: st)) (hv : fs[2]? = some v := by rfl) : pV p l e R s m args below meth c nL E A Q z h k n pc L (.ref a0 :: st) := v_get (T := TX1) (ci := 1) (kf := 2) X hd inU1 rfl (by decide) wf_X1_16 hh hv kk
theorem p_X1_16 (X : pCx p s m args c cc nL RX1 E A) {a0 : Nat} {fs fs1 : List Value} {x : Int32} (hd : decode cc pc = .ok (.putfield 16, 3)) (hh : h a0 = some (ob 1 fs)) (kk : pV p l e R s m args below meth c nL E A Q z (pset h a0 (ob 1 fs1)) k n (pc + 3) L st) (hl : 2 < fs.length := by exact Nat.le_of_ble_eq_true rfl) (hfs : fs.set 2 (.int x) = fs1 := by rfl) : pV p l e R s m args below meth c nL E A Q z h k n pc L (.int x :: .ref a0 :: st) := by
  subst hfs
  exact v_put (T := TX1) (ci := 1) (kf := 2) X hd inU1 tyX1 tyX1_ok nmX1 rfl (by decide) wf_X1_16 rfl (ty := .int) (by decide +kernel) rfl rfl hh hl kk
theorem wf_X2_175 : Cond.fieldLink RX2 175 (TX1 2).1 (TX1 2).2.1 (TX1 2).2.2.1 ∈ uw := uw_in (i := 50) (by decide +kernel) (by decide +kernel)
theorem g_X2_175 (X : pCx p s m args c cc nL RX2 E A) {a0 : Nat} {fs : List Value} {v : Value} (hd : decode cc pc = .ok (.getfield 175, 3)) (hh : h a0 = some (ob 1 fs)) (kk : pV p l e R s m args below meth c nL E A Q z h k n (pc + 3) L (v :: st)) (hv : fs[2]? = some v := by rfl) : pV p l e R s m args below meth c nL E A Q z h k n pc L (.ref a0 :: st) := v_get (T := TX1) (ci := 1) (kf := 2) X hd inU1 rfl (by decide) wf_X2_175 hh hv kk
theorem p_X2_175 (X : pCx p s m args c cc nL RX2 E A) {a0 : Nat} {fs fs1 : List Value} {x : Int32} (hd : decode cc pc = .ok (.putfield 175, 3)) (hh : h a0 = some (ob 1 fs)) (kk : pV p l e R s m args below meth c nL E A Q z (pset h a0 (ob 1 fs1)) k n (pc + 3) L st) (hl : 2 < fs.length := by exact Nat.le_of_ble_eq_true rfl) (hfs : fs.set 2 (.int x) = fs1 := by rfl) : pV p l e R s m args below meth c nL E A Q z h k n pc L (.int x :: .ref a0 :: st) := by
  subst hfs
  exact v_put (T := TX1) (ci := 1) (kf := 2) X hd inU1 tyX1 tyX1_ok nmX1 rfl (by decide) wf_X2_175 rfl (ty := .int) (by decide +kernel) rfl rfl hh hl kk
theorem wf_X0_9 : Cond.fieldLink RX0 9 (TX0 0).1 (TX0 0).2.1 (TX0 0).2.2.1 ∈ uw := uw_in (i := 63) (by decide +kernel) (by decide +kernel)
theorem g_X0_9 (X : pCx p s m args c cc nL RX0 E A) {a0 : Nat} {fs : List Value} {v : Value} (hd : decode cc pc = .ok (.getfield 9, 3)) (hh : h a0 = some (ob 0 fs)) (kk : pV p l e R s m args below meth c nL E A Q z h k n (pc + 3) L (v :: st)) (hv : fs[0]? = some v := by rfl) : pV p l e R s m args below meth c nL E A Q z h k n pc L (.ref a0 :: st) := v_get (T := TX0) (ci := 0) (kf := 0) X hd inU0 rfl (by decide) wf_X0_9 hh hv kk
theorem p_X0_9 (X : pCx p s m args c cc nL RX0 E A) {a0 : Nat} {fs fs1 : List Value} {x : Int32} (hd : decode cc pc = .ok (.putfield 9, 3)) (hh : h a0 = some (ob 0 fs)) (kk : pV p l e R s m args below meth c nL E A Q z (pset h a0 (ob 0 fs1)) k n (pc + 3) L st) (hl : 0 < fs.length := by exact Nat.le_of_ble_eq_true rfl) (hfs : fs.set 0 (.int x) = fs1 := by rfl) : pV p l e R s m args below meth c nL E A Q z h k n pc L (.int x :: .ref a0 :: st) := by
  subst hfs
  exact v_put (T := TX0) (ci := 0) (kf := 0) X hd inU0 tyX0 tyX0_ok nmX0 rfl (by decide) wf_X0_9 rfl (ty := .int) (by decide +kernel) rfl rfl hh hl kk
theorem wf_X2_72 : Cond.fieldLink RX2 72 (TX0 0).1 (TX0 0).2.1 (TX0 0).2.2.1 ∈ uw := uw_in (i := 64) (by decide +kernel) (by decide +kernel)
theorem g_X2_72 (X : pCx p s m args c cc nL RX2 E A) {a0 : Nat} {fs : List Value} {v : Value} (hd : decode cc pc = .ok (.getfield 72, 3)) (hh : h a0 = some (ob 0 fs)) (kk : pV p l e R s m args below meth c nL E A Q z h k n (pc + 3) L (v :: st)) (hv : fs[0]? = some v := by rfl) : pV p l e R s m args below meth c nL E A Q z h k n pc L (.ref a0 :: st) := v_get (T := TX0) (ci := 0) (kf := 0) X hd inU0 rfl (by decide) wf_X2_72 hh hv kk
theorem p_X2_72 (X : pCx p s m args c cc nL RX2 E A) {a0 : Nat} {fs fs1 : List Value} {x : Int32} (hd : decode cc pc = .ok (.putfield 72, 3)) (hh : h a0 = some (ob 0 fs)) (kk : pV p l e R s m args below meth c nL E A Q z (pset h a0 (ob 0 fs1)) k n (pc + 3) L st) (hl : 0 < fs.length := by exact Nat.le_of_ble_eq_true rfl) (hfs : fs.set 0 (.int x) = fs1 := by rfl) : pV p l e R s m args below meth c nL E A Q z h k n pc L (.int x :: .ref a0 :: st) := by
  subst hfs
  exact v_put (T := TX0) (ci := 0) (kf := 0) X hd inU0 tyX0 tyX0_ok nmX0 rfl (by decide) wf_X2_72 rfl (ty := .int) (by decide +kernel) rfl rfl hh hl kk
theorem wf_X0_15 : Cond.fieldLink RX0 15 (TX0 1).1 (TX0 1).2.1 (TX0 1).2.2.1 ∈ uw := uw_in (i := 65) (by decide +kernel) (by decide +kernel)
theorem g_X0_15 (X : pCx p s m args c cc nL RX0 E A) {a0 : Nat} {fs : List Value} {v : Value} (hd : decode cc pc = .ok (.getfield 15, 3)) (hh : h a0 = some (ob 0 fs)) (kk : pV p l e R s m args below meth c nL E A Q z h k n (pc + 3) L (v :: st)) (hv : fs[1]? = some v := by rfl) : pV p l e R s m args below meth c nL E A Q z h k n pc L (.ref a0 :: st) := v_get (T := TX0) (ci := 0) (kf := 1) X hd inU0 rfl (by decide) wf_X0_15 hh hv kk
theorem p_X0_15 (X : pCx p s m args c cc nL RX0 E A) {a0 : Nat} {fs fs1 : List Value} {x : Int32} (hd : decode cc pc = .ok (.putfield 15, 3)) (hh : h a0 = some (ob 0 fs)) (kk : pV p l e R s m args below meth c nL E A Q z (pset h a0 (ob 0 fs1)) k n (pc + 3) L st) (hl : 1 < fs.length := by exact Nat.le_of_ble_eq_true rfl) (hfs : fs.set 1 (.int x) = fs1 := by rfl) : pV p l e R s m args below meth c nL E A Q z h k n pc L (.int x :: .ref a0 :: st) := by
  subst hfs
  exact v_put (T := TX0) (ci := 0) (kf := 1) X hd inU0 tyX0 tyX0_ok nmX0 rfl (by decide) wf_X0_15 rfl (ty := .int) (by decide +kernel) rfl rfl hh hl kk
theorem wf_X2_75 : Cond.fieldLink RX2 75 (TX0 1).1 (TX0 1).2.1 (TX0 1).2.2.1 ∈ uw := uw_in (i := 66) (by decide +kernel) (by decide +kernel)
theorem g_X2_75 (X : pCx p s m args c cc nL RX2 E A) {a0 : Nat} {fs : List Value} {v : Value} (hd : decode cc pc = .ok (.getfield 75, 3)) (hh : h a0 = some (ob 0 fs)) (kk : pV p l e R s m args below meth c nL E A Q z h k n (pc + 3) L (v :: st)) (hv : fs[1]? = some v := by rfl) : pV p l e R s m args below meth c nL E A Q z h k n pc L (.ref a0 :: st) := v_get (T := TX0) (ci := 0) (kf := 1) X hd inU0 rfl (by decide) wf_X2_75 hh hv kk
theorem p_X2_75 (X : pCx p s m args c cc nL RX2 E A) {a0 : Nat} {fs fs1 : List Value} {x : Int32} (hd : decode cc pc = .ok (.putfield 75, 3)) (hh : h a0 = some (ob 0 fs)) (kk : pV p l e R s m args below meth c nL E A Q z (pset h a0 (ob 0 fs1)) k n (pc + 3) L st) (hl : 1 < fs.length := by exact Nat.le_of_ble_eq_true rfl) (hfs : fs.set 1 (.int x) = fs1 := by rfl) : pV p l e R s m args below meth c nL E A Q z h k n pc L (.int x :: .ref a0 :: st) := by
  subst hfs
  exact v_put (T := TX0) (ci := 0) (kf := 1) X hd inU0 tyX0 tyX0_ok nmX0 rfl (by decide) wf_X2_75 rfl (ty := .int) (by decide +kernel) rfl rfl hh hl kk
theorem wf_X0_18 : Cond.fieldLink RX0 18 (TX0 2).1 (TX0 2).2.1 (TX0 2).2.2.1 ∈ uw := uw_in (i := 67) (by decide +kernel) (by decide +kernel)
theorem g_X0_18 (X : pCx p s m args c cc nL RX0 E A) {a0 : Nat} {fs : List Value} {v : Value} (hd : decode cc pc = .ok (.getfield 18, 3)) (hh : h a0 = some (ob 0 fs)) (kk : pV p l e R s m args below meth c nL E A Q z h k n (pc + 3) L (v :: st)) (hv : fs[2]? = some v := by rfl) : pV p l e R s m args below meth c nL E A Q z h k n pc L (.ref a0 :: st) := v_get (T := TX0) (ci := 0) (kf := 2) X hd inU0 rfl (by decide) wf_X0_18 hh hv kk
theorem p_X0_18 (X : pCx p s m args c cc nL RX0 E A) {a0 : Nat} {fs fs1 : List Value} {x : Int32} (hd : decode cc pc = .ok (.putfield 18, 3)) (hh : h a0 = some (ob 0 fs)) (kk : pV p l e R s m args below meth c nL E A Q z (pset h a0 (ob 0 fs1)) k n (pc + 3) L st) (hl : 2 < fs.length := by exact Nat.le_of_ble_eq_true rfl) (hfs : fs.set 2 (.int x) = fs1 := by rfl) : pV p l e R s m args below meth c nL E A Q z h k n pc L (.int x :: .ref a0 :: st) := by
  subst hfs
  exact v_put (T := TX0) (ci := 0) (kf := 2) X hd inU0 tyX0 tyX0_ok nmX0 rfl (by decide) wf_X0_18 rfl (ty := .int) (by decide +kernel) rfl rfl hh hl kk
theorem wf_X2_159 : Cond.fieldLink RX2 159 (TX0 2).1 (TX0 2).2.1 (TX0 2).2.2.1 ∈ uw := uw_in (i := 68) (by decide +kernel) (by decide +kernel)
theorem g_X2_159 (X : pCx p s m args c cc nL RX2 E A) {a0 : Nat} {fs : List Value} {v : Value} (hd : decode cc pc = .ok (.getfield 159, 3)) (hh : h a0 = some (ob 0 fs)) (kk : pV p l e R s m args below meth c nL E A Q z h k n (pc + 3) L (v :: st)) (hv : fs[2]? = some v := by rfl) : pV p l e R s m args below meth c nL E A Q z h k n pc L (.ref a0 :: st) := v_get (T := TX0) (ci := 0) (kf := 2) X hd inU0 rfl (by decide) wf_X2_159 hh hv kk
theorem p_X2_159 (X : pCx p s m args c cc nL RX2 E A) {a0 : Nat} {fs fs1 : List Value} {x : Int32} (hd : decode cc pc = .ok (.putfield 159, 3)) (hh : h a0 = some (ob 0 fs)) (kk : pV p l e R s m args below meth c nL E A Q z (pset h a0 (ob 0 fs1)) k n (pc + 3) L st) (hl : 2 < fs.length := by exact Nat.le_of_ble_eq_true rfl) (hfs : fs.set 2 (.int x) = fs1 := by rfl) : pV p l e R s m args below meth c nL E A Q z h k n pc L (.int x :: .ref a0 :: st) := by
  subst hfs
  exact v_put (T := TX0) (ci := 0) (kf := 2) X hd inU0 tyX0 tyX0_ok nmX0 rfl (by decide) wf_X2_159 rfl (ty := .int) (by decide +kernel) rfl rfl hh hl kk
theorem wf_X0_21 : Cond.fieldLink RX0 21 (TX0 3).1 (TX0 3).2.1 (TX0 3).2.2.1 ∈ uw := uw_in (i := 69) (by decide +kernel) (by decide +kernel)
theorem g_X0_21 (X : pCx p s m args c cc nL RX0 E A) {a0 : Nat} {fs : List Value} {v : Value} (hd : decode cc pc = .ok (.getfield 21, 3)) (hh : h a0 = some (ob 0 fs)) (kk : pV p l e R s m args below meth c nL E A Q z h k n (pc + 3) L (v :: st)) (hv : fs[3]? = some v := by rfl) : pV p l e R s m args below meth c nL E A Q z h k n pc L (.ref a0 :: st) := v_get (T := TX0) (ci := 0) (kf := 3) X hd inU0 rfl (by decide) wf_X0_21 hh hv kk
theorem p_X0_21 (X : pCx p s m args c cc nL RX0 E A) {a0 : Nat} {fs fs1 : List Value} {x : Int32} (hd : decode cc pc = .ok (.putfield 21, 3)) (hh : h a0 = some (ob 0 fs)) (kk : pV p l e R s m args below meth c nL E A Q z (pset h a0 (ob 0 fs1)) k n (pc + 3) L st) (hl : 3 < fs.length := by exact Nat.le_of_ble_eq_true rfl) (hfs : fs.set 3 (.int x) = fs1 := by rfl) : pV p l e R s m args below meth c nL E A Q z h k n pc L (.int x :: .ref a0 :: st) := by
  subst hfs
  exact v_put (T := TX0) (ci := 0) (kf := 3) X hd inU0 tyX0 tyX0_ok nmX0 rfl (by decide) wf_X0_21 rfl (ty := .int) (by decide +kernel) rfl rfl hh hl kk
theorem wf_X2_110 : Cond.fieldLink RX2 110 (TX0 3).1 (TX0 3).2.1 (TX0 3).2.2.1 ∈ uw := uw_in (i := 70) (by decide +kernel) (by decide +kernel)
theorem g_X2_110 (X : pCx p s m args c cc nL RX2 E A) {a0 : Nat} {fs : List Value} {v : Value} (hd : decode cc pc = .ok (.getfield 110, 3)) (hh : h a0 = some (ob 0 fs)) (kk : pV p l e R s m args below meth c nL E A Q z h k n (pc + 3) L (v :: st)) (hv : fs[3]? = some v := by rfl) : pV p l e R s m args below meth c nL E A Q z h k n pc L (.ref a0 :: st) := v_get (T := TX0) (ci := 0) (kf := 3) X hd inU0 rfl (by decide) wf_X2_110 hh hv kk
theorem p_X2_110 (X : pCx p s m args c cc nL RX2 E A) {a0 : Nat} {fs fs1 : List Value} {x : Int32} (hd : decode cc pc = .ok (.putfield 110, 3)) (hh : h a0 = some (ob 0 fs)) (kk : pV p l e R s m args below meth c nL E A Q z (pset h a0 (ob 0 fs1)) k n (pc + 3) L st) (hl : 3 < fs.length := by exact Nat.le_of_ble_eq_true rfl) (hfs : fs.set 3 (.int x) = fs1 := by rfl) : pV p l e R s m args below meth c nL E A Q z h k n pc L (.int x :: .ref a0 :: st) := by
  subst hfs
  exact v_put (T := TX0) (ci := 0) (kf := 3) X hd inU0 tyX0 tyX0_ok nmX0 rfl (by decide) wf_X2_110 rfl (ty := .int) (by decide +kernel) rfl rfl hh hl kk
theorem wf_X0_24 : Cond.fieldLink RX0 24 (TX0 4).1 (TX0 4).2.1 (TX0 4).2.2.1 ∈ uw := uw_in (i := 71) (by decide +kernel) (by decide +kernel)
theorem g_X0_24 (X : pCx p s m args c cc nL RX0 E A) {a0 : Nat} {fs : List Value} {v : Value} (hd : decode cc pc = .ok (.getfield 24, 3)) (hh : h a0 = some (ob 0 fs)) (kk : pV p l e R s m args below meth c nL E A Q z h k n (pc + 3) L (v :: st)) (hv : fs[4]? = some v := by rfl) : pV p l e R s m args below meth c nL E A Q z h k n pc L (.ref a0 :: st) := v_get (T := TX0) (ci := 0) (kf := 4) X hd inU0 rfl (by decide) wf_X0_24 hh hv kk
theorem p_X0_24 (X : pCx p s m args c cc nL RX0 E A) {a0 : Nat} {fs fs1 : List Value} {x : Int32} (hd : decode cc pc = .ok (.putfield 24, 3)) (hh : h a0 = some (ob 0 fs)) (kk : pV p l e R s m args below meth c nL E A Q z (pset h a0 (ob 0 fs1)) k n (pc + 3) L st) (hl : 4 < fs.length := by exact Nat.le_of_ble_eq_true rfl) (hfs : fs.set 4 (.int x) = fs1 := by rfl) : pV p l e R s m args below meth c nL E A Q z h k n pc L (.int x :: .ref a0 :: st) := by
  subst hfs
  exact v_put (T := TX0) (ci := 0) (kf := 4) X hd inU0 tyX0 tyX0_ok nmX0 rfl (by decide) wf_X0_24 rfl (ty := .int) (by decide +kernel) rfl rfl hh hl kk
theorem wf_X2_178 : Cond.fieldLink RX2 178 (TX0 4).1 (TX0 4).2.1 (TX0 4).2.2.1 ∈ uw := uw_in (i := 72) (by decide +kernel) (by decide +kernel)
theorem g_X2_178 (X : pCx p s m args c cc nL RX2 E A) {a0 : Nat} {fs : List Value} {v : Value} (hd : decode cc pc = .ok (.getfield 178, 3)) (hh : h a0 = some (ob 0 fs)) (kk : pV p l e R s m args below meth c nL E A Q z h k n (pc + 3) L (v :: st)) (hv : fs[4]? = some v := by rfl) : pV p l e R s m args below meth c nL E A Q z h k n pc L (.ref a0 :: st) := v_get (T := TX0) (ci := 0) (kf := 4) X hd inU0 rfl (by decide) wf_X2_178 hh hv kk
theorem p_X2_178 (X : pCx p s m args c cc nL RX2 E A) {a0 : Nat} {fs fs1 : List Value} {x : Int32} (hd : decode cc pc = .ok (.putfield 178, 3)) (hh : h a0 = some (ob 0 fs)) (kk : pV p l e R s m args below meth c nL E A Q z (pset h a0 (ob 0 fs1)) k n (pc + 3) L st) (hl : 4 < fs.length := by exact Nat.le_of_ble_eq_true rfl) (hfs : fs.set 4 (.int x) = fs1 := by rfl) : pV p l e R s m args below meth c nL E A Q z h k n pc L (.int x :: .ref a0 :: st) := by
  subst hfs
  exact v_put (T := TX0) (ci := 0) (kf := 4) X hd inU0 tyX0 tyX0_ok nmX0 rfl (by decide) wf_X2_178 rfl (ty := .int) (by decide +kernel) rfl rfl hh hl kk
theorem wf_X0_27 : Cond.fieldLink RX0 27 (TX0 5).1 (TX0 5).2.1 (TX0 5).2.2.1 ∈ uw := uw_in (i := 73) (by decide +kernel) (by decide +kernel)
theorem g_X0_27 (X : pCx p s m args c cc nL RX0 E A) {a0 : Nat} {fs : List Value} {v : Value} (hd : decode cc pc = .ok (.getfield 27, 3)) (hh : h a0 = some (ob 0 fs)) (kk : pV p l e R s m args below meth c nL E A Q z h k n (pc + 3) L (v :: st)) (hv : fs[5]? = some v := by rfl) : pV p l e R s m args below meth c nL E A Q z h k n pc L (.ref a0 :: st) := v_get (T := TX0) (ci := 0) (kf := 5) X hd inU0 rfl (by decide) wf_X0_27 hh hv kk
theorem p_X0_27 (X : pCx p s m args c cc nL RX0 E A) {a0 : Nat} {fs fs1 : List Value} {x : Int32} (hd : decode cc pc = .ok (.putfield 27, 3)) (hh : h a0 = some (ob 0 fs)) (kk : pV p l e R s m args below meth c nL E A Q z (pset h a0 (ob 0 fs1)) k n (pc + 3) L st) (hl : 5 < fs.length := by exact Nat.le_of_ble_eq_true rfl) (hfs : fs.set 5 (.int x) = fs1 := by rfl) : pV p l e R s m args below meth c nL E A Q z h k n pc L (.int x :: .ref a0 :: st) := by
  subst hfs
  exact v_put (T := TX0) (ci := 0) (kf := 5) X hd inU0 tyX0 tyX0_ok nmX0 rfl (by decide) wf_X0_27 rfl (ty := .int) (by decide +kernel) rfl rfl hh hl kk
theorem wf_X2_153 : Cond.fieldLink RX2 153 (TX0 5).1 (TX0 5).2.1 (TX0 5).2.2.1 ∈ uw := uw_in (i := 74) (by decide +kernel) (by decide +kernel)
theorem g_X2_153 (X : pCx p s m args c cc nL RX2 E A) {a0 : Nat} {fs : List Value} {v : Value} (hd : decode cc pc = .ok (.getfield 153, 3)) (hh : h a0 = some (ob 0 fs)) (kk : pV p l e R s m args below meth c nL E A Q z h k n (pc + 3) L (v :: st)) (hv : fs[5]? = some v := by rfl) : pV p l e R s m args below meth c nL E A Q z h k n pc L (.ref a0 :: st) := v_get (T := TX0) (ci := 0) (kf := 5) X hd inU0 rfl (by decide) wf_X2_153 hh hv kk
theorem p_X2_153 (X : pCx p s m args c cc nL RX2 E A) {a0 : Nat} {fs fs1 : List Value} {x : Int32} (hd : decode cc pc = .ok (.putfield 153, 3)) (hh : h a0 = some (ob 0 fs)) (kk : pV p l e R s m args below meth c nL E A Q z (pset h a0 (ob 0 fs1)) k n (pc + 3) L st) (hl : 5 < fs.length := by exact Nat.le_of_ble_eq_true rfl) (hfs : fs.set 5 (.int x) = fs1 := by rfl) : pV p l e R s m args below meth c nL E A Q z h k n pc L (.int x :: .ref a0 :: st) := by
  subst hfs
  exact v_put (T := TX0) (ci := 0) (kf := 5) X hd inU0 tyX0 tyX0_ok nmX0 rfl (by decide) wf_X2_153 rfl (ty := .int) (by decide +kernel) rfl rfl hh hl kk
theorem wf_X0_30 : Cond.fieldLink RX0 30 (TX0 6).1 (TX0 6).2.1 (TX0 6).2.2.1 ∈ uw := uw_in (i := 75) (by decide +kernel) (by decide +kernel)
theorem g_X0_30 (X : pCx p s m args c cc nL RX0 E A) {a0 : Nat} {fs : List Value} {v : Value} (hd : decode cc pc = .ok (.getfield 30, 3)) (hh : h a0 = some (ob 0 fs)) (kk : pV p l e R s m args below meth c nL E A Q z h k n (pc + 3) L (v :: st)) (hv : fs[6]? = some v := by rfl) : pV p l e R s m args below meth c nL E A Q z h k n pc L (.ref a0 :: st) := v_get (T := TX0) (ci := 0) (kf := 6) X hd inU0 rfl (by decide) wf_X0_30 hh hv kk
theorem p_X0_30 (X : pCx p s m args c cc nL RX0 E A) {a0 x : Nat} {fs fs1 : List Value} (hd : decode cc pc = .ok (.putfield 30, 3)) (hh : h a0 = some (ob 0 fs)) (hin2 : meth.name = "<init>") (kk : pV p l e R s m args below meth c nL E A Q z (pset h a0 (ob 0 fs1)) k n (pc + 3) L st) (hl : 6 < fs.length := by exact Nat.le_of_ble_eq_true rfl) (hfs : fs.set 6 (.ref x) = fs1 := by rfl) : pV p l e R s m args below meth c nL E A Q z h k n pc L (.ref x :: .ref a0 :: st) := by
  subst hfs
  exact v_putF (T := TX0) (ci := 0) (kf := 6) X hd inU0 tyX0 tyX0_ok nmX0 rfl (by decide) wf_X0_30 rfl hin2 rfl (ty := .array (.boolean)) (by decide +kernel) rfl rfl hh hl kk
theorem wf_X2_81 : Cond.fieldLink RX2 81 (TX0 6).1 (TX0 6).2.1 (TX0 6).2.2.1 ∈ uw := uw_in (i := 76) (by decide +kernel) (by decide +kernel)
theorem g_X2_81 (X : pCx p s m args c cc nL RX2 E A) {a0 : Nat} {fs : List Value} {v : Value} (hd : decode cc pc = .ok (.getfield 81, 3)) (hh : h a0 = some (ob 0 fs)) (kk : pV p l e R s m args below meth c nL E A Q z h k n (pc + 3) L (v :: st)) (hv : fs[6]? = some v := by rfl) : pV p l e R s m args below meth c nL E A Q z h k n pc L (.ref a0 :: st) := v_get (T := TX0) (ci := 0) (kf := 6) X hd inU0 rfl (by decide) wf_X2_81 hh hv kk
theorem wf_X0_34 : Cond.fieldLink RX0 34 (TX0 7).1 (TX0 7).2.1 (TX0 7).2.2.1 ∈ uw := uw_in (i := 77) (by decide +kernel) (by decide +kernel)
theorem g_X0_34 (X : pCx p s m args c cc nL RX0 E A) {a0 : Nat} {fs : List Value} {v : Value} (hd : decode cc pc = .ok (.getfield 34, 3)) (hh : h a0 = some (ob 0 fs)) (kk : pV p l e R s m args below meth c nL E A Q z h k n (pc + 3) L (v :: st)) (hv : fs[7]? = some v := by rfl) : pV p l e R s m args below meth c nL E A Q z h k n pc L (.ref a0 :: st) := v_get (T := TX0) (ci := 0) (kf := 7) X hd inU0 rfl (by decide) wf_X0_34 hh hv kk
theorem p_X0_34 (X : pCx p s m args c cc nL RX0 E A) {a0 x : Nat} {fs fs1 : List Value} (hd : decode cc pc = .ok (.putfield 34, 3)) (hh : h a0 = some (ob 0 fs)) (hin2 : meth.name = "<init>") (kk : pV p l e R s m args below meth c nL E A Q z (pset h a0 (ob 0 fs1)) k n (pc + 3) L st) (hl : 7 < fs.length := by exact Nat.le_of_ble_eq_true rfl) (hfs : fs.set 7 (.ref x) = fs1 := by rfl) : pV p l e R s m args below meth c nL E A Q z h k n pc L (.ref x :: .ref a0 :: st) := by
  subst hfs
  exact v_putF (T := TX0) (ci := 0) (kf := 7) X hd inU0 tyX0 tyX0_ok nmX0 rfl (by decide) wf_X0_34 rfl hin2 rfl (ty := .array (.int)) (by decide +kernel) rfl rfl hh hl kk
theorem wf_X2_97 : Cond.fieldLink RX2 97 (TX0 7).1 (TX0 7).2.1 (TX0 7).2.2.1 ∈ uw := uw_in (i := 78) (by decide +kernel) (by decide +kernel)
theorem g_X2_97 (X : pCx p s m args c cc nL RX2 E A) {a0 : Nat} {fs : List Value} {v : Value} (hd : decode cc pc = .ok (.getfield 97, 3)) (hh : h a0 = some (ob 0 fs)) (kk : pV p l e R s m args below meth c nL E A Q z h k n (pc + 3) L (v :: st)) (hv : fs[7]? = some v := by rfl) : pV p l e R s m args below meth c nL E A Q z h k n pc L (.ref a0 :: st) := v_get (T := TX0) (ci := 0) (kf := 7) X hd inU0 rfl (by decide) wf_X2_97 hh hv kk
theorem wf_X5_9 : Cond.fieldLink RX5 9 (TX5 0).1 (TX5 0).2.1 (TX5 0).2.2.1 ∈ uw := uw_in (i := 103) (by decide +kernel) (by decide +kernel)
theorem g_X5_9 (X : pCx p s m args c cc nL RX5 E A) {a0 : Nat} {fs : List Value} {v : Value} (hd : decode cc pc = .ok (.getfield 9, 3)) (hh : h a0 = some (ob 5 fs)) (kk : pV p l e R s m args below meth c nL E A Q z h k n (pc + 3) L (v :: st)) (hv : fs[0]? = some v := by rfl) : pV p l e R s m args below meth c nL E A Q z h k n pc L (.ref a0 :: st) := v_get (T := TX5) (ci := 5) (kf := 0) X hd inU5 rfl (by decide) wf_X5_9 hh hv kk
theorem p_X5_9 (X : pCx p s m args c cc nL RX5 E A) {a0 : Nat} {fs fs1 : List Value} {x : Int32} (hd : decode cc pc = .ok (.putfield 9, 3)) (hh : h a0 = some (ob 5 fs)) (kk : pV p l e R s m args below meth c nL E A Q z (pset h a0 (ob 5 fs1)) k n (pc + 3) L st) (hl : 0 < fs.length := by exact Nat.le_of_ble_eq_true rfl) (hfs : fs.set 0 (.int x) = fs1 := by rfl) : pV p l e R s m args below meth c nL E A Q z h k n pc L (.int x :: .ref a0 :: st) := by
  subst hfs
  exact v_put (T := TX5) (ci := 5) (kf := 0) X hd inU5 tyX5 tyX5_ok nmX5 rfl (by decide) wf_X5_9 rfl (ty := .int) (by decide +kernel) rfl rfl hh hl kk
theorem wf_X2_113 : Cond.fieldLink RX2 113 (TX5 0).1 (TX5 0).2.1 (TX5 0).2.2.1 ∈ uw := uw_in (i := 104) (by decide +kernel) (by decide +kernel)
theorem g_X2_113 (X : pCx p s m args c cc nL RX2 E A) {a0 : Nat} {fs : List Value} {v : Value} (hd : decode cc pc = .ok (.getfield 113, 3)) (hh : h a0 = some (ob 5 fs)) (kk : pV p l e R s m args below meth c nL E A Q z h k n (pc + 3) L (v :: st)) (hv : fs[0]? = some v := by rfl) : pV p l e R s m args below meth c nL E A Q z h k n pc L (.ref a0 :: st) := v_get (T := TX5) (ci := 5) (kf := 0) X hd inU5 rfl (by decide) wf_X2_113 hh hv kk
theorem p_X2_113 (X : pCx p s m args c cc nL RX2 E A) {a0 : Nat} {fs fs1 : List Value} {x : Int32} (hd : decode cc pc = .ok (.putfield 113, 3)) (hh : h a0 = some (ob 5 fs)) (kk : pV p l e R s m args below meth c nL E A Q z (pset h a0 (ob 5 fs1)) k n (pc + 3) L st) (hl : 0 < fs.length := by exact Nat.le_of_ble_eq_true rfl) (hfs : fs.set 0 (.int x) = fs1 := by rfl) : pV p l e R s m args below meth c nL E A Q z h k n pc L (.int x :: .ref a0 :: st) := by
  subst hfs
  exact v_put (T := TX5) (ci := 5) (kf := 0) X hd inU5 tyX5 tyX5_ok nmX5 rfl (by decide) wf_X2_113 rfl (ty := .int) (by decide +kernel) rfl rfl hh hl kk
theorem wf_X5_15 : Cond.fieldLink RX5 15 (TX5 1).1 (TX5 1).2.1 (TX5 1).2.2.1 ∈ uw := uw_in (i := 105) (by decide +kernel) (by decide +kernel)
theorem g_X5_15 (X : pCx p s m args c cc nL RX5 E A) {a0 : Nat} {fs : List Value} {v : Value} (hd : decode cc pc = .ok (.getfield 15, 3)) (hh : h a0 = some (ob 5 fs)) (kk : pV p l e R s m args below meth c nL E A Q z h k n (pc + 3) L (v :: st)) (hv : fs[1]? = some v := by rfl) : pV p l e R s m args below meth c nL E A Q z h k n pc L (.ref a0 :: st) := v_get (T := TX5) (ci := 5) (kf := 1) X hd inU5 rfl (by decide) wf_X5_15 hh hv kk
theorem p_X5_15 (X : pCx p s m args c cc nL RX5 E A) {a0 : Nat} {fs fs1 : List Value} {x : Int32} (hd : decode cc pc = .ok (.putfield 15, 3)) (hh : h a0 = some (ob 5 fs)) (kk : pV p l e R s m args below meth c nL E A Q z (pset h a0 (ob 5 fs1)) k n (pc + 3) L st) (hl : 1 < fs.length := by exact Nat.le_of_ble_eq_true rfl) (hfs : fs.set 1 (.int x) = fs1 := by rfl) : pV p l e R s m args below meth c nL E A Q z h k n pc L (.int x :: .ref a0 :: st) := by
  subst hfs
  exact v_put (T := TX5) (ci := 5) (kf := 1) X hd inU5 tyX5 tyX5_ok nmX5 rfl (by decide) wf_X5_15 rfl (ty := .int) (by decide +kernel) rfl rfl hh hl kk
theorem wf_X2_116 : Cond.fieldLink RX2 116 (TX5 1).1 (TX5 1).2.1 (TX5 1).2.2.1 ∈ uw := uw_in (i := 106) (by decide +kernel) (by decide +kernel)
theorem g_X2_116 (X : pCx p s m args c cc nL RX2 E A) {a0 : Nat} {fs : List Value} {v : Value} (hd : decode cc pc = .ok (.getfield 116, 3)) (hh : h a0 = some (ob 5 fs)) (kk : pV p l e R s m args below meth c nL E A Q z h k n (pc + 3) L (v :: st)) (hv : fs[1]? = some v := by rfl) : pV p l e R s m args below meth c nL E A Q z h k n pc L (.ref a0 :: st) := v_get (T := TX5) (ci := 5) (kf := 1) X hd inU5 rfl (by decide) wf_X2_116 hh hv kk
theorem p_X2_116 (X : pCx p s m args c cc nL RX2 E A) {a0 : Nat} {fs fs1 : List Value} {x : Int32} (hd : decode cc pc = .ok (.putfield 116, 3)) (hh : h a0 = some (ob 5 fs)) (kk : pV p l e R s m args below meth c nL E A Q z (pset h a0 (ob 5 fs1)) k n (pc + 3) L st) (hl : 1 < fs.length := by exact Nat.le_of_ble_eq_true rfl) (hfs : fs.set 1 (.int x) = fs1 := by rfl) : pV p l e R s m args below meth c nL E A Q z h k n pc L (.int x :: .ref a0 :: st) := by
  subst hfs
  exact v_put (T := TX5) (ci := 5) (kf := 1) X hd inU5 tyX5 tyX5_ok nmX5 rfl (by decide) wf_X2_116 rfl (ty := .int) (by decide +kernel) rfl rfl hh hl kk
theorem wf_X5_18 : Cond.fieldLink RX5 18 (TX5 2).1 (TX5 2).2.1 (TX5 2).2.2.1 ∈ uw := uw_in (i := 107) (by decide +kernel) (by decide +kernel)
theorem g_X5_18 (X : pCx p s m args c cc nL RX5 E A) {a0 : Nat} {fs : List Value} {v : Value} (hd : decode cc pc = .ok (.getfield 18, 3)) (hh : h a0 = some (ob 5 fs)) (kk : pV p l e R s m args below meth c nL E A Q z h k n (pc + 3) L (v :: st)) (hv : fs[2]? = some v := by rfl) : pV p l e R s m args below meth c nL E A Q z h k n pc L (.ref a0 :: st) := v_get (T := TX5) (ci := 5) (kf := 2) X hd inU5 rfl (by decide) wf_X5_18 hh hv kk
theorem p_X5_18 (X : pCx p s m args c cc nL RX5 E A) {a0 : Nat} {fs fs1 : List Value} {x : Int32} (hd : decode cc pc = .ok (.putfield 18, 3)) (hh : h a0 = some (ob 5 fs)) (kk : pV p l e R s m args below meth c nL E A Q z (pset h a0 (ob 5 fs1)) k n (pc + 3) L st) (hl : 2 < fs.length := by exact Nat.le_of_ble_eq_true rfl) (hfs : fs.set 2 (.int x) = fs1 := by rfl) : pV p l e R s m args below meth c nL E A Q z h k n pc L (.int x :: .ref a0 :: st) := by
  subst hfs
  exact v_put (T := TX5) (ci := 5) (kf := 2) X hd inU5 tyX5 tyX5_ok nmX5 rfl (by decide) wf_X5_18 rfl (ty := .int) (by decide +kernel) rfl rfl hh hl kk
theorem wf_X2_119 : Cond.fieldLink RX2 119 (TX5 2).1 (TX5 2).2.1 (TX5 2).2.2.1 ∈ uw := uw_in (i := 108) (by decide +kernel) (by decide +kernel)
theorem g_X2_119 (X : pCx p s m args c cc nL RX2 E A) {a0 : Nat} {fs : List Value} {v : Value} (hd : decode cc pc = .ok (.getfield 119, 3)) (hh : h a0 = some (ob 5 fs)) (kk : pV p l e R s m args below meth c nL E A Q z h k n (pc + 3) L (v :: st)) (hv : fs[2]? = some v := by rfl) : pV p l e R s m args below meth c nL E A Q z h k n pc L (.ref a0 :: st) := v_get (T := TX5) (ci := 5) (kf := 2) X hd inU5 rfl (by decide) wf_X2_119 hh hv kk
theorem p_X2_119 (X : pCx p s m args c cc nL RX2 E A) {a0 : Nat} {fs fs1 : List Value} {x : Int32} (hd : decode cc pc = .ok (.putfield 119, 3)) (hh : h a0 = some (ob 5 fs)) (kk : pV p l e R s m args below meth c nL E A Q z (pset h a0 (ob 5 fs1)) k n (pc + 3) L st) (hl : 2 < fs.length := by exact Nat.le_of_ble_eq_true rfl) (hfs : fs.set 2 (.int x) = fs1 := by rfl) : pV p l e R s m args below meth c nL E A Q z h k n pc L (.int x :: .ref a0 :: st) := by
  subst hfs
  exact v_put (T := TX5) (ci := 5) (kf := 2) X hd inU5 tyX5 tyX5_ok nmX5 rfl (by decide) wf_X2_119 rfl (ty := .int) (by decide +kernel) rfl rfl hh hl kk
theorem wf_X5_21 : Cond.fieldLink RX5 21 (TX5 3).1 (TX5 3).2.1 (TX5 3).2.2.1 ∈ uw := uw_in (i := 109) (by decide +kernel) (by decide +kernel)
theorem g_X5_21 (X : pCx p s m args c cc nL RX5 E A) {a0 : Nat} {fs : List Value} {v : Value} (hd : decode cc pc = .ok (.getfield 21, 3)) (hh : h a0 = some (ob 5 fs)) (kk : pV p l e R s m args below meth c nL E A Q z h k n (pc + 3) L (v :: st)) (hv : fs[3]? = some v := by rfl) : pV p l e R s m args below meth c nL E A Q z h k n pc L (.ref a0 :: st) := v_get (T := TX5) (ci := 5) (kf := 3) X hd inU5 rfl (by decide) wf_X5_21 hh hv kk
theorem p_X5_21 (X : pCx p s m args c cc nL RX5 E A) {a0 : Nat} {fs fs1 : List Value} {x : Int32} (hd : decode cc pc = .ok (.putfield 21, 3)) (hh : h a0 = some (ob 5 fs)) (kk : pV p l e R s m args below meth c nL E A Q z (pset h a0 (ob 5 fs1)) k n (pc + 3) L st) (hl : 3 < fs.length := by exact Nat.le_of_ble_eq_true rfl) (hfs : fs.set 3 (.int x) = fs1 := by rfl) : pV p l e R s m args below meth c nL E A Q z h k n pc L (.int x :: .ref a0 :: st) := by
  subst hfs
  exact v_put (T := TX5) (ci := 5) (kf := 3) X hd inU5 tyX5 tyX5_ok nmX5 rfl (by decide) wf_X5_21 rfl (ty := .int) (by decide +kernel) rfl rfl hh hl kk
theorem wf_X2_123 : Cond.fieldLink RX2 123 (TX5 3).1 (TX5 3).2.1 (TX5 3).2.2.1 ∈ uw := uw_in (i := 110) (by decide +kernel) (by decide +kernel)
theorem g_X2_123 (X : pCx p s m args c cc nL RX2 E A) {a0 : Nat} {fs : List Value} {v : Value} (hd : decode cc pc = .ok (.getfield 123, 3)) (hh : h a0 = some (ob 5 fs)) (kk : pV p l e R s m args below meth c nL E A Q z h k n (pc + 3) L (v :: st)) (hv : fs[3]? = some v := by rfl) : pV p l e R s m args below meth c nL E A Q z h k n pc L (.ref a0 :: st) := v_get (T := TX5) (ci := 5) (kf := 3) X hd inU5 rfl (by decide) wf_X2_123 hh hv kk
theorem p_X2_123 (X : pCx p s m args c cc nL RX2 E A) {a0 : Nat} {fs fs1 : List Value} {x : Int32} (hd : decode cc pc = .ok (.putfield 123, 3)) (hh : h a0 = some (ob 5 fs)) (kk : pV p l e R s m args below meth c nL E A Q z (pset h a0 (ob 5 fs1)) k n (pc + 3) L st) (hl : 3 < fs.length := by exact Nat.le_of_ble_eq_true rfl) (hfs : fs.set 3 (.int x) = fs1 := by rfl) : pV p l e R s m args below meth c nL E A Q z h k n pc L (.int x :: .ref a0 :: st) := by
  subst hfs
  exact v_put (T := TX5) (ci := 5) (kf := 3) X hd inU5 tyX5 tyX5_ok nmX5 rfl (by decide) wf_X2_123 rfl (ty := .int) (by decide +kernel) rfl rfl hh hl kk
theorem wf_X5_24 : Cond.fieldLink RX5 24 (TX5 4).1 (TX5 4).2.1 (TX5 4).2.2.1 ∈ uw := uw_in (i := 111) (by decide +kernel) (by decide +kernel)
theorem g_X5_24 (X : pCx p s m args c cc nL RX5 E A) {a0 : Nat} {fs : List Value} {v : Value} (hd : decode cc pc = .ok (.getfield 24, 3)) (hh : h a0 = some (ob 5 fs)) (kk : pV p l e R s m args below meth c nL E A Q z h k n (pc + 3) L (v :: st)) (hv : fs[4]? = some v := by rfl) : pV p l e R s m args below meth c nL E A Q z h k n pc L (.ref a0 :: st) := v_get (T := TX5) (ci := 5) (kf := 4) X hd inU5 rfl (by decide) wf_X5_24 hh hv kk
theorem p_X5_24 (X : pCx p s m args c cc nL RX5 E A) {a0 : Nat} {fs fs1 : List Value} {x : Int32} (hd : decode cc pc = .ok (.putfield 24, 3)) (hh : h a0 = some (ob 5 fs)) (kk : pV p l e R s m args below meth c nL E A Q z (pset h a0 (ob 5 fs1)) k n (pc + 3) L st) (hl : 4 < fs.length := by exact Nat.le_of_ble_eq_true rfl) (hfs : fs.set 4 (.int x) = fs1 := by rfl) : pV p l e R s m args below meth c nL E A Q z h k n pc L (.int x :: .ref a0 :: st) := by
  subst hfs
  exact v_put (T := TX5) (ci := 5) (kf := 4) X hd inU5 tyX5 tyX5_ok nmX5 rfl (by decide) wf_X5_24 rfl (ty := .int) (by decide +kernel) rfl rfl hh hl kk
theorem wf_X2_126 : Cond.fieldLink RX2 126 (TX5 4).1 (TX5 4).2.1 (TX5 4).2.2.1 ∈ uw := uw_in (i := 112) (by decide +kernel) (by decide +kernel)
theorem g_X2_126 (X : pCx p s m args c cc nL RX2 E A) {a0 : Nat} {fs : List Value} {v : Value} (hd : decode cc pc = .ok (.getfield 126, 3)) (hh : h a0 = some (ob 5 fs)) (kk : pV p l e R s m args below meth c nL E A Q z h k n (pc + 3) L (v :: st)) (hv : fs[4]? = some v := by rfl) : pV p l e R s m args below meth c nL E A Q z h k n pc L (.ref a0 :: st) := v_get (T := TX5) (ci := 5) (kf := 4) X hd inU5 rfl (by decide) wf_X2_126 hh hv kk
theorem p_X2_126 (X : pCx p s m args c cc nL RX2 E A) {a0 : Nat} {fs fs1 : List Value} {x : Int32} (hd : decode cc pc = .ok (.putfield 126, 3)) (hh : h a0 = some (ob 5 fs)) (kk : pV p l e R s m args below meth c nL E A Q z (pset h a0 (ob 5 fs1)) k n (pc + 3) L st) (hl : 4 < fs.length := by exact Nat.le_of_ble_eq_true rfl) (hfs : fs.set 4 (.int x) = fs1 := by rfl) : pV p l e R s m args below meth c nL E A Q z h k n pc L (.int x :: .ref a0 :: st) := by
  subst hfs
  exact v_put (T := TX5) (ci := 5) (kf := 4) X hd inU5 tyX5 tyX5_ok nmX5 rfl (by decide) wf_X2_126 rfl (ty := .int) (by decide +kernel) rfl rfl hh hl kk
theorem wf_X2_9 : Cond.fieldLink RX2 9 (TX2 0).1 (TX2 0).2.1 (TX2 0).2.2.1 ∈ uw := uw_in (i := 124) (by decide +kernel) (by decide +kernel)
theorem g_X2_9 (X : pCx p s m args c cc nL RX2 E A) {a0 : Nat} {fs : List Value} {v : Value} (hd : decode cc pc = .ok (.getfield 9, 3)) (hh : h a0 = some (ob 2 fs)) (kk : pV p l e R s m args below meth c nL E A Q z h k n (pc + 3) L (v :: st)) (hv : fs[0]? = some v := by rfl) : pV p l e R s m args below meth c nL E A Q z h k n pc L (.ref a0 :: st) := v_get (T := TX2) (ci := 2) (kf := 0) X hd inU2 rfl (by decide) wf_X2_9 hh hv kk
theorem p_X2_9 (X : pCx p s m args c cc nL RX2 E A) {a0 : Nat} {fs fs1 : List Value} {x : Int32} (hd : decode cc pc = .ok (.putfield 9, 3)) (hh : h a0 = some (ob 2 fs)) (kk : pV p l e R s m args below meth c nL E A Q z (pset h a0 (ob 2 fs1)) k n (pc + 3) L st) (hl : 0 < fs.length := by exact Nat.le_of_ble_eq_true rfl) (hfs : fs.set 0 (.int x) = fs1 := by rfl) : pV p l e R s m args below meth c nL E A Q z h k n pc L (.int x :: .ref a0 :: st) := by
  subst hfs
  exact v_put (T := TX2) (ci := 2) (kf := 0) X hd inU2 tyX2 tyX2_ok nmX2 rfl (by decide) wf_X2_9 rfl (ty := .int) (by decide +kernel) rfl rfl hh hl kk
theorem wf_X4_34 : Cond.fieldLink RX4 34 (TX2 0).1 (TX2 0).2.1 (TX2 0).2.2.1 ∈ uw := uw_in (i := 125) (by decide +kernel) (by decide +kernel)
theorem g_X4_34 (X : pCx p s m args c cc nL RX4 E A) {a0 : Nat} {fs : List Value} {v : Value} (hd : decode cc pc = .ok (.getfield 34, 3)) (hh : h a0 = some (ob 2 fs)) (kk : pV p l e R s m args below meth c nL E A Q z h k n (pc + 3) L (v :: st)) (hv : fs[0]? = some v := by rfl) : pV p l e R s m args below meth c nL E A Q z h k n pc L (.ref a0 :: st) := v_get (T := TX2) (ci := 2) (kf := 0) X hd inU2 rfl (by decide) wf_X4_34 hh hv kk
theorem p_X4_34 (X : pCx p s m args c cc nL RX4 E A) {a0 : Nat} {fs fs1 : List Value} {x : Int32} (hd : decode cc pc = .ok (.putfield 34, 3)) (hh : h a0 = some (ob 2 fs)) (kk : pV p l e R s m args below meth c nL E A Q z (pset h a0 (ob 2 fs1)) k n (pc + 3) L st) (hl : 0 < fs.length := by exact Nat.le_of_ble_eq_true rfl) (hfs : fs.set 0 (.int x) = fs1 := by rfl) : pV p l e R s m args below meth c nL E A Q z h k n pc L (.int x :: .ref a0 :: st) := by
  subst hfs
  exact v_put (T := TX2) (ci := 2) (kf := 0) X hd inU2 tyX2 tyX2_ok nmX2 rfl (by decide) wf_X4_34 rfl (ty := .int) (by decide +kernel) rfl rfl hh hl kk
theorem wf_X6_103 : Cond.fieldLink RX6 103 (TX2 0).1 (TX2 0).2.1 (TX2 0).2.2.1 ∈ uw := uw_in (i := 126) (by decide +kernel) (by decide +kernel)
theorem g_X6_103 (X : pCx p s m args c cc nL RX6 E A) {a0 : Nat} {fs : List Value} {v : Value} (hd : decode cc pc = .ok (.getfield 103, 3)) (hh : h a0 = some (ob 2 fs)) (kk : pV p l e R s m args below meth c nL E A Q z h k n (pc + 3) L (v :: st)) (hv : fs[0]? = some v := by rfl) : pV p l e R s m args below meth c nL E A Q z h k n pc L (.ref a0 :: st) := v_get (T := TX2) (ci := 2) (kf := 0) X hd inU2 rfl (by decide) wf_X6_103 hh hv kk
theorem p_X6_103 (X : pCx p s m args c cc nL RX6 E A) {a0 : Nat} {fs fs1 : List Value} {x : Int32} (hd : decode cc pc = .ok (.putfield 103, 3)) (hh : h a0 = some (ob 2 fs)) (kk : pV p l e R s m args below meth c nL E A Q z (pset h a0 (ob 2 fs1)) k n (pc + 3) L st) (hl : 0 < fs.length := by exact Nat.le_of_ble_eq_true rfl) (hfs : fs.set 0 (.int x) = fs1 := by rfl) : pV p l e R s m args below meth c nL E A Q z h k n pc L (.int x :: .ref a0 :: st) := by
  subst hfs
  exact v_put (T := TX2) (ci := 2) (kf := 0) X hd inU2 tyX2 tyX2_ok nmX2 rfl (by decide) wf_X6_103 rfl (ty := .int) (by decide +kernel) rfl rfl hh hl kk
theorem wf_X2_15 : Cond.fieldLink RX2 15 (TX2 1).1 (TX2 1).2.1 (TX2 1).2.2.1 ∈ uw := uw_in (i := 127) (by decide +kernel) (by decide +kernel)
theorem g_X2_15 (X : pCx p s m args c cc nL RX2 E A) {a0 : Nat} {fs : List Value} {v : Value} (hd : decode cc pc = .ok (.getfield 15, 3)) (hh : h a0 = some (ob 2 fs)) (kk : pV p l e R s m args below meth c nL E A Q z h k n (pc + 3) L (v :: st)) (hv : fs[1]? = some v := by rfl) : pV p l e R s m args below meth c nL E A Q z h k n pc L (.ref a0 :: st) := v_get (T := TX2) (ci := 2) (kf := 1) X hd inU2 rfl (by decide) wf_X2_15 hh hv kk
theorem p_X2_15 (X : pCx p s m args c cc nL RX2 E A) {a0 : Nat} {fs fs1 : List Value} {x : Int32} (hd : decode cc pc = .ok (.putfield 15, 3)) (hh : h a0 = some (ob 2 fs)) (kk : pV p l e R s m args below meth c nL E A Q z (pset h a0 (ob 2 fs1)) k n (pc + 3) L st) (hl : 1 < fs.length := by exact Nat.le_of_ble_eq_true rfl) (hfs : fs.set 1 (.int x) = fs1 := by rfl) : pV p l e R s m args below meth c nL E A Q z h k n pc L (.int x :: .ref a0 :: st) := by
  subst hfs
  exact v_put (T := TX2) (ci := 2) (kf := 1) X hd inU2 tyX2 tyX2_ok nmX2 rfl (by decide) wf_X2_15 rfl (ty := .int) (by decide +kernel) rfl rfl hh hl kk
theorem wf_X6_121 : Cond.fieldLink RX6 121 (TX2 1).1 (TX2 1).2.1 (TX2 1).2.2.1 ∈ uw := uw_in (i := 128) (by decide +kernel) (by decide +kernel)
theorem g_X6_121 (X : pCx p s m args c cc nL RX6 E A) {a0 : Nat} {fs : List Value} {v : Value} (hd : decode cc pc = .ok (.getfield 121, 3)) (hh : h a0 = some (ob 2 fs)) (kk : pV p l e R s m args below meth c nL E A Q z h k n (pc + 3) L (v :: st)) (hv : fs[1]? = some v := by rfl) : pV p l e R s m args below meth c nL E A Q z h k n pc L (.ref a0 :: st) := v_get (T := TX2) (ci := 2) (kf := 1) X hd inU2 rfl (by decide) wf_X6_121 hh hv kk
theorem p_X6_121 (X : pCx p s m args c cc nL RX6 E A) {a0 : Nat} {fs fs1 : List Value} {x : Int32} (hd : decode cc pc = .ok (.putfield 121, 3)) (hh : h a0 = some (ob 2 fs)) (kk : pV p l e R s m args below meth c nL E A Q z (pset h a0 (ob 2 fs1)) k n (pc + 3) L st) (hl : 1 < fs.length := by exact Nat.le_of_ble_eq_true rfl) (hfs : fs.set 1 (.int x) = fs1 := by rfl) : pV p l e R s m args below meth c nL E A Q z h k n pc L (.int x :: .ref a0 :: st) := by
  subst hfs
  exact v_put (T := TX2) (ci := 2) (kf := 1) X hd inU2 tyX2 tyX2_ok nmX2 rfl (by decide) wf_X6_121 rfl (ty := .int) (by decide +kernel) rfl rfl hh hl kk
theorem wf_X2_18 : Cond.fieldLink RX2 18 (TX2 2).1 (TX2 2).2.1 (TX2 2).2.2.1 ∈ uw := uw_in (i := 129) (by decide +kernel) (by decide +kernel)
theorem g_X2_18 (X : pCx p s m args c cc nL RX2 E A) {a0 : Nat} {fs : List Value} {v : Value} (hd : decode cc pc = .ok (.getfield 18, 3)) (hh : h a0 = some (ob 2 fs)) (kk : pV p l e R s m args below meth c nL E A Q z h k n (pc + 3) L (v :: st)) (hv : fs[2]? = some v := by rfl) : pV p l e R s m args below meth c nL E A Q z h k n pc L (.ref a0 :: st) := v_get (T := TX2) (ci := 2) (kf := 2) X hd inU2 rfl (by decide) wf_X2_18 hh hv kk
theorem p_X2_18 (X : pCx p s m args c cc nL RX2 E A) {a0 : Nat} {fs fs1 : List Value} {x : Int32} (hd : decode cc pc = .ok (.putfield 18, 3)) (hh : h a0 = some (ob 2 fs)) (kk : pV p l e R s m args below meth c nL E A Q z (pset h a0 (ob 2 fs1)) k n (pc + 3) L st) (hl : 2 < fs.length := by exact Nat.le_of_ble_eq_true rfl) (hfs : fs.set 2 (.int x) = fs1 := by rfl) : pV p l e R s m args below meth c nL E A Q z h k n pc L (.int x :: .ref a0 :: st) := by
  subst hfs
  exact v_put (T := TX2) (ci := 2) (kf := 2) X hd inU2 tyX2 tyX2_ok nmX2 rfl (by decide) wf_X2_18 rfl (ty := .int) (by decide +kernel) rfl rfl hh hl kk
theorem wf_X6_118 : Cond.fieldLink RX6 118 (TX2 2).1 (TX2 2).2.1 (TX2 2).2.2.1 ∈ uw := uw_in (i := 130) (by decide +kernel) (by decide +kernel)
theorem g_X6_118 (X : pCx p s m args c cc nL RX6 E A) {a0 : Nat} {fs : List Value} {v : Value} (hd : decode cc pc = .ok (.getfield 118, 3)) (hh : h a0 = some (ob 2 fs)) (kk : pV p l e R s m args below meth c nL E A Q z h k n (pc + 3) L (v :: st)) (hv : fs[2]? = some v := by rfl) : pV p l e R s m args below meth c nL E A Q z h k n pc L (.ref a0 :: st) := v_get (T := TX2) (ci := 2) (kf := 2) X hd inU2 rfl (by decide) wf_X6_118 hh hv kk
theorem p_X6_118 (X : pCx p s m args c cc nL RX6 E A) {a0 : Nat} {fs fs1 : List Value} {x : Int32} (hd : decode cc pc = .ok (.putfield 118, 3)) (hh : h a0 = some (ob 2 fs)) (kk : pV p l e R s m args below meth c nL E A Q z (pset h a0 (ob 2 fs1)) k n (pc + 3) L st) (hl : 2 < fs.length := by exact Nat.le_of_ble_eq_true rfl) (hfs : fs.set 2 (.int x) = fs1 := by rfl) : pV p l e R s m args below meth c nL E A Q z h k n pc L (.int x :: .ref a0 :: st) := by
  subst hfs
  exact v_put (T := TX2) (ci := 2) (kf := 2) X hd inU2 tyX2 tyX2_ok nmX2 rfl (by decide) wf_X6_118 rfl (ty := .int) (by decide +kernel) rfl rfl hh hl kk
theorem wf_X2_21 : Cond.fieldLink RX2 21 (TX2 3).1 (TX2 3).2.1 (TX2 3).2.2.1 ∈ uw := uw_in (i := 131) (by decide +kernel) (by decide +kernel)
theorem g_X2_21 (X : pCx p s m args c cc nL RX2 E A) {a0 : Nat} {fs : List Value} {v : Value} (hd : decode cc pc = .ok (.getfield 21, 3)) (hh : h a0 = some (ob 2 fs)) (kk : pV p l e R s m args below meth c nL E A Q z h k n (pc + 3) L (v :: st)) (hv : fs[3]? = some v := by rfl) : pV p l e R s m args below meth c nL E A Q z h k n pc L (.ref a0 :: st) := v_get (T := TX2) (ci := 2) (kf := 3) X hd inU2 rfl (by decide) wf_X2_21 hh hv kk
theorem p_X2_21 (X : pCx p s m args c cc nL RX2 E A) {a0 : Nat} {fs fs1 : List Value} {x : Int32} (hd : decode cc pc = .ok (.putfield 21, 3)) (hh : h a0 = some (ob 2 fs)) (kk : pV p l e R s m args below meth c nL E A Q z (pset h a0 (ob 2 fs1)) k n (pc + 3) L st) (hl : 3 < fs.length := by exact Nat.le_of_ble_eq_true rfl) (hfs : fs.set 3 (.int x) = fs1 := by rfl) : pV p l e R s m args below meth c nL E A Q z h k n pc L (.int x :: .ref a0 :: st) := by
  subst hfs
  exact v_put (T := TX2) (ci := 2) (kf := 3) X hd inU2 tyX2 tyX2_ok nmX2 rfl (by decide) wf_X2_21 rfl (ty := .int) (by decide +kernel) rfl rfl hh hl kk
theorem wf_X6_106 : Cond.fieldLink RX6 106 (TX2 3).1 (TX2 3).2.1 (TX2 3).2.2.1 ∈ uw := uw_in (i := 132) (by decide +kernel) (by decide +kernel)
theorem g_X6_106 (X : pCx p s m args c cc nL RX6 E A) {a0 : Nat} {fs : List Value} {v : Value} (hd : decode cc pc = .ok (.getfield 106, 3)) (hh : h a0 = some (ob 2 fs)) (kk : pV p l e R s m args below meth c nL E A Q z h k n (pc + 3) L (v :: st)) (hv : fs[3]? = some v := by rfl) : pV p l e R s m args below meth c nL E A Q z h k n pc L (.ref a0 :: st) := v_get (T := TX2) (ci := 2) (kf := 3) X hd inU2 rfl (by decide) wf_X6_106 hh hv kk
theorem p_X6_106 (X : pCx p s m args c cc nL RX6 E A) {a0 : Nat} {fs fs1 : List Value} {x : Int32} (hd : decode cc pc = .ok (.putfield 106, 3)) (hh : h a0 = some (ob 2 fs)) (kk : pV p l e R s m args below meth c nL E A Q z (pset h a0 (ob 2 fs1)) k n (pc + 3) L st) (hl : 3 < fs.length := by exact Nat.le_of_ble_eq_true rfl) (hfs : fs.set 3 (.int x) = fs1 := by rfl) : pV p l e R s m args below meth c nL E A Q z h k n pc L (.int x :: .ref a0 :: st) := by
  subst hfs
  exact v_put (T := TX2) (ci := 2) (kf := 3) X hd inU2 tyX2 tyX2_ok nmX2 rfl (by decide) wf_X6_106 rfl (ty := .int) (by decide +kernel) rfl rfl hh hl kk
theorem wf_X2_24 : Cond.fieldLink RX2 24 (TX2 4).1 (TX2 4).2.1 (TX2 4).2.2.1 ∈ uw := uw_in (i := 133) (by decide +kernel) (by decide +kernel)
theorem g_X2_24 (X : pCx p s m args c cc nL RX2 E A) {a0 : Nat} {fs : List Value} {v : Value} (hd : decode cc pc = .ok (.getfield 24, 3)) (hh : h a0 = some (ob 2 fs)) (kk : pV p l e R s m args below meth c nL E A Q z h k n (pc + 3) L (v :: st)) (hv : fs[4]? = some v := by rfl) : pV p l e R s m args below meth c nL E A Q z h k n pc L (.ref a0 :: st) := v_get (T := TX2) (ci := 2) (kf := 4) X hd inU2 rfl (by decide) wf_X2_24 hh hv kk
theorem p_X2_24 (X : pCx p s m args c cc nL RX2 E A) {a0 : Nat} {fs fs1 : List Value} {x : Int32} (hd : decode cc pc = .ok (.putfield 24, 3)) (hh : h a0 = some (ob 2 fs)) (kk : pV p l e R s m args below meth c nL E A Q z (pset h a0 (ob 2 fs1)) k n (pc + 3) L st) (hl : 4 < fs.length := by exact Nat.le_of_ble_eq_true rfl) (hfs : fs.set 4 (.int x) = fs1 := by rfl) : pV p l e R s m args below meth c nL E A Q z h k n pc L (.int x :: .ref a0 :: st) := by
  subst hfs
  exact v_put (T := TX2) (ci := 2) (kf := 4) X hd inU2 tyX2 tyX2_ok nmX2 rfl (by decide) wf_X2_24 rfl (ty := .int) (by decide +kernel) rfl rfl hh hl kk
theorem wf_X6_109 : Cond.fieldLink RX6 109 (TX2 4).1 (TX2 4).2.1 (TX2 4).2.2.1 ∈ uw := uw_in (i := 134) (by decide +kernel) (by decide +kernel)
theorem g_X6_109 (X : pCx p s m args c cc nL RX6 E A) {a0 : Nat} {fs : List Value} {v : Value} (hd : decode cc pc = .ok (.getfield 109, 3)) (hh : h a0 = some (ob 2 fs)) (kk : pV p l e R s m args below meth c nL E A Q z h k n (pc + 3) L (v :: st)) (hv : fs[4]? = some v := by rfl) : pV p l e R s m args below meth c nL E A Q z h k n pc L (.ref a0 :: st) := v_get (T := TX2) (ci := 2) (kf := 4) X hd inU2 rfl (by decide) wf_X6_109 hh hv kk
theorem p_X6_109 (X : pCx p s m args c cc nL RX6 E A) {a0 : Nat} {fs fs1 : List Value} {x : Int32} (hd : decode cc pc = .ok (.putfield 109, 3)) (hh : h a0 = some (ob 2 fs)) (kk : pV p l e R s m args below meth c nL E A Q z (pset h a0 (ob 2 fs1)) k n (pc + 3) L st) (hl : 4 < fs.length := by exact Nat.le_of_ble_eq_true rfl) (hfs : fs.set 4 (.int x) = fs1 := by rfl) : pV p l e R s m args below meth c nL E A Q z h k n pc L (.int x :: .ref a0 :: st) := by
  subst hfs
  exact v_put (T := TX2) (ci := 2) (kf := 4) X hd inU2 tyX2 tyX2_ok nmX2 rfl (by decide) wf_X6_109 rfl (ty := .int) (by decide +kernel) rfl rfl hh hl kk
theorem wf_X2_27 : Cond.fieldLink RX2 27 (TX2 5).1 (TX2 5).2.1 (TX2 5).2.2.1 ∈ uw := uw_in (i := 135) (by decide +kernel) (by decide +kernel)
theorem g_X2_27 (X : pCx p s m args c cc nL RX2 E A) {a0 : Nat} {fs : List Value} {v : Value} (hd : decode cc pc = .ok (.getfield 27, 3)) (hh : h a0 = some (ob 2 fs)) (kk : pV p l e R s m args below meth c nL E A Q z h k n (pc + 3) L (v :: st)) (hv : fs[5]? = some v := by rfl) : pV p l e R s m args below meth c nL E A Q z h k n pc L (.ref a0 :: st) := v_get (T := TX2) (ci := 2) (kf := 5) X hd inU2 rfl (by decide) wf_X2_27 hh hv kk
theorem p_X2_27 (X : pCx p s m args c cc nL RX2 E A) {a0 : Nat} {fs fs1 : List Value} {x : Int32} (hd : decode cc pc = .ok (.putfield 27, 3)) (hh : h a0 = some (ob 2 fs)) (kk : pV p l e R s m args below meth c nL E A Q z (pset h a0 (ob 2 fs1)) k n (pc + 3) L st) (hl : 5 < fs.length := by exact Nat.le_of_ble_eq_true rfl) (hfs : fs.set 5 (.int x) = fs1 := by rfl) : pV p l e R s m args below meth c nL E A Q z h k n pc L (.int x :: .ref a0 :: st) := by
  subst hfs
  exact v_put (T := TX2) (ci := 2) (kf := 5) X hd inU2 tyX2 tyX2_ok nmX2 rfl (by decide) wf_X2_27 rfl (ty := .int) (by decide +kernel) rfl rfl hh hl kk
theorem wf_X6_112 : Cond.fieldLink RX6 112 (TX2 5).1 (TX2 5).2.1 (TX2 5).2.2.1 ∈ uw := uw_in (i := 136) (by decide +kernel) (by decide +kernel)
theorem g_X6_112 (X : pCx p s m args c cc nL RX6 E A) {a0 : Nat} {fs : List Value} {v : Value} (hd : decode cc pc = .ok (.getfield 112, 3)) (hh : h a0 = some (ob 2 fs)) (kk : pV p l e R s m args below meth c nL E A Q z h k n (pc + 3) L (v :: st)) (hv : fs[5]? = some v := by rfl) : pV p l e R s m args below meth c nL E A Q z h k n pc L (.ref a0 :: st) := v_get (T := TX2) (ci := 2) (kf := 5) X hd inU2 rfl (by decide) wf_X6_112 hh hv kk
theorem p_X6_112 (X : pCx p s m args c cc nL RX6 E A) {a0 : Nat} {fs fs1 : List Value} {x : Int32} (hd : decode cc pc = .ok (.putfield 112, 3)) (hh : h a0 = some (ob 2 fs)) (kk : pV p l e R s m args below meth c nL E A Q z (pset h a0 (ob 2 fs1)) k n (pc + 3) L st) (hl : 5 < fs.length := by exact Nat.le_of_ble_eq_true rfl) (hfs : fs.set 5 (.int x) = fs1 := by rfl) : pV p l e R s m args below meth c nL E A Q z h k n pc L (.int x :: .ref a0 :: st) := by
  subst hfs
  exact v_put (T := TX2) (ci := 2) (kf := 5) X hd inU2 tyX2 tyX2_ok nmX2 rfl (by decide) wf_X6_112 rfl (ty := .int) (by decide +kernel) rfl rfl hh hl kk
theorem wf_X2_32 : Cond.fieldLink RX2 32 (TX2 6).1 (TX2 6).2.1 (TX2 6).2.2.1 ∈ uw := uw_in (i := 137) (by decide +kernel) (by decide +kernel)
theorem g_X2_32 (X : pCx p s m args c cc nL RX2 E A) {a0 : Nat} {fs : List Value} {v : Value} (hd : decode cc pc = .ok (.getfield 32, 3)) (hh : h a0 = some (ob 2 fs)) (kk : pV p l e R s m args below meth c nL E A Q z h k n (pc + 3) L (v :: st)) (hv : fs[6]? = some v := by rfl) : pV p l e R s m args below meth c nL E A Q z h k n pc L (.ref a0 :: st) := v_get (T := TX2) (ci := 2) (kf := 6) X hd inU2 rfl (by decide) wf_X2_32 hh hv kk
theorem p_X2_32 (X : pCx p s m args c cc nL RX2 E A) {a0 x : Nat} {fs fs1 : List Value} (hd : decode cc pc = .ok (.putfield 32, 3)) (hh : h a0 = some (ob 2 fs)) (hin2 : meth.name = "<init>") (kk : pV p l e R s m args below meth c nL E A Q z (pset h a0 (ob 2 fs1)) k n (pc + 3) L st) (hl : 6 < fs.length := by exact Nat.le_of_ble_eq_true rfl) (hfs : fs.set 6 (.ref x) = fs1 := by rfl) : pV p l e R s m args below meth c nL E A Q z h k n pc L (.ref x :: .ref a0 :: st) := by
  subst hfs
  exact v_putF (T := TX2) (ci := 2) (kf := 6) X hd inU2 tyX2 tyX2_ok nmX2 rfl (by decide) wf_X2_32 rfl hin2 rfl (ty := .array (.object "PeatShares$Household")) (by decide +kernel) rfl rfl hh hl kk
theorem wf_X2_38 : Cond.fieldLink RX2 38 (TX2 7).1 (TX2 7).2.1 (TX2 7).2.2.1 ∈ uw := uw_in (i := 138) (by decide +kernel) (by decide +kernel)
theorem g_X2_38 (X : pCx p s m args c cc nL RX2 E A) {a0 : Nat} {fs : List Value} {v : Value} (hd : decode cc pc = .ok (.getfield 38, 3)) (hh : h a0 = some (ob 2 fs)) (kk : pV p l e R s m args below meth c nL E A Q z h k n (pc + 3) L (v :: st)) (hv : fs[7]? = some v := by rfl) : pV p l e R s m args below meth c nL E A Q z h k n pc L (.ref a0 :: st) := v_get (T := TX2) (ci := 2) (kf := 7) X hd inU2 rfl (by decide) wf_X2_38 hh hv kk
theorem p_X2_38 (X : pCx p s m args c cc nL RX2 E A) {a0 x : Nat} {fs fs1 : List Value} (hd : decode cc pc = .ok (.putfield 38, 3)) (hh : h a0 = some (ob 2 fs)) (hin2 : meth.name = "<init>") (kk : pV p l e R s m args below meth c nL E A Q z (pset h a0 (ob 2 fs1)) k n (pc + 3) L st) (hl : 7 < fs.length := by exact Nat.le_of_ble_eq_true rfl) (hfs : fs.set 7 (.ref x) = fs1 := by rfl) : pV p l e R s m args below meth c nL E A Q z h k n pc L (.ref x :: .ref a0 :: st) := by
  subst hfs
  exact v_putF (T := TX2) (ci := 2) (kf := 7) X hd inU2 tyX2 tyX2_ok nmX2 rfl (by decide) wf_X2_38 rfl hin2 rfl (ty := .array (.object "PeatShares$Bank")) (by decide +kernel) rfl rfl hh hl kk
theorem wf_X2_44 : Cond.fieldLink RX2 44 (TX2 8).1 (TX2 8).2.1 (TX2 8).2.2.1 ∈ uw := uw_in (i := 139) (by decide +kernel) (by decide +kernel)
theorem g_X2_44 (X : pCx p s m args c cc nL RX2 E A) {a0 : Nat} {fs : List Value} {v : Value} (hd : decode cc pc = .ok (.getfield 44, 3)) (hh : h a0 = some (ob 2 fs)) (kk : pV p l e R s m args below meth c nL E A Q z h k n (pc + 3) L (v :: st)) (hv : fs[8]? = some v := by rfl) : pV p l e R s m args below meth c nL E A Q z h k n pc L (.ref a0 :: st) := v_get (T := TX2) (ci := 2) (kf := 8) X hd inU2 rfl (by decide) wf_X2_44 hh hv kk
theorem p_X2_44 (X : pCx p s m args c cc nL RX2 E A) {a0 x : Nat} {fs fs1 : List Value} (hd : decode cc pc = .ok (.putfield 44, 3)) (hh : h a0 = some (ob 2 fs)) (hin2 : meth.name = "<init>") (kk : pV p l e R s m args below meth c nL E A Q z (pset h a0 (ob 2 fs1)) k n (pc + 3) L st) (hl : 8 < fs.length := by exact Nat.le_of_ble_eq_true rfl) (hfs : fs.set 8 (.ref x) = fs1 := by rfl) : pV p l e R s m args below meth c nL E A Q z h k n pc L (.ref x :: .ref a0 :: st) := by
  subst hfs
  exact v_putF (T := TX2) (ci := 2) (kf := 8) X hd inU2 tyX2 tyX2_ok nmX2 rfl (by decide) wf_X2_44 rfl hin2 rfl (ty := .array (.object "PeatShares$TurfStack")) (by decide +kernel) rfl rfl hh hl kk
theorem wf_X4_12 : Cond.fieldLink RX4 12 (TX4 0).1 (TX4 0).2.1 (TX4 0).2.2.1 ∈ uw := uw_in (i := 160) (by decide +kernel) (by decide +kernel)
theorem g_X4_12 (X : pCx p s m args c cc nL RX4 E A) {a0 : Nat} {fs : List Value} {v : Value} (hd : decode cc pc = .ok (.getfield 12, 3)) (hh : h a0 = some (ob 4 fs)) (kk : pV p l e R s m args below meth c nL E A Q z h k n (pc + 3) L (v :: st)) (hv : fs[0]? = some v := by rfl) : pV p l e R s m args below meth c nL E A Q z h k n pc L (.ref a0 :: st) := v_get (T := TX4) (ci := 4) (kf := 0) X hd inU4 rfl (by decide) wf_X4_12 hh hv kk
theorem p_X4_12 (X : pCx p s m args c cc nL RX4 E A) {a0 x : Nat} {fs fs1 : List Value} (hd : decode cc pc = .ok (.putfield 12, 3)) (hh : h a0 = some (ob 4 fs)) (hin2 : meth.name = "<init>") (kk : pV p l e R s m args below meth c nL E A Q z (pset h a0 (ob 4 fs1)) k n (pc + 3) L st) (hl : 0 < fs.length := by exact Nat.le_of_ble_eq_true rfl) (hfs : fs.set 0 (.ref x) = fs1 := by rfl) : pV p l e R s m args below meth c nL E A Q z h k n pc L (.ref x :: .ref a0 :: st) := by
  subst hfs
  exact v_putF (T := TX4) (ci := 4) (kf := 0) X hd inU4 tyX4 tyX4_ok nmX4 rfl (by decide) wf_X4_12 rfl hin2 rfl (ty := .object "PeatShares$Parish") (by decide +kernel) rfl rfl hh hl kk
theorem wf_X6_38 : Cond.fieldLink RX6 38 (TX4 0).1 (TX4 0).2.1 (TX4 0).2.2.1 ∈ uw := uw_in (i := 161) (by decide +kernel) (by decide +kernel)
theorem g_X6_38 (X : pCx p s m args c cc nL RX6 E A) {a0 : Nat} {fs : List Value} {v : Value} (hd : decode cc pc = .ok (.getfield 38, 3)) (hh : h a0 = some (ob 4 fs)) (kk : pV p l e R s m args below meth c nL E A Q z h k n (pc + 3) L (v :: st)) (hv : fs[0]? = some v := by rfl) : pV p l e R s m args below meth c nL E A Q z h k n pc L (.ref a0 :: st) := v_get (T := TX4) (ci := 4) (kf := 0) X hd inU4 rfl (by decide) wf_X6_38 hh hv kk
theorem wf_X4_18 : Cond.fieldLink RX4 18 (TX4 1).1 (TX4 1).2.1 (TX4 1).2.2.1 ∈ uw := uw_in (i := 162) (by decide +kernel) (by decide +kernel)
theorem g_X4_18 (X : pCx p s m args c cc nL RX4 E A) {a0 : Nat} {fs : List Value} {v : Value} (hd : decode cc pc = .ok (.getfield 18, 3)) (hh : h a0 = some (ob 4 fs)) (kk : pV p l e R s m args below meth c nL E A Q z h k n (pc + 3) L (v :: st)) (hv : fs[1]? = some v := by rfl) : pV p l e R s m args below meth c nL E A Q z h k n pc L (.ref a0 :: st) := v_get (T := TX4) (ci := 4) (kf := 1) X hd inU4 rfl (by decide) wf_X4_18 hh hv kk
theorem p_X4_18 (X : pCx p s m args c cc nL RX4 E A) {a0 x : Nat} {fs fs1 : List Value} (hd : decode cc pc = .ok (.putfield 18, 3)) (hh : h a0 = some (ob 4 fs)) (hin2 : meth.name = "<init>") (kk : pV p l e R s m args below meth c nL E A Q z (pset h a0 (ob 4 fs1)) k n (pc + 3) L st) (hl : 1 < fs.length := by exact Nat.le_of_ble_eq_true rfl) (hfs : fs.set 1 (.ref x) = fs1 := by rfl) : pV p l e R s m args below meth c nL E A Q z h k n pc L (.ref x :: .ref a0 :: st) := by
  subst hfs
  exact v_putF (T := TX4) (ci := 4) (kf := 1) X hd inU4 tyX4 tyX4_ok nmX4 rfl (by decide) wf_X4_18 rfl hin2 rfl (ty := .array (.object "PeatShares$Parish")) (by decide +kernel) rfl rfl hh hl kk
theorem wf_X4_22 : Cond.fieldLink RX4 22 (TX4 2).1 (TX4 2).2.1 (TX4 2).2.2.1 ∈ uw := uw_in (i := 163) (by decide +kernel) (by decide +kernel)
theorem g_X4_22 (X : pCx p s m args c cc nL RX4 E A) {a0 : Nat} {fs : List Value} {v : Value} (hd : decode cc pc = .ok (.getfield 22, 3)) (hh : h a0 = some (ob 4 fs)) (kk : pV p l e R s m args below meth c nL E A Q z h k n (pc + 3) L (v :: st)) (hv : fs[2]? = some v := by rfl) : pV p l e R s m args below meth c nL E A Q z h k n pc L (.ref a0 :: st) := v_get (T := TX4) (ci := 4) (kf := 2) X hd inU4 rfl (by decide) wf_X4_22 hh hv kk
theorem p_X4_22 (X : pCx p s m args c cc nL RX4 E A) {a0 x : Nat} {fs fs1 : List Value} (hd : decode cc pc = .ok (.putfield 22, 3)) (hh : h a0 = some (ob 4 fs)) (hin2 : meth.name = "<init>") (kk : pV p l e R s m args below meth c nL E A Q z (pset h a0 (ob 4 fs1)) k n (pc + 3) L st) (hl : 2 < fs.length := by exact Nat.le_of_ble_eq_true rfl) (hfs : fs.set 2 (.ref x) = fs1 := by rfl) : pV p l e R s m args below meth c nL E A Q z h k n pc L (.ref x :: .ref a0 :: st) := by
  subst hfs
  exact v_putF (T := TX4) (ci := 4) (kf := 2) X hd inU4 tyX4 tyX4_ok nmX4 rfl (by decide) wf_X4_22 rfl hin2 rfl (ty := .array (.boolean)) (by decide +kernel) rfl rfl hh hl kk
theorem wf_X3_9 : Cond.fieldLink RX3 9 (TX3 0).1 (TX3 0).2.1 (TX3 0).2.2.1 ∈ uw := uw_in (i := 178) (by decide +kernel) (by decide +kernel)
theorem g_X3_9 (X : pCx p s m args c cc nL RX3 E A) {a0 : Nat} {fs : List Value} {v : Value} (hd : decode cc pc = .ok (.getfield 9, 3)) (hh : h a0 = some (ob 3 fs)) (kk : pV p l e R s m args below meth c nL E A Q z h k n (pc + 3) L (v :: st)) (hv : fs[0]? = some v := by rfl) : pV p l e R s m args below meth c nL E A Q z h k n pc L (.ref a0 :: st) := v_get (T := TX3) (ci := 3) (kf := 0) X hd inU3 rfl (by decide) wf_X3_9 hh hv kk
theorem p_X3_9 (X : pCx p s m args c cc nL RX3 E A) {a0 x : Nat} {fs fs1 : List Value} (hd : decode cc pc = .ok (.putfield 9, 3)) (hh : h a0 = some (ob 3 fs)) (hin2 : meth.name = "<init>") (kk : pV p l e R s m args below meth c nL E A Q z (pset h a0 (ob 3 fs1)) k n (pc + 3) L st) (hl : 0 < fs.length := by exact Nat.le_of_ble_eq_true rfl) (hfs : fs.set 0 (.ref x) = fs1 := by rfl) : pV p l e R s m args below meth c nL E A Q z h k n pc L (.ref x :: .ref a0 :: st) := by
  subst hfs
  exact v_putF (T := TX3) (ci := 3) (kf := 0) X hd inU3 tyX3 tyX3_ok nmX3 rfl (by decide) wf_X3_9 rfl hin2 rfl (ty := .array (.char)) (by decide +kernel) rfl rfl hh hl kk
theorem wf_X3_15 : Cond.fieldLink RX3 15 (TX3 1).1 (TX3 1).2.1 (TX3 1).2.2.1 ∈ uw := uw_in (i := 179) (by decide +kernel) (by decide +kernel)
theorem g_X3_15 (X : pCx p s m args c cc nL RX3 E A) {a0 : Nat} {fs : List Value} {v : Value} (hd : decode cc pc = .ok (.getfield 15, 3)) (hh : h a0 = some (ob 3 fs)) (kk : pV p l e R s m args below meth c nL E A Q z h k n (pc + 3) L (v :: st)) (hv : fs[1]? = some v := by rfl) : pV p l e R s m args below meth c nL E A Q z h k n pc L (.ref a0 :: st) := v_get (T := TX3) (ci := 3) (kf := 1) X hd inU3 rfl (by decide) wf_X3_15 hh hv kk
theorem p_X3_15 (X : pCx p s m args c cc nL RX3 E A) {a0 : Nat} {fs fs1 : List Value} {x : Int32} (hd : decode cc pc = .ok (.putfield 15, 3)) (hh : h a0 = some (ob 3 fs)) (kk : pV p l e R s m args below meth c nL E A Q z (pset h a0 (ob 3 fs1)) k n (pc + 3) L st) (hl : 1 < fs.length := by exact Nat.le_of_ble_eq_true rfl) (hfs : fs.set 1 (.int x) = fs1 := by rfl) : pV p l e R s m args below meth c nL E A Q z h k n pc L (.int x :: .ref a0 :: st) := by
  subst hfs
  exact v_put (T := TX3) (ci := 3) (kf := 1) X hd inU3 tyX3 tyX3_ok nmX3 rfl (by decide) wf_X3_15 rfl (ty := .int) (by decide +kernel) rfl rfl hh hl kk
theorem wf_X6_127 : Cond.fieldLink RX6 127 (TX3 1).1 (TX3 1).2.1 (TX3 1).2.2.1 ∈ uw := uw_in (i := 180) (by decide +kernel) (by decide +kernel)
theorem g_X6_127 (X : pCx p s m args c cc nL RX6 E A) {a0 : Nat} {fs : List Value} {v : Value} (hd : decode cc pc = .ok (.getfield 127, 3)) (hh : h a0 = some (ob 3 fs)) (kk : pV p l e R s m args below meth c nL E A Q z h k n (pc + 3) L (v :: st)) (hv : fs[1]? = some v := by rfl) : pV p l e R s m args below meth c nL E A Q z h k n pc L (.ref a0 :: st) := v_get (T := TX3) (ci := 3) (kf := 1) X hd inU3 rfl (by decide) wf_X6_127 hh hv kk
theorem p_X6_127 (X : pCx p s m args c cc nL RX6 E A) {a0 : Nat} {fs fs1 : List Value} {x : Int32} (hd : decode cc pc = .ok (.putfield 127, 3)) (hh : h a0 = some (ob 3 fs)) (kk : pV p l e R s m args below meth c nL E A Q z (pset h a0 (ob 3 fs1)) k n (pc + 3) L st) (hl : 1 < fs.length := by exact Nat.le_of_ble_eq_true rfl) (hfs : fs.set 1 (.int x) = fs1 := by rfl) : pV p l e R s m args below meth c nL E A Q z h k n pc L (.int x :: .ref a0 :: st) := by
  subst hfs
  exact v_put (T := TX3) (ci := 3) (kf := 1) X hd inU3 tyX3 tyX3_ok nmX3 rfl (by decide) wf_X6_127 rfl (ty := .int) (by decide +kernel) rfl rfl hh hl kk
theorem wf_X3_19 : Cond.fieldLink RX3 19 (TX3 2).1 (TX3 2).2.1 (TX3 2).2.2.1 ∈ uw := uw_in (i := 181) (by decide +kernel) (by decide +kernel)
theorem g_X3_19 (X : pCx p s m args c cc nL RX3 E A) {a0 : Nat} {fs : List Value} {v : Value} (hd : decode cc pc = .ok (.getfield 19, 3)) (hh : h a0 = some (ob 3 fs)) (kk : pV p l e R s m args below meth c nL E A Q z h k n (pc + 3) L (v :: st)) (hv : fs[2]? = some v := by rfl) : pV p l e R s m args below meth c nL E A Q z h k n pc L (.ref a0 :: st) := v_get (T := TX3) (ci := 3) (kf := 2) X hd inU3 rfl (by decide) wf_X3_19 hh hv kk
theorem p_X3_19 (X : pCx p s m args c cc nL RX3 E A) {a0 : Nat} {fs fs1 : List Value} {x : Int32} (hd : decode cc pc = .ok (.putfield 19, 3)) (hh : h a0 = some (ob 3 fs)) (kk : pV p l e R s m args below meth c nL E A Q z (pset h a0 (ob 3 fs1)) k n (pc + 3) L st) (hl : 2 < fs.length := by exact Nat.le_of_ble_eq_true rfl) (hfs : fs.set 2 (.int x) = fs1 := by rfl) : pV p l e R s m args below meth c nL E A Q z h k n pc L (.int x :: .ref a0 :: st) := by
  subst hfs
  exact v_put (T := TX3) (ci := 3) (kf := 2) X hd inU3 tyX3 tyX3_ok nmX3 rfl (by decide) wf_X3_19 rfl (ty := .int) (by decide +kernel) rfl rfl hh hl kk
theorem wf_X3_22 : Cond.fieldLink RX3 22 (TX3 3).1 (TX3 3).2.1 (TX3 3).2.2.1 ∈ uw := uw_in (i := 182) (by decide +kernel) (by decide +kernel)
theorem g_X3_22 (X : pCx p s m args c cc nL RX3 E A) {a0 : Nat} {fs : List Value} {v : Value} (hd : decode cc pc = .ok (.getfield 22, 3)) (hh : h a0 = some (ob 3 fs)) (kk : pV p l e R s m args below meth c nL E A Q z h k n (pc + 3) L (v :: st)) (hv : fs[3]? = some v := by rfl) : pV p l e R s m args below meth c nL E A Q z h k n pc L (.ref a0 :: st) := v_get (T := TX3) (ci := 3) (kf := 3) X hd inU3 rfl (by decide) wf_X3_22 hh hv kk
theorem p_X3_22 (X : pCx p s m args c cc nL RX3 E A) {a0 : Nat} {fs fs1 : List Value} {x : Int32} (hd : decode cc pc = .ok (.putfield 22, 3)) (hh : h a0 = some (ob 3 fs)) (kk : pV p l e R s m args below meth c nL E A Q z (pset h a0 (ob 3 fs1)) k n (pc + 3) L st) (hl : 3 < fs.length := by exact Nat.le_of_ble_eq_true rfl) (hfs : fs.set 3 (.int x) = fs1 := by rfl) : pV p l e R s m args below meth c nL E A Q z h k n pc L (.int x :: .ref a0 :: st) := by
  subst hfs
  exact v_put (T := TX3) (ci := 3) (kf := 3) X hd inU3 tyX3 tyX3_ok nmX3 rfl (by decide) wf_X3_22 rfl (ty := .int) (by decide +kernel) rfl rfl hh hl kk
theorem wf_X3_25 : Cond.fieldLink RX3 25 (TX3 4).1 (TX3 4).2.1 (TX3 4).2.2.1 ∈ uw := uw_in (i := 183) (by decide +kernel) (by decide +kernel)
theorem g_X3_25 (X : pCx p s m args c cc nL RX3 E A) {a0 : Nat} {fs : List Value} {v : Value} (hd : decode cc pc = .ok (.getfield 25, 3)) (hh : h a0 = some (ob 3 fs)) (kk : pV p l e R s m args below meth c nL E A Q z h k n (pc + 3) L (v :: st)) (hv : fs[4]? = some v := by rfl) : pV p l e R s m args below meth c nL E A Q z h k n pc L (.ref a0 :: st) := v_get (T := TX3) (ci := 3) (kf := 4) X hd inU3 rfl (by decide) wf_X3_25 hh hv kk
theorem p_X3_25 (X : pCx p s m args c cc nL RX3 E A) {a0 x : Nat} {fs fs1 : List Value} (hd : decode cc pc = .ok (.putfield 25, 3)) (hh : h a0 = some (ob 3 fs)) (hin2 : meth.name = "<init>") (kk : pV p l e R s m args below meth c nL E A Q z (pset h a0 (ob 3 fs1)) k n (pc + 3) L st) (hl : 4 < fs.length := by exact Nat.le_of_ble_eq_true rfl) (hfs : fs.set 4 (.ref x) = fs1 := by rfl) : pV p l e R s m args below meth c nL E A Q z h k n pc L (.ref x :: .ref a0 :: st) := by
  subst hfs
  exact v_putF (T := TX3) (ci := 3) (kf := 4) X hd inU3 tyX3 tyX3_ok nmX3 rfl (by decide) wf_X3_25 rfl hin2 rfl (ty := .array (.int)) (by decide +kernel) rfl rfl hh hl kk
theorem wf_X6_10 : Cond.fieldLink RX6 10 (TX6 0).1 (TX6 0).2.1 (TX6 0).2.2.1 ∈ uw := uw_in (i := 196) (by decide +kernel) (by decide +kernel)
theorem g_X6_10 (X : pCx p s m args c cc nL RX6 E A) {a0 : Nat} {fs : List Value} {v : Value} (hd : decode cc pc = .ok (.getfield 10, 3)) (hh : h a0 = some (ob 6 fs)) (kk : pV p l e R s m args below meth c nL E A Q z h k n (pc + 3) L (v :: st)) (hv : fs[0]? = some v := by rfl) : pV p l e R s m args below meth c nL E A Q z h k n pc L (.ref a0 :: st) := v_get (T := TX6) (ci := 6) (kf := 0) X hd inU6 rfl (by decide) wf_X6_10 hh hv kk
theorem p_X6_10 (X : pCx p s m args c cc nL RX6 E A) {a0 x : Nat} {fs fs1 : List Value} (hd : decode cc pc = .ok (.putfield 10, 3)) (hh : h a0 = some (ob 6 fs)) (kk : pV p l e R s m args below meth c nL E A Q z (pset h a0 (ob 6 fs1)) k n (pc + 3) L st) (hl : 0 < fs.length := by exact Nat.le_of_ble_eq_true rfl) (hfs : fs.set 0 (.ref x) = fs1 := by rfl) : pV p l e R s m args below meth c nL E A Q z h k n pc L (.ref x :: .ref a0 :: st) := by
  subst hfs
  exact v_put (T := TX6) (ci := 6) (kf := 0) X hd inU6 tyX6 tyX6_ok nmX6 rfl (by decide) wf_X6_10 rfl (ty := .object "PeatShares$State") (by decide +kernel) rfl rfl hh hl kk
theorem wf_X6_16 : Cond.fieldLink RX6 16 (TX6 1).1 (TX6 1).2.1 (TX6 1).2.2.1 ∈ uw := uw_in (i := 197) (by decide +kernel) (by decide +kernel)
theorem g_X6_16 (X : pCx p s m args c cc nL RX6 E A) {a0 : Nat} {fs : List Value} {v : Value} (hd : decode cc pc = .ok (.getfield 16, 3)) (hh : h a0 = some (ob 6 fs)) (kk : pV p l e R s m args below meth c nL E A Q z h k n (pc + 3) L (v :: st)) (hv : fs[1]? = some v := by rfl) : pV p l e R s m args below meth c nL E A Q z h k n pc L (.ref a0 :: st) := v_get (T := TX6) (ci := 6) (kf := 1) X hd inU6 rfl (by decide) wf_X6_16 hh hv kk
theorem p_X6_16 (X : pCx p s m args c cc nL RX6 E A) {a0 x : Nat} {fs fs1 : List Value} (hd : decode cc pc = .ok (.putfield 16, 3)) (hh : h a0 = some (ob 6 fs)) (kk : pV p l e R s m args below meth c nL E A Q z (pset h a0 (ob 6 fs1)) k n (pc + 3) L st) (hl : 1 < fs.length := by exact Nat.le_of_ble_eq_true rfl) (hfs : fs.set 1 (.ref x) = fs1 := by rfl) : pV p l e R s m args below meth c nL E A Q z h k n pc L (.ref x :: .ref a0 :: st) := by
  subst hfs
  exact v_put (T := TX6) (ci := 6) (kf := 1) X hd inU6 tyX6 tyX6_ok nmX6 rfl (by decide) wf_X6_16 rfl (ty := .object "PeatShares$State") (by decide +kernel) rfl rfl hh hl kk
theorem wf_X6_19 : Cond.fieldLink RX6 19 (TX6 2).1 (TX6 2).2.1 (TX6 2).2.2.1 ∈ uw := uw_in (i := 198) (by decide +kernel) (by decide +kernel)
theorem g_X6_19 (X : pCx p s m args c cc nL RX6 E A) {a0 : Nat} {fs : List Value} {v : Value} (hd : decode cc pc = .ok (.getfield 19, 3)) (hh : h a0 = some (ob 6 fs)) (kk : pV p l e R s m args below meth c nL E A Q z h k n (pc + 3) L (v :: st)) (hv : fs[2]? = some v := by rfl) : pV p l e R s m args below meth c nL E A Q z h k n pc L (.ref a0 :: st) := v_get (T := TX6) (ci := 6) (kf := 2) X hd inU6 rfl (by decide) wf_X6_19 hh hv kk
theorem p_X6_19 (X : pCx p s m args c cc nL RX6 E A) {a0 x : Nat} {fs fs1 : List Value} (hd : decode cc pc = .ok (.putfield 19, 3)) (hh : h a0 = some (ob 6 fs)) (hin2 : meth.name = "<init>") (kk : pV p l e R s m args below meth c nL E A Q z (pset h a0 (ob 6 fs1)) k n (pc + 3) L st) (hl : 2 < fs.length := by exact Nat.le_of_ble_eq_true rfl) (hfs : fs.set 2 (.ref x) = fs1 := by rfl) : pV p l e R s m args below meth c nL E A Q z h k n pc L (.ref x :: .ref a0 :: st) := by
  subst hfs
  exact v_putF (T := TX6) (ci := 6) (kf := 2) X hd inU6 tyX6 tyX6_ok nmX6 rfl (by decide) wf_X6_19 rfl hin2 rfl (ty := .array (.object "PeatShares$State")) (by decide +kernel) rfl rfl hh hl kk
theorem wf_X6_23 : Cond.fieldLink RX6 23 (TX6 3).1 (TX6 3).2.1 (TX6 3).2.2.1 ∈ uw := uw_in (i := 199) (by decide +kernel) (by decide +kernel)
theorem g_X6_23 (X : pCx p s m args c cc nL RX6 E A) {a0 : Nat} {fs : List Value} {v : Value} (hd : decode cc pc = .ok (.getfield 23, 3)) (hh : h a0 = some (ob 6 fs)) (kk : pV p l e R s m args below meth c nL E A Q z h k n (pc + 3) L (v :: st)) (hv : fs[3]? = some v := by rfl) : pV p l e R s m args below meth c nL E A Q z h k n pc L (.ref a0 :: st) := v_get (T := TX6) (ci := 6) (kf := 3) X hd inU6 rfl (by decide) wf_X6_23 hh hv kk
theorem p_X6_23 (X : pCx p s m args c cc nL RX6 E A) {a0 : Nat} {fs fs1 : List Value} {x : Int32} (hd : decode cc pc = .ok (.putfield 23, 3)) (hh : h a0 = some (ob 6 fs)) (kk : pV p l e R s m args below meth c nL E A Q z (pset h a0 (ob 6 fs1)) k n (pc + 3) L st) (hl : 3 < fs.length := by exact Nat.le_of_ble_eq_true rfl) (hfs : fs.set 3 (.int x) = fs1 := by rfl) : pV p l e R s m args below meth c nL E A Q z h k n pc L (.int x :: .ref a0 :: st) := by
  subst hfs
  exact v_put (T := TX6) (ci := 6) (kf := 3) X hd inU6 tyX6 tyX6_ok nmX6 rfl (by decide) wf_X6_23 rfl (ty := .int) (by decide +kernel) rfl rfl hh hl kk
theorem wf_X6_30 : Cond.fieldLink RX6 30 (TX6 4).1 (TX6 4).2.1 (TX6 4).2.2.1 ∈ uw := uw_in (i := 200) (by decide +kernel) (by decide +kernel)
theorem g_X6_30 (X : pCx p s m args c cc nL RX6 E A) {a0 : Nat} {fs : List Value} {v : Value} (hd : decode cc pc = .ok (.getfield 30, 3)) (hh : h a0 = some (ob 6 fs)) (kk : pV p l e R s m args below meth c nL E A Q z h k n (pc + 3) L (v :: st)) (hv : fs[4]? = some v := by rfl) : pV p l e R s m args below meth c nL E A Q z h k n pc L (.ref a0 :: st) := v_get (T := TX6) (ci := 6) (kf := 4) X hd inU6 rfl (by decide) wf_X6_30 hh hv kk
theorem p_X6_30 (X : pCx p s m args c cc nL RX6 E A) {a0 x : Nat} {fs fs1 : List Value} (hd : decode cc pc = .ok (.putfield 30, 3)) (hh : h a0 = some (ob 6 fs)) (hin2 : meth.name = "<init>") (kk : pV p l e R s m args below meth c nL E A Q z (pset h a0 (ob 6 fs1)) k n (pc + 3) L st) (hl : 4 < fs.length := by exact Nat.le_of_ble_eq_true rfl) (hfs : fs.set 4 (.ref x) = fs1 := by rfl) : pV p l e R s m args below meth c nL E A Q z h k n pc L (.ref x :: .ref a0 :: st) := by
  subst hfs
  exact v_putF (T := TX6) (ci := 6) (kf := 4) X hd inU6 tyX6 tyX6_ok nmX6 rfl (by decide) wf_X6_30 rfl hin2 rfl (ty := .object "PeatShares$Program") (by decide +kernel) rfl rfl hh hl kk
theorem wf_X7_7 : Cond.fieldLink RX7 7 (TX7 0).1 (TX7 0).2.1 (TX7 0).2.2.1 ∈ uw := uw_in (i := 678) (by decide +kernel) (by decide +kernel)
theorem g_X7_7 (X : pCx p s m args c cc nL RX7 E A) {a0 : Nat} {fs : List Value} {v : Value} (hd : decode cc pc = .ok (.getfield 7, 3)) (hh : h a0 = some (ob 7 fs)) (kk : pV p l e R s m args below meth c nL E A Q z h k n (pc + 3) L (v :: st)) (hv : fs[0]? = some v := by rfl) : pV p l e R s m args below meth c nL E A Q z h k n pc L (.ref a0 :: st) := v_get (T := TX7) (ci := 7) (kf := 0) X hd inU7 rfl (by decide) wf_X7_7 hh hv kk
theorem p_X7_7 (X : pCx p s m args c cc nL RX7 E A) {a0 x : Nat} {fs fs1 : List Value} (hd : decode cc pc = .ok (.putfield 7, 3)) (hh : h a0 = some (ob 7 fs)) (hin2 : meth.name = "<init>") (kk : pV p l e R s m args below meth c nL E A Q z (pset h a0 (ob 7 fs1)) k n (pc + 3) L st) (hl : 0 < fs.length := by exact Nat.le_of_ble_eq_true rfl) (hfs : fs.set 0 (.ref x) = fs1 := by rfl) : pV p l e R s m args below meth c nL E A Q z h k n pc L (.ref x :: .ref a0 :: st) := by
  subst hfs
  exact v_putF (T := TX7) (ci := 7) (kf := 0) X hd inU7 tyX7 tyX7_ok nmX7 rfl (by decide) wf_X7_7 rfl hin2 rfl (ty := .array (.int)) (by decide +kernel) rfl rfl hh hl kk
theorem wf_X7_13 : Cond.fieldLink RX7 13 (TX7 1).1 (TX7 1).2.1 (TX7 1).2.2.1 ∈ uw := uw_in (i := 679) (by decide +kernel) (by decide +kernel)
theorem g_X7_13 (X : pCx p s m args c cc nL RX7 E A) {a0 : Nat} {fs : List Value} {v : Value} (hd : decode cc pc = .ok (.getfield 13, 3)) (hh : h a0 = some (ob 7 fs)) (kk : pV p l e R s m args below meth c nL E A Q z h k n (pc + 3) L (v :: st)) (hv : fs[1]? = some v := by rfl) : pV p l e R s m args below meth c nL E A Q z h k n pc L (.ref a0 :: st) := v_get (T := TX7) (ci := 7) (kf := 1) X hd inU7 rfl (by decide) wf_X7_13 hh hv kk
theorem p_X7_13 (X : pCx p s m args c cc nL RX7 E A) {a0 x : Nat} {fs fs1 : List Value} (hd : decode cc pc = .ok (.putfield 13, 3)) (hh : h a0 = some (ob 7 fs)) (hin2 : meth.name = "<init>") (kk : pV p l e R s m args below meth c nL E A Q z (pset h a0 (ob 7 fs1)) k n (pc + 3) L st) (hl : 1 < fs.length := by exact Nat.le_of_ble_eq_true rfl) (hfs : fs.set 1 (.ref x) = fs1 := by rfl) : pV p l e R s m args below meth c nL E A Q z h k n pc L (.ref x :: .ref a0 :: st) := by
  subst hfs
  exact v_putF (T := TX7) (ci := 7) (kf := 1) X hd inU7 tyX7 tyX7_ok nmX7 rfl (by decide) wf_X7_13 rfl hin2 rfl (ty := .array (.int)) (by decide +kernel) rfl rfl hh hl kk
theorem wf_X7_16 : Cond.fieldLink RX7 16 (TX7 2).1 (TX7 2).2.1 (TX7 2).2.2.1 ∈ uw := uw_in (i := 680) (by decide +kernel) (by decide +kernel)
theorem g_X7_16 (X : pCx p s m args c cc nL RX7 E A) {a0 : Nat} {fs : List Value} {v : Value} (hd : decode cc pc = .ok (.getfield 16, 3)) (hh : h a0 = some (ob 7 fs)) (kk : pV p l e R s m args below meth c nL E A Q z h k n (pc + 3) L (v :: st)) (hv : fs[2]? = some v := by rfl) : pV p l e R s m args below meth c nL E A Q z h k n pc L (.ref a0 :: st) := v_get (T := TX7) (ci := 7) (kf := 2) X hd inU7 rfl (by decide) wf_X7_16 hh hv kk
theorem p_X7_16 (X : pCx p s m args c cc nL RX7 E A) {a0 x : Nat} {fs fs1 : List Value} (hd : decode cc pc = .ok (.putfield 16, 3)) (hh : h a0 = some (ob 7 fs)) (hin2 : meth.name = "<init>") (kk : pV p l e R s m args below meth c nL E A Q z (pset h a0 (ob 7 fs1)) k n (pc + 3) L st) (hl : 2 < fs.length := by exact Nat.le_of_ble_eq_true rfl) (hfs : fs.set 2 (.ref x) = fs1 := by rfl) : pV p l e R s m args below meth c nL E A Q z h k n pc L (.ref x :: .ref a0 :: st) := by
  subst hfs
  exact v_putF (T := TX7) (ci := 7) (kf := 2) X hd inU7 tyX7 tyX7_ok nmX7 rfl (by decide) wf_X7_16 rfl hin2 rfl (ty := .array (.int)) (by decide +kernel) rfl rfl hh hl kk
theorem wf_X7_29 : Cond.fieldLink RX7 29 (TX7 3).1 (TX7 3).2.1 (TX7 3).2.2.1 ∈ uw := uw_in (i := 681) (by decide +kernel) (by decide +kernel)
theorem g_X7_29 (X : pCx p s m args c cc nL RX7 E A) {a0 : Nat} {fs : List Value} {v : Value} (hd : decode cc pc = .ok (.getfield 29, 3)) (hh : h a0 = some (ob 7 fs)) (kk : pV p l e R s m args below meth c nL E A Q z h k n (pc + 3) L (v :: st)) (hv : fs[3]? = some v := by rfl) : pV p l e R s m args below meth c nL E A Q z h k n pc L (.ref a0 :: st) := v_get (T := TX7) (ci := 7) (kf := 3) X hd inU7 rfl (by decide) wf_X7_29 hh hv kk
theorem p_X7_29 (X : pCx p s m args c cc nL RX7 E A) {a0 : Nat} {fs fs1 : List Value} {x : Int32} (hd : decode cc pc = .ok (.putfield 29, 3)) (hh : h a0 = some (ob 7 fs)) (kk : pV p l e R s m args below meth c nL E A Q z (pset h a0 (ob 7 fs1)) k n (pc + 3) L st) (hl : 3 < fs.length := by exact Nat.le_of_ble_eq_true rfl) (hfs : fs.set 3 (.int x) = fs1 := by rfl) : pV p l e R s m args below meth c nL E A Q z h k n pc L (.int x :: .ref a0 :: st) := by
  subst hfs
  exact v_put (T := TX7) (ci := 7) (kf := 3) X hd inU7 tyX7 tyX7_ok nmX7 rfl (by decide) wf_X7_29 rfl (ty := .int) (by decide +kernel) rfl rfl hh hl kk
theorem wf_X7_25 : Cond.fieldLink RX7 25 (TX7 4).1 (TX7 4).2.1 (TX7 4).2.2.1 ∈ uw := uw_in (i := 682) (by decide +kernel) (by decide +kernel)
theorem g_X7_25 (X : pCx p s m args c cc nL RX7 E A) {a0 : Nat} {fs : List Value} {v : Value} (hd : decode cc pc = .ok (.getfield 25, 3)) (hh : h a0 = some (ob 7 fs)) (kk : pV p l e R s m args below meth c nL E A Q z h k n (pc + 3) L (v :: st)) (hv : fs[4]? = some v := by rfl) : pV p l e R s m args below meth c nL E A Q z h k n pc L (.ref a0 :: st) := v_get (T := TX7) (ci := 7) (kf := 4) X hd inU7 rfl (by decide) wf_X7_25 hh hv kk
theorem p_X7_25 (X : pCx p s m args c cc nL RX7 E A) {a0 : Nat} {fs fs1 : List Value} {x : Int32} (hd : decode cc pc = .ok (.putfield 25, 3)) (hh : h a0 = some (ob 7 fs)) (hnr : narrow .boolean (.int x) = .int x) (hft : fits .boolean (.int x) = true) (kk : pV p l e R s m args below meth c nL E A Q z (pset h a0 (ob 7 fs1)) k n (pc + 3) L st) (hl : 4 < fs.length := by exact Nat.le_of_ble_eq_true rfl) (hfs : fs.set 4 (.int x) = fs1 := by rfl) : pV p l e R s m args below meth c nL E A Q z h k n pc L (.int x :: .ref a0 :: st) := by
  subst hfs
  exact v_put (T := TX7) (ci := 7) (kf := 4) X hd inU7 tyX7 tyX7_ok nmX7 rfl (by decide) wf_X7_25 rfl (ty := .boolean) (by decide +kernel) hnr hft hh hl kk
theorem wf_X7_19 : Cond.fieldLink RX7 19 (TX7 5).1 (TX7 5).2.1 (TX7 5).2.2.1 ∈ uw := uw_in (i := 683) (by decide +kernel) (by decide +kernel)
theorem g_X7_19 (X : pCx p s m args c cc nL RX7 E A) {a0 : Nat} {fs : List Value} {v : Value} (hd : decode cc pc = .ok (.getfield 19, 3)) (hh : h a0 = some (ob 7 fs)) (kk : pV p l e R s m args below meth c nL E A Q z h k n (pc + 3) L (v :: st)) (hv : fs[5]? = some v := by rfl) : pV p l e R s m args below meth c nL E A Q z h k n pc L (.ref a0 :: st) := v_get (T := TX7) (ci := 7) (kf := 5) X hd inU7 rfl (by decide) wf_X7_19 hh hv kk
theorem p_X7_19 (X : pCx p s m args c cc nL RX7 E A) {a0 x : Nat} {fs fs1 : List Value} (hd : decode cc pc = .ok (.putfield 19, 3)) (hh : h a0 = some (ob 7 fs)) (hin2 : meth.name = "<init>") (kk : pV p l e R s m args below meth c nL E A Q z (pset h a0 (ob 7 fs1)) k n (pc + 3) L st) (hl : 5 < fs.length := by exact Nat.le_of_ble_eq_true rfl) (hfs : fs.set 5 (.ref x) = fs1 := by rfl) : pV p l e R s m args below meth c nL E A Q z h k n pc L (.ref x :: .ref a0 :: st) := by
  subst hfs
  exact v_putF (T := TX7) (ci := 7) (kf := 5) X hd inU7 tyX7 tyX7_ok nmX7 rfl (by decide) wf_X7_19 rfl hin2 rfl (ty := .array (.int)) (by decide +kernel) rfl rfl hh hl kk
theorem wf_X7_102 : Cond.fieldLink RX7 102 (TX7 6).1 (TX7 6).2.1 (TX7 6).2.2.1 ∈ uw := uw_in (i := 684) (by decide +kernel) (by decide +kernel)
theorem g_X7_102 (X : pCx p s m args c cc nL RX7 E A) {a0 : Nat} {fs : List Value} {v : Value} (hd : decode cc pc = .ok (.getfield 102, 3)) (hh : h a0 = some (ob 7 fs)) (kk : pV p l e R s m args below meth c nL E A Q z h k n (pc + 3) L (v :: st)) (hv : fs[6]? = some v := by rfl) : pV p l e R s m args below meth c nL E A Q z h k n pc L (.ref a0 :: st) := v_get (T := TX7) (ci := 7) (kf := 6) X hd inU7 rfl (by decide) wf_X7_102 hh hv kk
theorem p_X7_102 (X : pCx p s m args c cc nL RX7 E A) {a0 : Nat} {fs fs1 : List Value} {x : Int32} (hd : decode cc pc = .ok (.putfield 102, 3)) (hh : h a0 = some (ob 7 fs)) (kk : pV p l e R s m args below meth c nL E A Q z (pset h a0 (ob 7 fs1)) k n (pc + 3) L st) (hl : 6 < fs.length := by exact Nat.le_of_ble_eq_true rfl) (hfs : fs.set 6 (.int x) = fs1 := by rfl) : pV p l e R s m args below meth c nL E A Q z h k n pc L (.int x :: .ref a0 :: st) := by
  subst hfs
  exact v_put (T := TX7) (ci := 7) (kf := 6) X hd inU7 tyX7 tyX7_ok nmX7 rfl (by decide) wf_X7_102 rfl (ty := .int) (by decide +kernel) rfl rfl hh hl kk
theorem wf_X7_105 : Cond.fieldLink RX7 105 (TX7 7).1 (TX7 7).2.1 (TX7 7).2.2.1 ∈ uw := uw_in (i := 685) (by decide +kernel) (by decide +kernel)
theorem g_X7_105 (X : pCx p s m args c cc nL RX7 E A) {a0 : Nat} {fs : List Value} {v : Value} (hd : decode cc pc = .ok (.getfield 105, 3)) (hh : h a0 = some (ob 7 fs)) (kk : pV p l e R s m args below meth c nL E A Q z h k n (pc + 3) L (v :: st)) (hv : fs[7]? = some v := by rfl) : pV p l e R s m args below meth c nL E A Q z h k n pc L (.ref a0 :: st) := v_get (T := TX7) (ci := 7) (kf := 7) X hd inU7 rfl (by decide) wf_X7_105 hh hv kk
theorem p_X7_105 (X : pCx p s m args c cc nL RX7 E A) {a0 : Nat} {fs fs1 : List Value} {x : Int32} (hd : decode cc pc = .ok (.putfield 105, 3)) (hh : h a0 = some (ob 7 fs)) (kk : pV p l e R s m args below meth c nL E A Q z (pset h a0 (ob 7 fs1)) k n (pc + 3) L st) (hl : 7 < fs.length := by exact Nat.le_of_ble_eq_true rfl) (hfs : fs.set 7 (.int x) = fs1 := by rfl) : pV p l e R s m args below meth c nL E A Q z h k n pc L (.int x :: .ref a0 :: st) := by
  subst hfs
  exact v_put (T := TX7) (ci := 7) (kf := 7) X hd inU7 tyX7 tyX7_ok nmX7 rfl (by decide) wf_X7_105 rfl (ty := .int) (by decide +kernel) rfl rfl hh hl kk
theorem wf_X7_108 : Cond.fieldLink RX7 108 (TX7 8).1 (TX7 8).2.1 (TX7 8).2.2.1 ∈ uw := uw_in (i := 686) (by decide +kernel) (by decide +kernel)
theorem g_X7_108 (X : pCx p s m args c cc nL RX7 E A) {a0 : Nat} {fs : List Value} {v : Value} (hd : decode cc pc = .ok (.getfield 108, 3)) (hh : h a0 = some (ob 7 fs)) (kk : pV p l e R s m args below meth c nL E A Q z h k n (pc + 3) L (v :: st)) (hv : fs[8]? = some v := by rfl) : pV p l e R s m args below meth c nL E A Q z h k n pc L (.ref a0 :: st) := v_get (T := TX7) (ci := 7) (kf := 8) X hd inU7 rfl (by decide) wf_X7_108 hh hv kk
theorem p_X7_108 (X : pCx p s m args c cc nL RX7 E A) {a0 : Nat} {fs fs1 : List Value} {x : Int32} (hd : decode cc pc = .ok (.putfield 108, 3)) (hh : h a0 = some (ob 7 fs)) (kk : pV p l e R s m args below meth c nL E A Q z (pset h a0 (ob 7 fs1)) k n (pc + 3) L st) (hl : 8 < fs.length := by exact Nat.le_of_ble_eq_true rfl) (hfs : fs.set 8 (.int x) = fs1 := by rfl) : pV p l e R s m args below meth c nL E A Q z h k n pc L (.int x :: .ref a0 :: st) := by
  subst hfs
  exact v_put (T := TX7) (ci := 7) (kf := 8) X hd inU7 tyX7 tyX7_ok nmX7 rfl (by decide) wf_X7_108 rfl (ty := .int) (by decide +kernel) rfl rfl hh hl kk
theorem wf_X7_114 : Cond.fieldLink RX7 114 (TX7 9).1 (TX7 9).2.1 (TX7 9).2.2.1 ∈ uw := uw_in (i := 687) (by decide +kernel) (by decide +kernel)
theorem g_X7_114 (X : pCx p s m args c cc nL RX7 E A) {a0 : Nat} {fs : List Value} {v : Value} (hd : decode cc pc = .ok (.getfield 114, 3)) (hh : h a0 = some (ob 7 fs)) (kk : pV p l e R s m args below meth c nL E A Q z h k n (pc + 3) L (v :: st)) (hv : fs[9]? = some v := by rfl) : pV p l e R s m args below meth c nL E A Q z h k n pc L (.ref a0 :: st) := v_get (T := TX7) (ci := 7) (kf := 9) X hd inU7 rfl (by decide) wf_X7_114 hh hv kk
theorem p_X7_114 (X : pCx p s m args c cc nL RX7 E A) {a0 : Nat} {fs fs1 : List Value} {x : Int32} (hd : decode cc pc = .ok (.putfield 114, 3)) (hh : h a0 = some (ob 7 fs)) (kk : pV p l e R s m args below meth c nL E A Q z (pset h a0 (ob 7 fs1)) k n (pc + 3) L st) (hl : 9 < fs.length := by exact Nat.le_of_ble_eq_true rfl) (hfs : fs.set 9 (.int x) = fs1 := by rfl) : pV p l e R s m args below meth c nL E A Q z h k n pc L (.int x :: .ref a0 :: st) := by
  subst hfs
  exact v_put (T := TX7) (ci := 7) (kf := 9) X hd inU7 tyX7 tyX7_ok nmX7 rfl (by decide) wf_X7_114 rfl (ty := .int) (by decide +kernel) rfl rfl hh hl kk
theorem wf_X7_22 : Cond.fieldLink RX7 22 (TX7 10).1 (TX7 10).2.1 (TX7 10).2.2.1 ∈ uw := uw_in (i := 688) (by decide +kernel) (by decide +kernel)
theorem g_X7_22 (X : pCx p s m args c cc nL RX7 E A) {a0 : Nat} {fs : List Value} {v : Value} (hd : decode cc pc = .ok (.getfield 22, 3)) (hh : h a0 = some (ob 7 fs)) (kk : pV p l e R s m args below meth c nL E A Q z h k n (pc + 3) L (v :: st)) (hv : fs[10]? = some v := by rfl) : pV p l e R s m args below meth c nL E A Q z h k n pc L (.ref a0 :: st) := v_get (T := TX7) (ci := 7) (kf := 10) X hd inU7 rfl (by decide) wf_X7_22 hh hv kk
theorem p_X7_22 (X : pCx p s m args c cc nL RX7 E A) {a0 x : Nat} {fs fs1 : List Value} (hd : decode cc pc = .ok (.putfield 22, 3)) (hh : h a0 = some (ob 7 fs)) (hin2 : meth.name = "<init>") (kk : pV p l e R s m args below meth c nL E A Q z (pset h a0 (ob 7 fs1)) k n (pc + 3) L st) (hl : 10 < fs.length := by exact Nat.le_of_ble_eq_true rfl) (hfs : fs.set 10 (.ref x) = fs1 := by rfl) : pV p l e R s m args below meth c nL E A Q z h k n pc L (.ref x :: .ref a0 :: st) := by
  subst hfs
  exact v_putF (T := TX7) (ci := 7) (kf := 10) X hd inU7 tyX7 tyX7_ok nmX7 rfl (by decide) wf_X7_22 rfl hin2 rfl (ty := .array (.int)) (by decide +kernel) rfl rfl hh hl kk
theorem wf_X7_155 : Cond.fieldLink RX7 155 (TX7 11).1 (TX7 11).2.1 (TX7 11).2.2.1 ∈ uw := uw_in (i := 689) (by decide +kernel) (by decide +kernel)
theorem g_X7_155 (X : pCx p s m args c cc nL RX7 E A) {a0 : Nat} {fs : List Value} {v : Value} (hd : decode cc pc = .ok (.getfield 155, 3)) (hh : h a0 = some (ob 7 fs)) (kk : pV p l e R s m args below meth c nL E A Q z h k n (pc + 3) L (v :: st)) (hv : fs[11]? = some v := by rfl) : pV p l e R s m args below meth c nL E A Q z h k n pc L (.ref a0 :: st) := v_get (T := TX7) (ci := 7) (kf := 11) X hd inU7 rfl (by decide) wf_X7_155 hh hv kk
theorem p_X7_155 (X : pCx p s m args c cc nL RX7 E A) {a0 : Nat} {fs fs1 : List Value} {x : Int32} (hd : decode cc pc = .ok (.putfield 155, 3)) (hh : h a0 = some (ob 7 fs)) (kk : pV p l e R s m args below meth c nL E A Q z (pset h a0 (ob 7 fs1)) k n (pc + 3) L st) (hl : 11 < fs.length := by exact Nat.le_of_ble_eq_true rfl) (hfs : fs.set 11 (.int x) = fs1 := by rfl) : pV p l e R s m args below meth c nL E A Q z h k n pc L (.int x :: .ref a0 :: st) := by
  subst hfs
  exact v_put (T := TX7) (ci := 7) (kf := 11) X hd inU7 tyX7 tyX7_ok nmX7 rfl (by decide) wf_X7_155 rfl (ty := .int) (by decide +kernel) rfl rfl hh hl kk
end PVF
