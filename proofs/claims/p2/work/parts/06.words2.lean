theorem wd_ac_I : Cond.arrayClass .int ∈ TBL := zz_in (by decide +kernel) rfl
theorem wd_ac_L : Cond.arrayClass .long ∈ TBL := zz_in (by decide +kernel) rfl
theorem wd_ac_Z : Cond.arrayClass .boolean ∈ TBL := zz_in (by decide +kernel) rfl
theorem wd_cd_min : Cond.code Lib.Math.min.name Lib.Math.min.code 2 (some .int) ∈ TBL := zz_in (by decide +kernel) rfl
theorem wd_cd_obj : Cond.code Lib.objectInit ⟨#[0xb1]⟩ 1 none ∈ TBL := zz_in (by decide +kernel) rfl
theorem wd_cl_La_10 : Cond.classLink "StatePuzzlesLaw" 10 R_Mo ∈ TBL := zz_in (List.mem_of_getElem? (i := 451) (by decide +kernel)) rfl
theorem wd_cl_La_7 : Cond.classLink "StatePuzzlesLaw" 7 R_Sp ∈ TBL := zz_in (List.mem_of_getElem? (i := 38) (by decide +kernel)) rfl
theorem wd_cl_Sp_16 : Cond.classLink "StatePuzzles" 16 R_Rv ∈ TBL := zz_in (List.mem_of_getElem? (i := 72) (by decide +kernel)) rfl
theorem wd_cl_Sp_23 : Cond.classLink "StatePuzzles" 23 R_Rt ∈ TBL := zz_in (List.mem_of_getElem? (i := 91) (by decide +kernel)) rfl
theorem wd_cl_Sp_30 : Cond.classLink "StatePuzzles" 30 R_Se ∈ TBL := zz_in (List.mem_of_getElem? (i := 104) (by decide +kernel)) rfl
theorem wd_cl_Sp_37 : Cond.classLink "StatePuzzles" 37 R_Fs ∈ TBL := zz_in (List.mem_of_getElem? (i := 120) (by decide +kernel)) rfl
theorem wd_cl_Sp_44 : Cond.classLink "StatePuzzles" 44 R_Tw ∈ TBL := zz_in (List.mem_of_getElem? (i := 136) (by decide +kernel)) rfl
theorem wd_cl_Sp_7 : Cond.classLink "StatePuzzles" 7 R_Js ∈ TBL := zz_in (List.mem_of_getElem? (i := 46) (by decide +kernel)) rfl
theorem wd_de_firstTold : Cond.declares ⟨"StatePuzzles$Puzzle", "firstTold", "(I)I"⟩ ∈ NWS := zz_nin (List.mem_of_getElem? (i := 309) (by decide +kernel)) rfl
theorem wd_de_isDone : Cond.declares ⟨"StatePuzzles$Puzzle", "isDone", "(I)Z"⟩ ∈ NWS := zz_nin (List.mem_of_getElem? (i := 244) (by decide +kernel)) rfl
theorem wd_de_meetNext : Cond.declares ⟨"StatePuzzles$Puzzle", "meetNext", "(ILStatePuzzles$Search;)V"⟩ ∈ NWS := zz_nin (List.mem_of_getElem? (i := 261) (by decide +kernel)) rfl
theorem wd_de_secondTold : Cond.declares ⟨"StatePuzzles$Puzzle", "secondTold", "(II)I"⟩ ∈ NWS := zz_nin (List.mem_of_getElem? (i := 318) (by decide +kernel)) rfl
theorem wd_de_startState : Cond.declares ⟨"StatePuzzles$Puzzle", "startState", "()I"⟩ ∈ NWS := zz_nin (List.mem_of_getElem? (i := 229) (by decide +kernel)) rfl
theorem wd_de_stateCount : Cond.declares ⟨"StatePuzzles$Puzzle", "stateCount", "()I"⟩ ∈ NWS := zz_nin (List.mem_of_getElem? (i := 213) (by decide +kernel)) rfl
theorem wd_fs_Js_28 : Cond.fieldLink "StatePuzzles$JugSet" 28 "StatePuzzles$JugSet" "DIGIT" "[I" ∈ TBL := zz_in (List.mem_of_getElem? (i := 234) (by decide +kernel)) rfl
theorem wd_im_Fs_first : Cond.instanceMethod y_Fs_first ∈ TBL := zz_in (List.mem_of_getElem? (i := 393) (by decide +kernel)) rfl
theorem wd_im_Fs_forget : Cond.instanceMethod y_Fs_forget ∈ TBL := zz_in (List.mem_of_getElem? (i := 185) (by decide +kernel)) rfl
theorem wd_im_Fs_init : Cond.instanceMethod y_Fs_init ∈ TBL := zz_in (List.mem_of_getElem? (i := 123) (by decide +kernel)) rfl
theorem wd_im_Fs_isFound : Cond.instanceMethod y_Fs_isFound ∈ TBL := zz_in (List.mem_of_getElem? (i := 332) (by decide +kernel)) rfl
theorem wd_im_Fs_makeRoom : Cond.instanceMethod y_Fs_makeRoom ∈ TBL := zz_in (List.mem_of_getElem? (i := 300) (by decide +kernel)) rfl
theorem wd_im_Fs_put : Cond.instanceMethod y_Fs_put ∈ TBL := zz_in (List.mem_of_getElem? (i := 327) (by decide +kernel)) rfl
theorem wd_im_Fs_second : Cond.instanceMethod y_Fs_second ∈ TBL := zz_in (List.mem_of_getElem? (i := 389) (by decide +kernel)) rfl
theorem wd_im_Js_add : Cond.instanceMethod y_Js_add ∈ TBL := zz_in (List.mem_of_getElem? (i := 189) (by decide +kernel)) rfl
theorem wd_im_Js_firstTold : Cond.instanceMethod y_Js_firstTold ∈ TBL := zz_in (List.mem_of_getElem? (i := 312) (by decide +kernel)) rfl
theorem wd_im_Js_init : Cond.instanceMethod y_Js_init ∈ TBL := zz_in (List.mem_of_getElem? (i := 49) (by decide +kernel)) rfl
theorem wd_im_Js_isDone : Cond.instanceMethod y_Js_isDone ∈ TBL := zz_in (List.mem_of_getElem? (i := 247) (by decide +kernel)) rfl
theorem wd_im_Js_meetNext : Cond.instanceMethod y_Js_meetNext ∈ TBL := zz_in (List.mem_of_getElem? (i := 264) (by decide +kernel)) rfl
theorem wd_im_Js_readLevels : Cond.instanceMethod y_Js_readLevels ∈ TBL := zz_in (List.mem_of_getElem? (i := 251) (by decide +kernel)) rfl
theorem wd_im_Js_roomIn : Cond.instanceMethod y_Js_roomIn ∈ TBL := zz_in (List.mem_of_getElem? (i := 268) (by decide +kernel)) rfl
theorem wd_im_Js_secondTold : Cond.instanceMethod y_Js_secondTold ∈ TBL := zz_in (List.mem_of_getElem? (i := 321) (by decide +kernel)) rfl
theorem wd_im_Js_startState : Cond.instanceMethod y_Js_startState ∈ TBL := zz_in (List.mem_of_getElem? (i := 232) (by decide +kernel)) rfl
theorem wd_im_Js_stateCount : Cond.instanceMethod y_Js_stateCount ∈ TBL := zz_in (List.mem_of_getElem? (i := 216) (by decide +kernel)) rfl
theorem wd_im_Js_want : Cond.instanceMethod y_Js_want ∈ TBL := zz_in (List.mem_of_getElem? (i := 197) (by decide +kernel)) rfl
theorem wd_im_Mo_all : Cond.instanceMethod y_Mo_all ∈ TBL := zz_in (List.mem_of_getElem? (i := 631) (by decide +kernel)) rfl
theorem wd_im_Mo_begin : Cond.instanceMethod y_Mo_begin ∈ TBL := zz_in (List.mem_of_getElem? (i := 566) (by decide +kernel)) rfl
theorem wd_im_Mo_byteAt : Cond.instanceMethod y_Mo_byteAt ∈ TBL := zz_in (List.mem_of_getElem? (i := 602) (by decide +kernel)) rfl
theorem wd_im_Mo_code : Cond.instanceMethod y_Mo_code ∈ TBL := zz_in (List.mem_of_getElem? (i := 562) (by decide +kernel)) rfl
theorem wd_im_Mo_come : Cond.instanceMethod y_Mo_come ∈ TBL := zz_in (List.mem_of_getElem? (i := 570) (by decide +kernel)) rfl
theorem wd_im_Mo_countOf : Cond.instanceMethod y_Mo_countOf ∈ TBL := zz_in (List.mem_of_getElem? (i := 610) (by decide +kernel)) rfl
theorem wd_im_Mo_crossing : Cond.instanceMethod y_Mo_crossing ∈ TBL := zz_in (List.mem_of_getElem? (i := 593) (by decide +kernel)) rfl
theorem wd_im_Mo_findFour : Cond.instanceMethod y_Mo_findFour ∈ TBL := zz_in (List.mem_of_getElem? (i := 643) (by decide +kernel)) rfl
theorem wd_im_Mo_findThree : Cond.instanceMethod y_Mo_findThree ∈ TBL := zz_in (List.mem_of_getElem? (i := 639) (by decide +kernel)) rfl
theorem wd_im_Mo_found : Cond.instanceMethod y_Mo_found ∈ TBL := zz_in (List.mem_of_getElem? (i := 582) (by decide +kernel)) rfl
theorem wd_im_Mo_goal : Cond.instanceMethod y_Mo_goal ∈ TBL := zz_in (List.mem_of_getElem? (i := 553) (by decide +kernel)) rfl
theorem wd_im_Mo_init : Cond.instanceMethod y_Mo_init ∈ TBL := zz_in (List.mem_of_getElem? (i := 454) (by decide +kernel)) rfl
theorem wd_im_Mo_isGoal : Cond.instanceMethod y_Mo_isGoal ∈ TBL := zz_in (List.mem_of_getElem? (i := 574) (by decide +kernel)) rfl
theorem wd_im_Mo_jug : Cond.instanceMethod y_Mo_jug ∈ TBL := zz_in (List.mem_of_getElem? (i := 549) (by decide +kernel)) rfl
theorem wd_im_Mo_jugs : Cond.instanceMethod y_Mo_jugs ∈ TBL := zz_in (List.mem_of_getElem? (i := 557) (by decide +kernel)) rfl
theorem wd_im_Mo_mayStay : Cond.instanceMethod y_Mo_mayStay ∈ TBL := zz_in (List.mem_of_getElem? (i := 614) (by decide +kernel)) rfl
theorem wd_im_Mo_parse : Cond.instanceMethod y_Mo_parse ∈ TBL := zz_in (List.mem_of_getElem? (i := 598) (by decide +kernel)) rfl
theorem wd_im_Mo_pour : Cond.instanceMethod y_Mo_pour ∈ TBL := zz_in (List.mem_of_getElem? (i := 586) (by decide +kernel)) rfl
theorem wd_im_Mo_ring : Cond.instanceMethod y_Mo_ring ∈ TBL := zz_in (List.mem_of_getElem? (i := 656) (by decide +kernel)) rfl
theorem wd_im_Mo_rings : Cond.instanceMethod y_Mo_rings ∈ TBL := zz_in (List.mem_of_getElem? (i := 649) (by decide +kernel)) rfl
theorem wd_im_Mo_step : Cond.instanceMethod y_Mo_step ∈ TBL := zz_in (List.mem_of_getElem? (i := 617) (by decide +kernel)) rfl
theorem wd_im_Mo_take : Cond.instanceMethod y_Mo_take ∈ TBL := zz_in (List.mem_of_getElem? (i := 578) (by decide +kernel)) rfl
theorem wd_im_Mo_thingOf : Cond.instanceMethod y_Mo_thingOf ∈ TBL := zz_in (List.mem_of_getElem? (i := 606) (by decide +kernel)) rfl
theorem wd_im_Mo_tower : Cond.instanceMethod y_Mo_tower ∈ TBL := zz_in (List.mem_of_getElem? (i := 625) (by decide +kernel)) rfl
theorem wd_im_Mo_towerMove : Cond.instanceMethod y_Mo_towerMove ∈ TBL := zz_in (List.mem_of_getElem? (i := 634) (by decide +kernel)) rfl
theorem wd_im_Mo_unit : Cond.instanceMethod y_Mo_unit ∈ TBL := zz_in (List.mem_of_getElem? (i := 589) (by decide +kernel)) rfl
theorem wd_im_Mo_weigh : Cond.instanceMethod y_Mo_weigh ∈ TBL := zz_in (List.mem_of_getElem? (i := 621) (by decide +kernel)) rfl
theorem wd_im_Pz_init : Cond.instanceMethod y_Pz_init ∈ TBL := zz_in (List.mem_of_getElem? (i := 52) (by decide +kernel)) rfl
theorem wd_im_Rt_add : Cond.instanceMethod y_Rt_add ∈ TBL := zz_in (List.mem_of_getElem? (i := 340) (by decide +kernel)) rfl
theorem wd_im_Rt_forget : Cond.instanceMethod y_Rt_forget ∈ TBL := zz_in (List.mem_of_getElem? (i := 381) (by decide +kernel)) rfl
theorem wd_im_Rt_init : Cond.instanceMethod y_Rt_init ∈ TBL := zz_in (List.mem_of_getElem? (i := 94) (by decide +kernel)) rfl
theorem wd_im_Rt_readInto : Cond.instanceMethod y_Rt_readInto ∈ TBL := zz_in (List.mem_of_getElem? (i := 348) (by decide +kernel)) rfl
theorem wd_im_Rt_readThings : Cond.instanceMethod y_Rt_readThings ∈ TBL := zz_in (List.mem_of_getElem? (i := 358) (by decide +kernel)) rfl
theorem wd_im_Rt_unitAt : Cond.instanceMethod y_Rt_unitAt ∈ TBL := zz_in (List.mem_of_getElem? (i := 362) (by decide +kernel)) rfl
theorem wd_im_Rv_addThing : Cond.instanceMethod y_Rv_addThing ∈ TBL := zz_in (List.mem_of_getElem? (i := 365) (by decide +kernel)) rfl
theorem wd_im_Rv_allThings : Cond.instanceMethod y_Rv_allThings ∈ TBL := zz_in (List.mem_of_getElem? (i := 258) (by decide +kernel)) rfl
theorem wd_im_Rv_clear : Cond.instanceMethod y_Rv_clear ∈ TBL := zz_in (List.mem_of_getElem? (i := 352) (by decide +kernel)) rfl
theorem wd_im_Rv_firstTold : Cond.instanceMethod y_Rv_firstTold ∈ TBL := zz_in (List.mem_of_getElem? (i := 315) (by decide +kernel)) rfl
theorem wd_im_Rv_init : Cond.instanceMethod y_Rv_init ∈ TBL := zz_in (List.mem_of_getElem? (i := 75) (by decide +kernel)) rfl
theorem wd_im_Rv_isDone : Cond.instanceMethod y_Rv_isDone ∈ TBL := zz_in (List.mem_of_getElem? (i := 254) (by decide +kernel)) rfl
theorem wd_im_Rv_keepApart : Cond.instanceMethod y_Rv_keepApart ∈ TBL := zz_in (List.mem_of_getElem? (i := 377) (by decide +kernel)) rfl
theorem wd_im_Rv_mayBeLeft : Cond.instanceMethod y_Rv_mayBeLeft ∈ TBL := zz_in (List.mem_of_getElem? (i := 288) (by decide +kernel)) rfl
theorem wd_im_Rv_meetNext : Cond.instanceMethod y_Rv_meetNext ∈ TBL := zz_in (List.mem_of_getElem? (i := 278) (by decide +kernel)) rfl
theorem wd_im_Rv_secondTold : Cond.instanceMethod y_Rv_secondTold ∈ TBL := zz_in (List.mem_of_getElem? (i := 324) (by decide +kernel)) rfl
theorem wd_im_Rv_setBoat : Cond.instanceMethod y_Rv_setBoat ∈ TBL := zz_in (List.mem_of_getElem? (i := 369) (by decide +kernel)) rfl
theorem wd_im_Rv_startState : Cond.instanceMethod y_Rv_startState ∈ TBL := zz_in (List.mem_of_getElem? (i := 237) (by decide +kernel)) rfl
theorem wd_im_Rv_stateCount : Cond.instanceMethod y_Rv_stateCount ∈ TBL := zz_in (List.mem_of_getElem? (i := 219) (by decide +kernel)) rfl
theorem wd_im_Rv_thingOf : Cond.instanceMethod y_Rv_thingOf ∈ TBL := zz_in (List.mem_of_getElem? (i := 373) (by decide +kernel)) rfl
theorem wd_im_Se_before : Cond.instanceMethod y_Se_before ∈ TBL := zz_in (List.mem_of_getElem? (i := 296) (by decide +kernel)) rfl
theorem wd_im_Se_endOf : Cond.instanceMethod y_Se_endOf ∈ TBL := zz_in (List.mem_of_getElem? (i := 209) (by decide +kernel)) rfl
theorem wd_im_Se_init : Cond.instanceMethod y_Se_init ∈ TBL := zz_in (List.mem_of_getElem? (i := 107) (by decide +kernel)) rfl
theorem wd_im_Se_makeRoom : Cond.instanceMethod y_Se_makeRoom ∈ TBL := zz_in (List.mem_of_getElem? (i := 223) (by decide +kernel)) rfl
theorem wd_im_Se_meet : Cond.instanceMethod y_Se_meet ∈ TBL := zz_in (List.mem_of_getElem? (i := 240) (by decide +kernel)) rfl
theorem wd_im_Se_stepInto : Cond.instanceMethod y_Se_stepInto ∈ TBL := zz_in (List.mem_of_getElem? (i := 305) (by decide +kernel)) rfl
theorem wd_im_Se_stepsTo : Cond.instanceMethod y_Se_stepsTo ∈ TBL := zz_in (List.mem_of_getElem? (i := 292) (by decide +kernel)) rfl
theorem wd_im_Sp_crossing : Cond.instanceMethod y_Sp_crossing ∈ TBL := zz_in (List.mem_of_getElem? (i := 344) (by decide +kernel)) rfl
theorem wd_im_Sp_find : Cond.instanceMethod y_Sp_find ∈ TBL := zz_in (List.mem_of_getElem? (i := 206) (by decide +kernel)) rfl
theorem wd_im_Sp_goal : Cond.instanceMethod y_Sp_goal ∈ TBL := zz_in (List.mem_of_getElem? (i := 193) (by decide +kernel)) rfl
theorem wd_im_Sp_init : Cond.instanceMethod y_Sp_init ∈ TBL := zz_in (List.mem_of_getElem? (i := 41) (by decide +kernel)) rfl
theorem wd_im_Sp_jug : Cond.instanceMethod y_Sp_jug ∈ TBL := zz_in (List.mem_of_getElem? (i := 181) (by decide +kernel)) rfl
theorem wd_im_Sp_jugs : Cond.instanceMethod y_Sp_jugs ∈ TBL := zz_in (List.mem_of_getElem? (i := 201) (by decide +kernel)) rfl
theorem wd_im_Sp_ring : Cond.instanceMethod y_Sp_ring ∈ TBL := zz_in (List.mem_of_getElem? (i := 448) (by decide +kernel)) rfl
theorem wd_im_Sp_rings : Cond.instanceMethod y_Sp_rings ∈ TBL := zz_in (List.mem_of_getElem? (i := 439) (by decide +kernel)) rfl
theorem wd_im_Sp_step : Cond.instanceMethod y_Sp_step ∈ TBL := zz_in (List.mem_of_getElem? (i := 385) (by decide +kernel)) rfl
theorem wd_im_Sp_tower : Cond.instanceMethod y_Sp_tower ∈ TBL := zz_in (List.mem_of_getElem? (i := 407) (by decide +kernel)) rfl
theorem wd_im_Sp_towerMove : Cond.instanceMethod y_Sp_towerMove ∈ TBL := zz_in (List.mem_of_getElem? (i := 420) (by decide +kernel)) rfl
theorem wd_im_Sp_unit : Cond.instanceMethod y_Sp_unit ∈ TBL := zz_in (List.mem_of_getElem? (i := 336) (by decide +kernel)) rfl
theorem wd_im_Sp_weigh : Cond.instanceMethod y_Sp_weigh ∈ TBL := zz_in (List.mem_of_getElem? (i := 397) (by decide +kernel)) rfl
theorem wd_im_Tw_init : Cond.instanceMethod y_Tw_init ∈ TBL := zz_in (List.mem_of_getElem? (i := 139) (by decide +kernel)) rfl
theorem wd_im_Tw_moves : Cond.instanceMethod y_Tw_moves ∈ TBL := zz_in (List.mem_of_getElem? (i := 415) (by decide +kernel)) rfl
theorem wd_im_Tw_set : Cond.instanceMethod y_Tw_set ∈ TBL := zz_in (List.mem_of_getElem? (i := 411) (by decide +kernel)) rfl
theorem wd_im_Tw_tellMove : Cond.instanceMethod y_Tw_tellMove ∈ TBL := zz_in (List.mem_of_getElem? (i := 424) (by decide +kernel)) rfl
theorem wd_im_Tw_tellOfFour : Cond.instanceMethod y_Tw_tellOfFour ∈ TBL := zz_in (List.mem_of_getElem? (i := 433) (by decide +kernel)) rfl
theorem wd_im_obj : Cond.instanceMethod Lib.objectInit ∈ TBL := zz_in (by decide +kernel) rfl
theorem wd_in_Fs : Cond.initialized R_Fs ∈ TBL := zz_in (List.mem_of_getElem? (i := 32) (by decide +kernel)) rfl
theorem wd_in_Js : Cond.initialized R_Js ∈ TBL := zz_in (List.mem_of_getElem? (i := 28) (by decide +kernel)) rfl
theorem wd_in_Mo : Cond.initialized R_Mo ∈ TBL := zz_in (List.mem_of_getElem? (i := 34) (by decide +kernel)) rfl
theorem wd_in_Rt : Cond.initialized R_Rt ∈ TBL := zz_in (List.mem_of_getElem? (i := 30) (by decide +kernel)) rfl
theorem wd_in_Rv : Cond.initialized R_Rv ∈ TBL := zz_in (List.mem_of_getElem? (i := 29) (by decide +kernel)) rfl
theorem wd_in_Se : Cond.initialized R_Se ∈ TBL := zz_in (List.mem_of_getElem? (i := 31) (by decide +kernel)) rfl
theorem wd_in_Sp : Cond.initialized R_Sp ∈ TBL := zz_in (List.mem_of_getElem? (i := 26) (by decide +kernel)) rfl
theorem wd_in_Tw : Cond.initialized R_Tw ∈ TBL := zz_in (List.mem_of_getElem? (i := 33) (by decide +kernel)) rfl
theorem wd_in_math : Cond.initialized "java/lang/Math" ∈ TBL := zz_in (List.mem_of_getElem? (i := 36) (by decide +kernel)) rfl
theorem wd_is_Fs : Cond.instantiable R_Fs 3 ∈ TBL := zz_in (List.mem_of_getElem? (i := 121) (by decide +kernel)) rfl
theorem wd_is_Js : Cond.instantiable R_Js 5 ∈ TBL := zz_in (List.mem_of_getElem? (i := 47) (by decide +kernel)) rfl
theorem wd_is_Mo : Cond.instantiable R_Mo 28 ∈ TBL := zz_in (List.mem_of_getElem? (i := 452) (by decide +kernel)) rfl
theorem wd_is_Rt : Cond.instantiable R_Rt 2 ∈ TBL := zz_in (List.mem_of_getElem? (i := 92) (by decide +kernel)) rfl
theorem wd_is_Rv : Cond.instantiable R_Rv 4 ∈ TBL := zz_in (List.mem_of_getElem? (i := 73) (by decide +kernel)) rfl
theorem wd_is_Se : Cond.instantiable R_Se 3 ∈ TBL := zz_in (List.mem_of_getElem? (i := 105) (by decide +kernel)) rfl
theorem wd_is_Sp : Cond.instantiable R_Sp 6 ∈ TBL := zz_in (List.mem_of_getElem? (i := 39) (by decide +kernel)) rfl
theorem wd_is_Tw : Cond.instantiable R_Tw 4 ∈ TBL := zz_in (List.mem_of_getElem? (i := 137) (by decide +kernel)) rfl
theorem wd_ml_Fs_22 : Cond.methodLink "StatePuzzles$FoundSteps" 22 Lib.Math.min.name ∈ TBL := zz_in (by decide +kernel) rfl
theorem wd_ml_Fs_28 : Cond.methodLink "StatePuzzles$FoundSteps" 28 y_Fs_isFound ∈ TBL := zz_in (List.mem_of_getElem? (i := 330) (by decide +kernel)) rfl
theorem wd_ml_Fs_3 : Cond.methodLink "StatePuzzles$FoundSteps" 3 Lib.objectInit ∈ TBL := zz_in (by decide +kernel) rfl
theorem wd_ml_Js_31 : Cond.methodLink "StatePuzzles$JugSet" 31 y_Js_readLevels ∈ TBL := zz_in (List.mem_of_getElem? (i := 249) (by decide +kernel)) rfl
theorem wd_ml_Js_35 : Cond.methodLink "StatePuzzles$JugSet" 35 y_Js_roomIn ∈ TBL := zz_in (List.mem_of_getElem? (i := 266) (by decide +kernel)) rfl
theorem wd_ml_Js_39 : Cond.methodLink "StatePuzzles$JugSet" 39 y_Js_codeOf ∈ TBL := zz_in (List.mem_of_getElem? (i := 270) (by decide +kernel)) rfl
theorem wd_ml_Js_43 : Cond.methodLink "StatePuzzles$JugSet" 43 y_Se_meet ∈ TBL := zz_in (List.mem_of_getElem? (i := 273) (by decide +kernel)) rfl
theorem wd_ml_Js_49 : Cond.methodLink "StatePuzzles$JugSet" 49 Lib.Math.min.name ∈ TBL := zz_in (by decide +kernel) rfl
theorem wd_ml_La_12 : Cond.methodLink "StatePuzzlesLaw" 12 y_Mo_init ∈ TBL := zz_in (List.mem_of_getElem? (i := 453) (by decide +kernel)) rfl
theorem wd_ml_La_13 : Cond.methodLink "StatePuzzlesLaw" 13 y_Sp_jug ∈ TBL := zz_in (List.mem_of_getElem? (i := 180) (by decide +kernel)) rfl
theorem wd_ml_La_17 : Cond.methodLink "StatePuzzlesLaw" 17 y_Mo_jug ∈ TBL := zz_in (List.mem_of_getElem? (i := 548) (by decide +kernel)) rfl
theorem wd_ml_La_18 : Cond.methodLink "StatePuzzlesLaw" 18 y_Sp_goal ∈ TBL := zz_in (List.mem_of_getElem? (i := 192) (by decide +kernel)) rfl
theorem wd_ml_La_22 : Cond.methodLink "StatePuzzlesLaw" 22 y_Mo_goal ∈ TBL := zz_in (List.mem_of_getElem? (i := 552) (by decide +kernel)) rfl
theorem wd_ml_La_23 : Cond.methodLink "StatePuzzlesLaw" 23 y_Sp_jugs ∈ TBL := zz_in (List.mem_of_getElem? (i := 200) (by decide +kernel)) rfl
theorem wd_ml_La_27 : Cond.methodLink "StatePuzzlesLaw" 27 y_Mo_jugs ∈ TBL := zz_in (List.mem_of_getElem? (i := 556) (by decide +kernel)) rfl
theorem wd_ml_La_28 : Cond.methodLink "StatePuzzlesLaw" 28 y_Sp_unit ∈ TBL := zz_in (List.mem_of_getElem? (i := 335) (by decide +kernel)) rfl
theorem wd_ml_La_32 : Cond.methodLink "StatePuzzlesLaw" 32 y_Mo_unit ∈ TBL := zz_in (List.mem_of_getElem? (i := 588) (by decide +kernel)) rfl
theorem wd_ml_La_33 : Cond.methodLink "StatePuzzlesLaw" 33 y_Sp_crossing ∈ TBL := zz_in (List.mem_of_getElem? (i := 343) (by decide +kernel)) rfl
theorem wd_ml_La_36 : Cond.methodLink "StatePuzzlesLaw" 36 y_Mo_crossing ∈ TBL := zz_in (List.mem_of_getElem? (i := 592) (by decide +kernel)) rfl
theorem wd_ml_La_37 : Cond.methodLink "StatePuzzlesLaw" 37 y_Sp_step ∈ TBL := zz_in (List.mem_of_getElem? (i := 384) (by decide +kernel)) rfl
theorem wd_ml_La_41 : Cond.methodLink "StatePuzzlesLaw" 41 y_Mo_step ∈ TBL := zz_in (List.mem_of_getElem? (i := 616) (by decide +kernel)) rfl
theorem wd_ml_La_42 : Cond.methodLink "StatePuzzlesLaw" 42 y_Sp_weigh ∈ TBL := zz_in (List.mem_of_getElem? (i := 396) (by decide +kernel)) rfl
theorem wd_ml_La_45 : Cond.methodLink "StatePuzzlesLaw" 45 y_Mo_weigh ∈ TBL := zz_in (List.mem_of_getElem? (i := 620) (by decide +kernel)) rfl
theorem wd_ml_La_46 : Cond.methodLink "StatePuzzlesLaw" 46 y_Sp_tower ∈ TBL := zz_in (List.mem_of_getElem? (i := 406) (by decide +kernel)) rfl
theorem wd_ml_La_50 : Cond.methodLink "StatePuzzlesLaw" 50 y_Mo_tower ∈ TBL := zz_in (List.mem_of_getElem? (i := 624) (by decide +kernel)) rfl
theorem wd_ml_La_53 : Cond.methodLink "StatePuzzlesLaw" 53 y_Sp_towerMove ∈ TBL := zz_in (List.mem_of_getElem? (i := 419) (by decide +kernel)) rfl
theorem wd_ml_La_57 : Cond.methodLink "StatePuzzlesLaw" 57 y_Mo_towerMove ∈ TBL := zz_in (List.mem_of_getElem? (i := 633) (by decide +kernel)) rfl
theorem wd_ml_La_58 : Cond.methodLink "StatePuzzlesLaw" 58 y_Sp_rings ∈ TBL := zz_in (List.mem_of_getElem? (i := 438) (by decide +kernel)) rfl
theorem wd_ml_La_62 : Cond.methodLink "StatePuzzlesLaw" 62 y_Mo_rings ∈ TBL := zz_in (List.mem_of_getElem? (i := 648) (by decide +kernel)) rfl
theorem wd_ml_La_63 : Cond.methodLink "StatePuzzlesLaw" 63 y_Sp_ring ∈ TBL := zz_in (List.mem_of_getElem? (i := 447) (by decide +kernel)) rfl
theorem wd_ml_La_67 : Cond.methodLink "StatePuzzlesLaw" 67 y_Mo_ring ∈ TBL := zz_in (List.mem_of_getElem? (i := 655) (by decide +kernel)) rfl
theorem wd_ml_La_9 : Cond.methodLink "StatePuzzlesLaw" 9 y_Sp_init ∈ TBL := zz_in (List.mem_of_getElem? (i := 40) (by decide +kernel)) rfl
theorem wd_ml_Mo_1 : Cond.methodLink "StatePuzzlesModel" 1 Lib.objectInit ∈ TBL := zz_in (by decide +kernel) rfl
theorem wd_ml_Mo_103 : Cond.methodLink "StatePuzzlesModel" 103 y_Mo_found ∈ TBL := zz_in (List.mem_of_getElem? (i := 580) (by decide +kernel)) rfl
theorem wd_ml_Mo_107 : Cond.methodLink "StatePuzzlesModel" 107 y_Mo_pour ∈ TBL := zz_in (List.mem_of_getElem? (i := 584) (by decide +kernel)) rfl
theorem wd_ml_Mo_117 : Cond.methodLink "StatePuzzlesModel" 117 y_Mo_byteAt ∈ TBL := zz_in (List.mem_of_getElem? (i := 600) (by decide +kernel)) rfl
theorem wd_ml_Mo_120 : Cond.methodLink "StatePuzzlesModel" 120 y_Mo_thingOf ∈ TBL := zz_in (List.mem_of_getElem? (i := 604) (by decide +kernel)) rfl
theorem wd_ml_Mo_126 : Cond.methodLink "StatePuzzlesModel" 126 y_Mo_parse ∈ TBL := zz_in (List.mem_of_getElem? (i := 596) (by decide +kernel)) rfl
theorem wd_ml_Mo_129 : Cond.methodLink "StatePuzzlesModel" 129 y_Mo_countOf ∈ TBL := zz_in (List.mem_of_getElem? (i := 608) (by decide +kernel)) rfl
theorem wd_ml_Mo_132 : Cond.methodLink "StatePuzzlesModel" 132 y_Mo_mayStay ∈ TBL := zz_in (List.mem_of_getElem? (i := 612) (by decide +kernel)) rfl
theorem wd_ml_Mo_140 : Cond.methodLink "StatePuzzlesModel" 140 y_Mo_all ∈ TBL := zz_in (List.mem_of_getElem? (i := 629) (by decide +kernel)) rfl
theorem wd_ml_Mo_153 : Cond.methodLink "StatePuzzlesModel" 153 y_Mo_spare ∈ TBL := zz_in (List.mem_of_getElem? (i := 645) (by decide +kernel)) rfl
theorem wd_ml_Mo_157 : Cond.methodLink "StatePuzzlesModel" 157 y_Mo_findThree ∈ TBL := zz_in (List.mem_of_getElem? (i := 637) (by decide +kernel)) rfl
theorem wd_ml_Mo_161 : Cond.methodLink "StatePuzzlesModel" 161 y_Mo_findFour ∈ TBL := zz_in (List.mem_of_getElem? (i := 641) (by decide +kernel)) rfl
theorem wd_ml_Mo_165 : Cond.methodLink "StatePuzzlesModel" 165 y_Mo_full ∈ TBL := zz_in (List.mem_of_getElem? (i := 652) (by decide +kernel)) rfl
theorem wd_ml_Mo_68 : Cond.methodLink "StatePuzzlesModel" 68 y_Mo_three ∈ TBL := zz_in (List.mem_of_getElem? (i := 459) (by decide +kernel)) rfl
theorem wd_ml_Mo_81 : Cond.methodLink "StatePuzzlesModel" 81 y_Mo_take ∈ TBL := zz_in (List.mem_of_getElem? (i := 576) (by decide +kernel)) rfl
theorem wd_ml_Mo_88 : Cond.methodLink "StatePuzzlesModel" 88 y_Mo_come ∈ TBL := zz_in (List.mem_of_getElem? (i := 568) (by decide +kernel)) rfl
theorem wd_ml_Mo_92 : Cond.methodLink "StatePuzzlesModel" 92 y_Mo_code ∈ TBL := zz_in (List.mem_of_getElem? (i := 560) (by decide +kernel)) rfl
theorem wd_ml_Mo_96 : Cond.methodLink "StatePuzzlesModel" 96 y_Mo_begin ∈ TBL := zz_in (List.mem_of_getElem? (i := 564) (by decide +kernel)) rfl
theorem wd_ml_Mo_99 : Cond.methodLink "StatePuzzlesModel" 99 y_Mo_isGoal ∈ TBL := zz_in (List.mem_of_getElem? (i := 572) (by decide +kernel)) rfl
theorem wd_ml_Pz_1 : Cond.methodLink "StatePuzzles$Puzzle" 1 Lib.objectInit ∈ TBL := zz_in (by decide +kernel) rfl
theorem wd_ml_Rt_19 : Cond.methodLink "StatePuzzles$RiverText" 19 y_Rv_clear ∈ TBL := zz_in (List.mem_of_getElem? (i := 351) (by decide +kernel)) rfl
theorem wd_ml_Rt_24 : Cond.methodLink "StatePuzzles$RiverText" 24 y_Rt_readThings ∈ TBL := zz_in (List.mem_of_getElem? (i := 356) (by decide +kernel)) rfl
theorem wd_ml_Rt_28 : Cond.methodLink "StatePuzzles$RiverText" 28 y_Rt_unitAt ∈ TBL := zz_in (List.mem_of_getElem? (i := 360) (by decide +kernel)) rfl
theorem wd_ml_Rt_3 : Cond.methodLink "StatePuzzles$RiverText" 3 Lib.objectInit ∈ TBL := zz_in (by decide +kernel) rfl
theorem wd_ml_Rt_32 : Cond.methodLink "StatePuzzles$RiverText" 32 y_Rv_setBoat ∈ TBL := zz_in (List.mem_of_getElem? (i := 368) (by decide +kernel)) rfl
theorem wd_ml_Rt_36 : Cond.methodLink "StatePuzzles$RiverText" 36 y_Rv_thingOf ∈ TBL := zz_in (List.mem_of_getElem? (i := 372) (by decide +kernel)) rfl
theorem wd_ml_Rt_39 : Cond.methodLink "StatePuzzles$RiverText" 39 y_Rv_keepApart ∈ TBL := zz_in (List.mem_of_getElem? (i := 376) (by decide +kernel)) rfl
theorem wd_ml_Rt_43 : Cond.methodLink "StatePuzzles$RiverText" 43 y_Rv_addThing ∈ TBL := zz_in (List.mem_of_getElem? (i := 364) (by decide +kernel)) rfl
theorem wd_ml_Rv_18 : Cond.methodLink "StatePuzzles$River" 18 y_Ar_fill ∈ TBL := zz_in (List.mem_of_getElem? (i := 355) (by decide +kernel)) rfl
theorem wd_ml_Rv_31 : Cond.methodLink "StatePuzzles$River" 31 y_Rv_allThings ∈ TBL := zz_in (List.mem_of_getElem? (i := 256) (by decide +kernel)) rfl
theorem wd_ml_Rv_35 : Cond.methodLink "StatePuzzles$River" 35 y_Ig_bitCount ∈ TBL := zz_in (List.mem_of_getElem? (i := 280) (by decide +kernel)) rfl
theorem wd_ml_Rv_41 : Cond.methodLink "StatePuzzles$River" 41 y_Rv_mayBeLeft ∈ TBL := zz_in (List.mem_of_getElem? (i := 286) (by decide +kernel)) rfl
theorem wd_ml_Rv_45 : Cond.methodLink "StatePuzzles$River" 45 y_Se_meet ∈ TBL := zz_in (List.mem_of_getElem? (i := 290) (by decide +kernel)) rfl
theorem wd_ml_Se_18 : Cond.methodLink "StatePuzzles$Search" 18 ⟨"StatePuzzles$Puzzle", "stateCount", "()I"⟩ ∈ TBL := zz_in (List.mem_of_getElem? (i := 212) (by decide +kernel)) rfl
theorem wd_ml_Se_24 : Cond.methodLink "StatePuzzles$Search" 24 y_Se_makeRoom ∈ TBL := zz_in (List.mem_of_getElem? (i := 221) (by decide +kernel)) rfl
theorem wd_ml_Se_28 : Cond.methodLink "StatePuzzles$Search" 28 y_Ar_fill ∈ TBL := zz_in (List.mem_of_getElem? (i := 225) (by decide +kernel)) rfl
theorem wd_ml_Se_3 : Cond.methodLink "StatePuzzles$Search" 3 Lib.objectInit ∈ TBL := zz_in (by decide +kernel) rfl
theorem wd_ml_Se_38 : Cond.methodLink "StatePuzzles$Search" 38 ⟨"StatePuzzles$Puzzle", "startState", "()I"⟩ ∈ TBL := zz_in (List.mem_of_getElem? (i := 228) (by decide +kernel)) rfl
theorem wd_ml_Se_41 : Cond.methodLink "StatePuzzles$Search" 41 y_Se_meet ∈ TBL := zz_in (List.mem_of_getElem? (i := 239) (by decide +kernel)) rfl
theorem wd_ml_Se_45 : Cond.methodLink "StatePuzzles$Search" 45 ⟨"StatePuzzles$Puzzle", "isDone", "(I)Z"⟩ ∈ TBL := zz_in (List.mem_of_getElem? (i := 243) (by decide +kernel)) rfl
theorem wd_ml_Se_49 : Cond.methodLink "StatePuzzles$Search" 49 ⟨"StatePuzzles$Puzzle", "meetNext", "(ILStatePuzzles$Search;)V"⟩ ∈ TBL := zz_in (List.mem_of_getElem? (i := 260) (by decide +kernel)) rfl
theorem wd_ml_Se_53 : Cond.methodLink "StatePuzzles$Search" 53 y_Se_before ∈ TBL := zz_in (List.mem_of_getElem? (i := 295) (by decide +kernel)) rfl
theorem wd_ml_Sp_1 : Cond.methodLink "StatePuzzles" 1 Lib.objectInit ∈ TBL := zz_in (by decide +kernel) rfl
theorem wd_ml_Sp_100 : Cond.methodLink "StatePuzzles" 100 y_Sp_ringSteps ∈ TBL := zz_in (List.mem_of_getElem? (i := 442) (by decide +kernel)) rfl
theorem wd_ml_Sp_104 : Cond.methodLink "StatePuzzles" 104 y_Se_endOf ∈ TBL := zz_in (List.mem_of_getElem? (i := 208) (by decide +kernel)) rfl
theorem wd_ml_Sp_107 : Cond.methodLink "StatePuzzles" 107 y_Se_stepsTo ∈ TBL := zz_in (List.mem_of_getElem? (i := 291) (by decide +kernel)) rfl
theorem wd_ml_Sp_110 : Cond.methodLink "StatePuzzles" 110 y_Fs_makeRoom ∈ TBL := zz_in (List.mem_of_getElem? (i := 299) (by decide +kernel)) rfl
theorem wd_ml_Sp_114 : Cond.methodLink "StatePuzzles" 114 y_Se_stepInto ∈ TBL := zz_in (List.mem_of_getElem? (i := 304) (by decide +kernel)) rfl
theorem wd_ml_Sp_117 : Cond.methodLink "StatePuzzles" 117 ⟨"StatePuzzles$Puzzle", "firstTold", "(I)I"⟩ ∈ TBL := zz_in (List.mem_of_getElem? (i := 308) (by decide +kernel)) rfl
theorem wd_ml_Sp_122 : Cond.methodLink "StatePuzzles" 122 ⟨"StatePuzzles$Puzzle", "secondTold", "(II)I"⟩ ∈ TBL := zz_in (List.mem_of_getElem? (i := 317) (by decide +kernel)) rfl
theorem wd_ml_Sp_125 : Cond.methodLink "StatePuzzles" 125 y_Fs_put ∈ TBL := zz_in (List.mem_of_getElem? (i := 326) (by decide +kernel)) rfl
theorem wd_ml_Sp_129 : Cond.methodLink "StatePuzzles" 129 y_Se_before ∈ TBL := zz_in (List.mem_of_getElem? (i := 334) (by decide +kernel)) rfl
theorem wd_ml_Sp_46 : Cond.methodLink "StatePuzzles" 46 y_Tw_init ∈ TBL := zz_in (List.mem_of_getElem? (i := 138) (by decide +kernel)) rfl
theorem wd_ml_Sp_51 : Cond.methodLink "StatePuzzles" 51 y_Fs_forget ∈ TBL := zz_in (List.mem_of_getElem? (i := 184) (by decide +kernel)) rfl
theorem wd_ml_Sp_54 : Cond.methodLink "StatePuzzles" 54 y_Js_add ∈ TBL := zz_in (List.mem_of_getElem? (i := 188) (by decide +kernel)) rfl
theorem wd_ml_Sp_58 : Cond.methodLink "StatePuzzles" 58 y_Js_want ∈ TBL := zz_in (List.mem_of_getElem? (i := 196) (by decide +kernel)) rfl
theorem wd_ml_Sp_62 : Cond.methodLink "StatePuzzles" 62 y_Sp_find ∈ TBL := zz_in (List.mem_of_getElem? (i := 204) (by decide +kernel)) rfl
theorem wd_ml_Sp_66 : Cond.methodLink "StatePuzzles" 66 y_Rt_add ∈ TBL := zz_in (List.mem_of_getElem? (i := 339) (by decide +kernel)) rfl
theorem wd_ml_Sp_69 : Cond.methodLink "StatePuzzles" 69 y_Rt_readInto ∈ TBL := zz_in (List.mem_of_getElem? (i := 347) (by decide +kernel)) rfl
theorem wd_ml_Sp_73 : Cond.methodLink "StatePuzzles" 73 y_Rt_forget ∈ TBL := zz_in (List.mem_of_getElem? (i := 380) (by decide +kernel)) rfl
theorem wd_ml_Sp_74 : Cond.methodLink "StatePuzzles" 74 y_Fs_second ∈ TBL := zz_in (List.mem_of_getElem? (i := 388) (by decide +kernel)) rfl
theorem wd_ml_Sp_78 : Cond.methodLink "StatePuzzles" 78 y_Fs_first ∈ TBL := zz_in (List.mem_of_getElem? (i := 392) (by decide +kernel)) rfl
theorem wd_ml_Sp_81 : Cond.methodLink "StatePuzzles" 81 y_Sp_triesForHeavier ∈ TBL := zz_in (List.mem_of_getElem? (i := 400) (by decide +kernel)) rfl
theorem wd_ml_Sp_84 : Cond.methodLink "StatePuzzles" 84 y_Sp_triesForOdd ∈ TBL := zz_in (List.mem_of_getElem? (i := 403) (by decide +kernel)) rfl
theorem wd_ml_Sp_87 : Cond.methodLink "StatePuzzles" 87 y_Tw_set ∈ TBL := zz_in (List.mem_of_getElem? (i := 410) (by decide +kernel)) rfl
theorem wd_ml_Sp_90 : Cond.methodLink "StatePuzzles" 90 y_Tw_moves ∈ TBL := zz_in (List.mem_of_getElem? (i := 414) (by decide +kernel)) rfl
theorem wd_ml_Sp_96 : Cond.methodLink "StatePuzzles" 96 y_Tw_tellMove ∈ TBL := zz_in (List.mem_of_getElem? (i := 423) (by decide +kernel)) rfl
theorem wd_ml_Tw_29 : Cond.methodLink "StatePuzzles$Tower" 29 y_Tw_threePegMoves ∈ TBL := zz_in (List.mem_of_getElem? (i := 144) (by decide +kernel)) rfl
theorem wd_ml_Tw_3 : Cond.methodLink "StatePuzzles$Tower" 3 Lib.objectInit ∈ TBL := zz_in (by decide +kernel) rfl
theorem wd_ml_Tw_36 : Cond.methodLink "StatePuzzles$Tower" 36 y_Tw_moves ∈ TBL := zz_in (List.mem_of_getElem? (i := 427) (by decide +kernel)) rfl
theorem wd_ml_Tw_40 : Cond.methodLink "StatePuzzles$Tower" 40 y_Tw_tellOfThree ∈ TBL := zz_in (List.mem_of_getElem? (i := 428) (by decide +kernel)) rfl
theorem wd_ml_Tw_44 : Cond.methodLink "StatePuzzles$Tower" 44 y_Tw_tellOfFour ∈ TBL := zz_in (List.mem_of_getElem? (i := 431) (by decide +kernel)) rfl
theorem wd_ml_Tw_48 : Cond.methodLink "StatePuzzles$Tower" 48 y_Tw_lesserFreePeg ∈ TBL := zz_in (List.mem_of_getElem? (i := 435) (by decide +kernel)) rfl
theorem wd_mn_Js_5 : Cond.methodLinkNest "StatePuzzles$JugSet" 5 y_Pz_init "StatePuzzles" ∈ NWS := zz_nin (List.mem_of_getElem? (i := 51) (by decide +kernel)) rfl
theorem wd_mn_Rv_3 : Cond.methodLinkNest "StatePuzzles$River" 3 y_Pz_init "StatePuzzles" ∈ NWS := zz_nin (List.mem_of_getElem? (i := 77) (by decide +kernel)) rfl
theorem wd_mn_Sp_18 : Cond.methodLinkNest "StatePuzzles" 18 y_Rv_init "StatePuzzles" ∈ NWS := zz_nin (List.mem_of_getElem? (i := 74) (by decide +kernel)) rfl
theorem wd_mn_Sp_25 : Cond.methodLinkNest "StatePuzzles" 25 y_Rt_init "StatePuzzles" ∈ NWS := zz_nin (List.mem_of_getElem? (i := 93) (by decide +kernel)) rfl
theorem wd_mn_Sp_32 : Cond.methodLinkNest "StatePuzzles" 32 y_Se_init "StatePuzzles" ∈ NWS := zz_nin (List.mem_of_getElem? (i := 106) (by decide +kernel)) rfl
theorem wd_mn_Sp_39 : Cond.methodLinkNest "StatePuzzles" 39 y_Fs_init "StatePuzzles" ∈ NWS := zz_nin (List.mem_of_getElem? (i := 122) (by decide +kernel)) rfl
theorem wd_mn_Sp_9 : Cond.methodLinkNest "StatePuzzles" 9 y_Js_init "StatePuzzles" ∈ NWS := zz_nin (List.mem_of_getElem? (i := 48) (by decide +kernel)) rfl
theorem wd_se_Fs_first : Cond.selects "StatePuzzles$FoundSteps" y_Fs_first y_Fs_first ∈ TBL := zz_in (List.mem_of_getElem? (i := 394) (by decide +kernel)) rfl
theorem wd_se_Fs_forget : Cond.selects "StatePuzzles$FoundSteps" y_Fs_forget y_Fs_forget ∈ TBL := zz_in (List.mem_of_getElem? (i := 186) (by decide +kernel)) rfl
theorem wd_se_Fs_isFound : Cond.selects "StatePuzzles$FoundSteps" y_Fs_isFound y_Fs_isFound ∈ TBL := zz_in (List.mem_of_getElem? (i := 6) (by decide +kernel)) rfl
theorem wd_se_Fs_makeRoom : Cond.selects "StatePuzzles$FoundSteps" y_Fs_makeRoom y_Fs_makeRoom ∈ TBL := zz_in (List.mem_of_getElem? (i := 301) (by decide +kernel)) rfl
theorem wd_se_Fs_put : Cond.selects "StatePuzzles$FoundSteps" y_Fs_put y_Fs_put ∈ TBL := zz_in (List.mem_of_getElem? (i := 328) (by decide +kernel)) rfl
theorem wd_se_Fs_second : Cond.selects "StatePuzzles$FoundSteps" y_Fs_second y_Fs_second ∈ TBL := zz_in (List.mem_of_getElem? (i := 390) (by decide +kernel)) rfl
theorem wd_se_Js_add : Cond.selects "StatePuzzles$JugSet" y_Js_add y_Js_add ∈ TBL := zz_in (List.mem_of_getElem? (i := 190) (by decide +kernel)) rfl
theorem wd_se_Js_firstTold : Cond.selects "StatePuzzles$JugSet" ⟨"StatePuzzles$Puzzle", "firstTold", "(I)I"⟩ y_Js_firstTold ∈ TBL := zz_in (List.mem_of_getElem? (i := 311) (by decide +kernel)) rfl
theorem wd_se_Js_isDone : Cond.selects "StatePuzzles$JugSet" ⟨"StatePuzzles$Puzzle", "isDone", "(I)Z"⟩ y_Js_isDone ∈ TBL := zz_in (List.mem_of_getElem? (i := 246) (by decide +kernel)) rfl
theorem wd_se_Js_meetNext : Cond.selects "StatePuzzles$JugSet" ⟨"StatePuzzles$Puzzle", "meetNext", "(ILStatePuzzles$Search;)V"⟩ y_Js_meetNext ∈ TBL := zz_in (List.mem_of_getElem? (i := 263) (by decide +kernel)) rfl
theorem wd_se_Js_readLevels : Cond.selects "StatePuzzles$JugSet" y_Js_readLevels y_Js_readLevels ∈ TBL := zz_in (List.mem_of_getElem? (i := 2) (by decide +kernel)) rfl
theorem wd_se_Js_roomIn : Cond.selects "StatePuzzles$JugSet" y_Js_roomIn y_Js_roomIn ∈ TBL := zz_in (List.mem_of_getElem? (i := 4) (by decide +kernel)) rfl
theorem wd_se_Js_secondTold : Cond.selects "StatePuzzles$JugSet" ⟨"StatePuzzles$Puzzle", "secondTold", "(II)I"⟩ y_Js_secondTold ∈ TBL := zz_in (List.mem_of_getElem? (i := 320) (by decide +kernel)) rfl
theorem wd_se_Js_startState : Cond.selects "StatePuzzles$JugSet" ⟨"StatePuzzles$Puzzle", "startState", "()I"⟩ y_Js_startState ∈ TBL := zz_in (List.mem_of_getElem? (i := 231) (by decide +kernel)) rfl
theorem wd_se_Js_stateCount : Cond.selects "StatePuzzles$JugSet" ⟨"StatePuzzles$Puzzle", "stateCount", "()I"⟩ y_Js_stateCount ∈ TBL := zz_in (List.mem_of_getElem? (i := 215) (by decide +kernel)) rfl
theorem wd_se_Js_want : Cond.selects "StatePuzzles$JugSet" y_Js_want y_Js_want ∈ TBL := zz_in (List.mem_of_getElem? (i := 198) (by decide +kernel)) rfl
theorem wd_se_Mo_all : Cond.selects "StatePuzzlesModel" y_Mo_all y_Mo_all ∈ TBL := zz_in (List.mem_of_getElem? (i := 22) (by decide +kernel)) rfl
theorem wd_se_Mo_begin : Cond.selects "StatePuzzlesModel" y_Mo_begin y_Mo_begin ∈ TBL := zz_in (List.mem_of_getElem? (i := 11) (by decide +kernel)) rfl
theorem wd_se_Mo_byteAt : Cond.selects "StatePuzzlesModel" y_Mo_byteAt y_Mo_byteAt ∈ TBL := zz_in (List.mem_of_getElem? (i := 18) (by decide +kernel)) rfl
theorem wd_se_Mo_code : Cond.selects "StatePuzzlesModel" y_Mo_code y_Mo_code ∈ TBL := zz_in (List.mem_of_getElem? (i := 10) (by decide +kernel)) rfl
theorem wd_se_Mo_come : Cond.selects "StatePuzzlesModel" y_Mo_come y_Mo_come ∈ TBL := zz_in (List.mem_of_getElem? (i := 12) (by decide +kernel)) rfl
theorem wd_se_Mo_countOf : Cond.selects "StatePuzzlesModel" y_Mo_countOf y_Mo_countOf ∈ TBL := zz_in (List.mem_of_getElem? (i := 20) (by decide +kernel)) rfl
theorem wd_se_Mo_crossing : Cond.selects "StatePuzzlesModel" y_Mo_crossing y_Mo_crossing ∈ TBL := zz_in (List.mem_of_getElem? (i := 594) (by decide +kernel)) rfl
theorem wd_se_Mo_findFour : Cond.selects "StatePuzzlesModel" y_Mo_findFour y_Mo_findFour ∈ TBL := zz_in (List.mem_of_getElem? (i := 24) (by decide +kernel)) rfl
theorem wd_se_Mo_findThree : Cond.selects "StatePuzzlesModel" y_Mo_findThree y_Mo_findThree ∈ TBL := zz_in (List.mem_of_getElem? (i := 23) (by decide +kernel)) rfl
theorem wd_se_Mo_found : Cond.selects "StatePuzzlesModel" y_Mo_found y_Mo_found ∈ TBL := zz_in (List.mem_of_getElem? (i := 15) (by decide +kernel)) rfl
theorem wd_se_Mo_goal : Cond.selects "StatePuzzlesModel" y_Mo_goal y_Mo_goal ∈ TBL := zz_in (List.mem_of_getElem? (i := 554) (by decide +kernel)) rfl
theorem wd_se_Mo_isGoal : Cond.selects "StatePuzzlesModel" y_Mo_isGoal y_Mo_isGoal ∈ TBL := zz_in (List.mem_of_getElem? (i := 13) (by decide +kernel)) rfl
theorem wd_se_Mo_jug : Cond.selects "StatePuzzlesModel" y_Mo_jug y_Mo_jug ∈ TBL := zz_in (List.mem_of_getElem? (i := 550) (by decide +kernel)) rfl
theorem wd_se_Mo_jugs : Cond.selects "StatePuzzlesModel" y_Mo_jugs y_Mo_jugs ∈ TBL := zz_in (List.mem_of_getElem? (i := 558) (by decide +kernel)) rfl
theorem wd_se_Mo_mayStay : Cond.selects "StatePuzzlesModel" y_Mo_mayStay y_Mo_mayStay ∈ TBL := zz_in (List.mem_of_getElem? (i := 21) (by decide +kernel)) rfl
theorem wd_se_Mo_parse : Cond.selects "StatePuzzlesModel" y_Mo_parse y_Mo_parse ∈ TBL := zz_in (List.mem_of_getElem? (i := 17) (by decide +kernel)) rfl
theorem wd_se_Mo_pour : Cond.selects "StatePuzzlesModel" y_Mo_pour y_Mo_pour ∈ TBL := zz_in (List.mem_of_getElem? (i := 16) (by decide +kernel)) rfl
theorem wd_se_Mo_ring : Cond.selects "StatePuzzlesModel" y_Mo_ring y_Mo_ring ∈ TBL := zz_in (List.mem_of_getElem? (i := 657) (by decide +kernel)) rfl
theorem wd_se_Mo_rings : Cond.selects "StatePuzzlesModel" y_Mo_rings y_Mo_rings ∈ TBL := zz_in (List.mem_of_getElem? (i := 650) (by decide +kernel)) rfl
theorem wd_se_Mo_step : Cond.selects "StatePuzzlesModel" y_Mo_step y_Mo_step ∈ TBL := zz_in (List.mem_of_getElem? (i := 618) (by decide +kernel)) rfl
theorem wd_se_Mo_take : Cond.selects "StatePuzzlesModel" y_Mo_take y_Mo_take ∈ TBL := zz_in (List.mem_of_getElem? (i := 14) (by decide +kernel)) rfl
theorem wd_se_Mo_thingOf : Cond.selects "StatePuzzlesModel" y_Mo_thingOf y_Mo_thingOf ∈ TBL := zz_in (List.mem_of_getElem? (i := 19) (by decide +kernel)) rfl
theorem wd_se_Mo_tower : Cond.selects "StatePuzzlesModel" y_Mo_tower y_Mo_tower ∈ TBL := zz_in (List.mem_of_getElem? (i := 626) (by decide +kernel)) rfl
theorem wd_se_Mo_towerMove : Cond.selects "StatePuzzlesModel" y_Mo_towerMove y_Mo_towerMove ∈ TBL := zz_in (List.mem_of_getElem? (i := 635) (by decide +kernel)) rfl
theorem wd_se_Mo_unit : Cond.selects "StatePuzzlesModel" y_Mo_unit y_Mo_unit ∈ TBL := zz_in (List.mem_of_getElem? (i := 590) (by decide +kernel)) rfl
theorem wd_se_Mo_weigh : Cond.selects "StatePuzzlesModel" y_Mo_weigh y_Mo_weigh ∈ TBL := zz_in (List.mem_of_getElem? (i := 622) (by decide +kernel)) rfl
theorem wd_se_Rt_add : Cond.selects "StatePuzzles$RiverText" y_Rt_add y_Rt_add ∈ TBL := zz_in (List.mem_of_getElem? (i := 341) (by decide +kernel)) rfl
theorem wd_se_Rt_forget : Cond.selects "StatePuzzles$RiverText" y_Rt_forget y_Rt_forget ∈ TBL := zz_in (List.mem_of_getElem? (i := 382) (by decide +kernel)) rfl
theorem wd_se_Rt_readInto : Cond.selects "StatePuzzles$RiverText" y_Rt_readInto y_Rt_readInto ∈ TBL := zz_in (List.mem_of_getElem? (i := 349) (by decide +kernel)) rfl
theorem wd_se_Rt_readThings : Cond.selects "StatePuzzles$RiverText" y_Rt_readThings y_Rt_readThings ∈ TBL := zz_in (List.mem_of_getElem? (i := 7) (by decide +kernel)) rfl
theorem wd_se_Rt_unitAt : Cond.selects "StatePuzzles$RiverText" y_Rt_unitAt y_Rt_unitAt ∈ TBL := zz_in (List.mem_of_getElem? (i := 8) (by decide +kernel)) rfl
theorem wd_se_Rv_addThing : Cond.selects "StatePuzzles$River" y_Rv_addThing y_Rv_addThing ∈ TBL := zz_in (List.mem_of_getElem? (i := 366) (by decide +kernel)) rfl
theorem wd_se_Rv_allThings : Cond.selects "StatePuzzles$River" y_Rv_allThings y_Rv_allThings ∈ TBL := zz_in (List.mem_of_getElem? (i := 3) (by decide +kernel)) rfl
theorem wd_se_Rv_clear : Cond.selects "StatePuzzles$River" y_Rv_clear y_Rv_clear ∈ TBL := zz_in (List.mem_of_getElem? (i := 353) (by decide +kernel)) rfl
theorem wd_se_Rv_firstTold : Cond.selects "StatePuzzles$River" ⟨"StatePuzzles$Puzzle", "firstTold", "(I)I"⟩ y_Rv_firstTold ∈ TBL := zz_in (List.mem_of_getElem? (i := 314) (by decide +kernel)) rfl
theorem wd_se_Rv_isDone : Cond.selects "StatePuzzles$River" ⟨"StatePuzzles$Puzzle", "isDone", "(I)Z"⟩ y_Rv_isDone ∈ TBL := zz_in (List.mem_of_getElem? (i := 253) (by decide +kernel)) rfl
theorem wd_se_Rv_keepApart : Cond.selects "StatePuzzles$River" y_Rv_keepApart y_Rv_keepApart ∈ TBL := zz_in (List.mem_of_getElem? (i := 378) (by decide +kernel)) rfl
theorem wd_se_Rv_mayBeLeft : Cond.selects "StatePuzzles$River" y_Rv_mayBeLeft y_Rv_mayBeLeft ∈ TBL := zz_in (List.mem_of_getElem? (i := 5) (by decide +kernel)) rfl
theorem wd_se_Rv_meetNext : Cond.selects "StatePuzzles$River" ⟨"StatePuzzles$Puzzle", "meetNext", "(ILStatePuzzles$Search;)V"⟩ y_Rv_meetNext ∈ TBL := zz_in (List.mem_of_getElem? (i := 277) (by decide +kernel)) rfl
theorem wd_se_Rv_secondTold : Cond.selects "StatePuzzles$River" ⟨"StatePuzzles$Puzzle", "secondTold", "(II)I"⟩ y_Rv_secondTold ∈ TBL := zz_in (List.mem_of_getElem? (i := 323) (by decide +kernel)) rfl
theorem wd_se_Rv_setBoat : Cond.selects "StatePuzzles$River" y_Rv_setBoat y_Rv_setBoat ∈ TBL := zz_in (List.mem_of_getElem? (i := 370) (by decide +kernel)) rfl
theorem wd_se_Rv_startState : Cond.selects "StatePuzzles$River" ⟨"StatePuzzles$Puzzle", "startState", "()I"⟩ y_Rv_startState ∈ TBL := zz_in (List.mem_of_getElem? (i := 236) (by decide +kernel)) rfl
theorem wd_se_Rv_stateCount : Cond.selects "StatePuzzles$River" ⟨"StatePuzzles$Puzzle", "stateCount", "()I"⟩ y_Rv_stateCount ∈ TBL := zz_in (List.mem_of_getElem? (i := 218) (by decide +kernel)) rfl
theorem wd_se_Rv_thingOf : Cond.selects "StatePuzzles$River" y_Rv_thingOf y_Rv_thingOf ∈ TBL := zz_in (List.mem_of_getElem? (i := 374) (by decide +kernel)) rfl
theorem wd_se_Se_before : Cond.selects "StatePuzzles$Search" y_Se_before y_Se_before ∈ TBL := zz_in (List.mem_of_getElem? (i := 297) (by decide +kernel)) rfl
theorem wd_se_Se_endOf : Cond.selects "StatePuzzles$Search" y_Se_endOf y_Se_endOf ∈ TBL := zz_in (List.mem_of_getElem? (i := 210) (by decide +kernel)) rfl
theorem wd_se_Se_makeRoom : Cond.selects "StatePuzzles$Search" y_Se_makeRoom y_Se_makeRoom ∈ TBL := zz_in (List.mem_of_getElem? (i := 1) (by decide +kernel)) rfl
theorem wd_se_Se_meet : Cond.selects "StatePuzzles$Search" y_Se_meet y_Se_meet ∈ TBL := zz_in (List.mem_of_getElem? (i := 241) (by decide +kernel)) rfl
theorem wd_se_Se_stepInto : Cond.selects "StatePuzzles$Search" y_Se_stepInto y_Se_stepInto ∈ TBL := zz_in (List.mem_of_getElem? (i := 306) (by decide +kernel)) rfl
theorem wd_se_Se_stepsTo : Cond.selects "StatePuzzles$Search" y_Se_stepsTo y_Se_stepsTo ∈ TBL := zz_in (List.mem_of_getElem? (i := 293) (by decide +kernel)) rfl
theorem wd_se_Sp_crossing : Cond.selects "StatePuzzles" y_Sp_crossing y_Sp_crossing ∈ TBL := zz_in (List.mem_of_getElem? (i := 345) (by decide +kernel)) rfl
theorem wd_se_Sp_find : Cond.selects "StatePuzzles" y_Sp_find y_Sp_find ∈ TBL := zz_in (List.mem_of_getElem? (i := 0) (by decide +kernel)) rfl
theorem wd_se_Sp_goal : Cond.selects "StatePuzzles" y_Sp_goal y_Sp_goal ∈ TBL := zz_in (List.mem_of_getElem? (i := 194) (by decide +kernel)) rfl
theorem wd_se_Sp_jug : Cond.selects "StatePuzzles" y_Sp_jug y_Sp_jug ∈ TBL := zz_in (List.mem_of_getElem? (i := 182) (by decide +kernel)) rfl
theorem wd_se_Sp_jugs : Cond.selects "StatePuzzles" y_Sp_jugs y_Sp_jugs ∈ TBL := zz_in (List.mem_of_getElem? (i := 202) (by decide +kernel)) rfl
theorem wd_se_Sp_ring : Cond.selects "StatePuzzles" y_Sp_ring y_Sp_ring ∈ TBL := zz_in (List.mem_of_getElem? (i := 449) (by decide +kernel)) rfl
theorem wd_se_Sp_rings : Cond.selects "StatePuzzles" y_Sp_rings y_Sp_rings ∈ TBL := zz_in (List.mem_of_getElem? (i := 440) (by decide +kernel)) rfl
theorem wd_se_Sp_step : Cond.selects "StatePuzzles" y_Sp_step y_Sp_step ∈ TBL := zz_in (List.mem_of_getElem? (i := 386) (by decide +kernel)) rfl
theorem wd_se_Sp_tower : Cond.selects "StatePuzzles" y_Sp_tower y_Sp_tower ∈ TBL := zz_in (List.mem_of_getElem? (i := 408) (by decide +kernel)) rfl
theorem wd_se_Sp_towerMove : Cond.selects "StatePuzzles" y_Sp_towerMove y_Sp_towerMove ∈ TBL := zz_in (List.mem_of_getElem? (i := 421) (by decide +kernel)) rfl
theorem wd_se_Sp_unit : Cond.selects "StatePuzzles" y_Sp_unit y_Sp_unit ∈ TBL := zz_in (List.mem_of_getElem? (i := 337) (by decide +kernel)) rfl
theorem wd_se_Sp_weigh : Cond.selects "StatePuzzles" y_Sp_weigh y_Sp_weigh ∈ TBL := zz_in (List.mem_of_getElem? (i := 398) (by decide +kernel)) rfl
theorem wd_se_Tw_moves : Cond.selects "StatePuzzles$Tower" y_Tw_moves y_Tw_moves ∈ TBL := zz_in (List.mem_of_getElem? (i := 416) (by decide +kernel)) rfl
theorem wd_se_Tw_set : Cond.selects "StatePuzzles$Tower" y_Tw_set y_Tw_set ∈ TBL := zz_in (List.mem_of_getElem? (i := 412) (by decide +kernel)) rfl
theorem wd_se_Tw_tellMove : Cond.selects "StatePuzzles$Tower" y_Tw_tellMove y_Tw_tellMove ∈ TBL := zz_in (List.mem_of_getElem? (i := 425) (by decide +kernel)) rfl
theorem wd_se_Tw_tellOfFour : Cond.selects "StatePuzzles$Tower" y_Tw_tellOfFour y_Tw_tellOfFour ∈ TBL := zz_in (List.mem_of_getElem? (i := 9) (by decide +kernel)) rfl
theorem wd_sm_firstTold : Cond.sameMethod "StatePuzzles$Puzzle" "StatePuzzles$Puzzle" "firstTold" "(I)I" ∈ TBL := zz_in (List.mem_of_getElem? (i := 310) (by decide +kernel)) rfl
theorem wd_sm_isDone : Cond.sameMethod "StatePuzzles$Puzzle" "StatePuzzles$Puzzle" "isDone" "(I)Z" ∈ TBL := zz_in (List.mem_of_getElem? (i := 245) (by decide +kernel)) rfl
theorem wd_sm_meetNext : Cond.sameMethod "StatePuzzles$Puzzle" "StatePuzzles$Puzzle" "meetNext" "(ILStatePuzzles$Search;)V" ∈ TBL := zz_in (List.mem_of_getElem? (i := 262) (by decide +kernel)) rfl
theorem wd_sm_secondTold : Cond.sameMethod "StatePuzzles$Puzzle" "StatePuzzles$Puzzle" "secondTold" "(II)I" ∈ TBL := zz_in (List.mem_of_getElem? (i := 319) (by decide +kernel)) rfl
theorem wd_sm_startState : Cond.sameMethod "StatePuzzles$Puzzle" "StatePuzzles$Puzzle" "startState" "()I" ∈ TBL := zz_in (List.mem_of_getElem? (i := 230) (by decide +kernel)) rfl
theorem wd_sm_stateCount : Cond.sameMethod "StatePuzzles$Puzzle" "StatePuzzles$Puzzle" "stateCount" "()I" ∈ TBL := zz_in (List.mem_of_getElem? (i := 214) (by decide +kernel)) rfl
theorem wd_st_Ar_fill : Cond.static y_Ar_fill ∈ TBL := zz_in (List.mem_of_getElem? (i := 226) (by decide +kernel)) rfl
theorem wd_st_Ig_bitCount : Cond.static y_Ig_bitCount ∈ TBL := zz_in (List.mem_of_getElem? (i := 281) (by decide +kernel)) rfl
theorem wd_st_Js_codeOf : Cond.static y_Js_codeOf ∈ TBL := zz_in (List.mem_of_getElem? (i := 271) (by decide +kernel)) rfl
theorem wd_st_Mo_full : Cond.static y_Mo_full ∈ TBL := zz_in (List.mem_of_getElem? (i := 653) (by decide +kernel)) rfl
theorem wd_st_Mo_spare : Cond.static y_Mo_spare ∈ TBL := zz_in (List.mem_of_getElem? (i := 646) (by decide +kernel)) rfl
theorem wd_st_Mo_three : Cond.static y_Mo_three ∈ TBL := zz_in (List.mem_of_getElem? (i := 460) (by decide +kernel)) rfl
theorem wd_st_Sp_ringSteps : Cond.static y_Sp_ringSteps ∈ TBL := zz_in (List.mem_of_getElem? (i := 443) (by decide +kernel)) rfl
theorem wd_st_Sp_triesForHeavier : Cond.static y_Sp_triesForHeavier ∈ TBL := zz_in (List.mem_of_getElem? (i := 401) (by decide +kernel)) rfl
theorem wd_st_Sp_triesForOdd : Cond.static y_Sp_triesForOdd ∈ TBL := zz_in (List.mem_of_getElem? (i := 404) (by decide +kernel)) rfl
theorem wd_st_Tw_lesserFreePeg : Cond.static y_Tw_lesserFreePeg ∈ TBL := zz_in (List.mem_of_getElem? (i := 436) (by decide +kernel)) rfl
theorem wd_st_Tw_tellOfThree : Cond.static y_Tw_tellOfThree ∈ TBL := zz_in (List.mem_of_getElem? (i := 429) (by decide +kernel)) rfl
theorem wd_st_Tw_threePegMoves : Cond.static y_Tw_threePegMoves ∈ TBL := zz_in (List.mem_of_getElem? (i := 145) (by decide +kernel)) rfl
theorem wd_st_min : Cond.static Lib.Math.min.name ∈ TBL := zz_in (by decide +kernel) rfl
theorem wk_Ig_265 : Cond.constant "java/lang/Integer" 265 1431655765 ∈ TBL := zz_in (List.mem_of_getElem? (i := 283) (by decide +kernel)) rfl
theorem wk_Ig_266 : Cond.constant "java/lang/Integer" 266 858993459 ∈ TBL := zz_in (List.mem_of_getElem? (i := 284) (by decide +kernel)) rfl
theorem wk_Ig_267 : Cond.constant "java/lang/Integer" 267 252645135 ∈ TBL := zz_in (List.mem_of_getElem? (i := 285) (by decide +kernel)) rfl
theorem wk_La_51 : Cond.constantLong "StatePuzzlesLaw" 51 4294967295 ∈ TBL := zz_in (List.mem_of_getElem? (i := 659) (by decide +kernel)) rfl
theorem wk_Mo_135 : Cond.constantLong "StatePuzzlesModel" 135 (-1) ∈ TBL := zz_in (List.mem_of_getElem? (i := 628) (by decide +kernel)) rfl
theorem wk_Mo_64 : Cond.constantLong "StatePuzzlesModel" 64 9223372036854775807 ∈ TBL := zz_in (List.mem_of_getElem? (i := 457) (by decide +kernel)) rfl
theorem wk_Mo_66 : Cond.constantLong "StatePuzzlesModel" 66 2 ∈ TBL := zz_in (List.mem_of_getElem? (i := 458) (by decide +kernel)) rfl
theorem wk_Sp_132 : Cond.constantLong "StatePuzzles" 132 2 ∈ TBL := zz_in (List.mem_of_getElem? (i := 445) (by decide +kernel)) rfl
theorem wk_Sp_134 : Cond.constantLong "StatePuzzles" 134 3 ∈ TBL := zz_in (List.mem_of_getElem? (i := 446) (by decide +kernel)) rfl
theorem wk_Sp_94 : Cond.constantLong "StatePuzzles" 94 (-1) ∈ TBL := zz_in (List.mem_of_getElem? (i := 418) (by decide +kernel)) rfl
theorem wk_Tw_25 : Cond.constantLong "StatePuzzles$Tower" 25 9223372036854775807 ∈ TBL := zz_in (List.mem_of_getElem? (i := 142) (by decide +kernel)) rfl
theorem wk_Tw_27 : Cond.constantLong "StatePuzzles$Tower" 27 2 ∈ TBL := zz_in (List.mem_of_getElem? (i := 143) (by decide +kernel)) rfl
