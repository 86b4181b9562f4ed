/-! which words of the tables are used, by their places; the fields of each class; the objects' places -/
theorem tb_list (ws : List Cond) (ps : List Nat) (hp : ws = ps.filterMap (fun i => lw_tbl[i]?)) (h : ws.all goodWord = true) : ∀ w ∈ ws, w ∈ TB := by
  intro w hw
  have h1 := List.all_eq_true.mp h w hw
  rw [hp] at hw
  obtain ⟨i, -, hi⟩ := List.mem_filterMap.mp hw
  exact tb_of hi h1
theorem in_X0 : ∀ w ∈ u_ws RX0 TX0 8, w ∈ TB := tb_list _ [115, 117, 119, 121, 123, 125, 127, 129] (by decide +kernel) (by decide +kernel)
theorem in_X1 : ∀ w ∈ u_ws RX1 TX1 3, w ∈ TB := tb_list _ [145, 147, 149] (by decide +kernel) (by decide +kernel)
theorem in_X2 : ∀ w ∈ u_ws RX2 TX2 2, w ∈ TB := tb_list _ [222, 224] (by decide +kernel) (by decide +kernel)
theorem in_X3 : ∀ w ∈ u_ws RX3 TX3 8, w ∈ TB := tb_list _ [197, 199, 201, 203, 205, 207, 209, 211] (by decide +kernel) (by decide +kernel)
theorem in_X4 : ∀ w ∈ u_ws RX4 TX4 8, w ∈ TB := tb_list _ [166, 168, 170, 172, 174, 176, 178, 180] (by decide +kernel) (by decide +kernel)
theorem in_X5 : ∀ w ∈ u_ws RX5 TX5 11, w ∈ TB := tb_list _ [238, 240, 242, 244, 246, 248, 250, 252, 254, 256, 258] (by decide +kernel) (by decide +kernel)
theorem in_X6 : ∀ w ∈ u_ws RX6 TX6 15, w ∈ TB := tb_list _ [768, 770, 772, 774, 776, 778, 780, 782, 784, 786, 788, 790, 792, 794, 796] (by decide +kernel) (by decide +kernel)
theorem fl_X0_runs : Cond.fieldLink RX0 9 RX0 "runs" "[I" ∈ TB := tb_of (i := 107) (by decide +kernel) rfl
theorem fl_X0_longs : Cond.fieldLink RX0 15 RX0 "longs" "[I" ∈ TB := tb_of (i := 108) (by decide +kernel) rfl
theorem fl_X0_turns : Cond.fieldLink RX0 18 RX0 "turns" "[I" ∈ TB := tb_of (i := 109) (by decide +kernel) rfl
theorem fl_X0_wides : Cond.fieldLink RX0 21 RX0 "wides" "[I" ∈ TB := tb_of (i := 110) (by decide +kernel) rfl
theorem fl_X0_touching : Cond.fieldLink RX0 24 RX0 "touching" "[I" ∈ TB := tb_of (i := 111) (by decide +kernel) rfl
theorem fl_X0_chosen : Cond.fieldLink RX0 27 RX0 "chosen" "[I" ∈ TB := tb_of (i := 112) (by decide +kernel) rfl
theorem fl_X0_lines : Cond.fieldLink RX0 30 RX0 "lines" "I" ∈ TB := tb_of (i := 113) (by decide +kernel) rfl
theorem fl_X0_pockets : Cond.fieldLink RX0 34 RX0 "pockets" "I" ∈ TB := tb_of (i := 114) (by decide +kernel) rfl
theorem fl_X1_kept : Cond.fieldLink RX1 11 RX1 "kept" "[LSnakedBus$Bus;" ∈ TB := tb_of (i := 142) (by decide +kernel) rfl
theorem fl_X1_place : Cond.fieldLink RX1 17 RX1 "place" "I" ∈ TB := tb_of (i := 143) (by decide +kernel) rfl
theorem fl_X1_held : Cond.fieldLink RX1 21 RX1 "held" "I" ∈ TB := tb_of (i := 144) (by decide +kernel) rfl
theorem fl_X4_bytes : Cond.fieldLink RX4 9 RX4 "bytes" "[I" ∈ TB := tb_of (i := 158) (by decide +kernel) rfl
theorem fl_X4_letters : Cond.fieldLink RX4 15 RX4 "letters" "[I" ∈ TB := tb_of (i := 159) (by decide +kernel) rfl
theorem fl_X4_numbers : Cond.fieldLink RX4 18 RX4 "numbers" "[I" ∈ TB := tb_of (i := 160) (by decide +kernel) rfl
theorem fl_X4_many : Cond.fieldLink RX4 21 RX4 "many" "I" ∈ TB := tb_of (i := 161) (by decide +kernel) rfl
theorem fl_X4_orders : Cond.fieldLink RX4 25 RX4 "orders" "I" ∈ TB := tb_of (i := 162) (by decide +kernel) rfl
theorem fl_X4_letter : Cond.fieldLink RX4 28 RX4 "letter" "I" ∈ TB := tb_of (i := 163) (by decide +kernel) rfl
theorem fl_X4_begun : Cond.fieldLink RX4 31 RX4 "begun" "I" ∈ TB := tb_of (i := 164) (by decide +kernel) rfl
theorem fl_X4_figures : Cond.fieldLink RX4 34 RX4 "figures" "I" ∈ TB := tb_of (i := 165) (by decide +kernel) rfl
theorem fl_X3_needs : Cond.fieldLink RX3 9 RX3 "needs" "[I" ∈ TB := tb_of (i := 189) (by decide +kernel) rfl
theorem fl_X3_reach : Cond.fieldLink RX3 15 RX3 "reach" "[I" ∈ TB := tb_of (i := 190) (by decide +kernel) rfl
theorem fl_X3_rooms : Cond.fieldLink RX3 18 RX3 "rooms" "[I" ∈ TB := tb_of (i := 191) (by decide +kernel) rfl
theorem fl_X3_drawn : Cond.fieldLink RX3 21 RX3 "drawn" "[I" ∈ TB := tb_of (i := 192) (by decide +kernel) rfl
theorem fl_X3_lines : Cond.fieldLink RX3 24 RX3 "lines" "I" ∈ TB := tb_of (i := 193) (by decide +kernel) rfl
theorem fl_X3_pockets : Cond.fieldLink RX3 28 RX3 "pockets" "I" ∈ TB := tb_of (i := 194) (by decide +kernel) rfl
theorem fl_X3_tooLong : Cond.fieldLink RX3 31 RX3 "tooLong" "I" ∈ TB := tb_of (i := 195) (by decide +kernel) rfl
theorem fl_X3_inTheWay : Cond.fieldLink RX3 34 RX3 "inTheWay" "I" ∈ TB := tb_of (i := 196) (by decide +kernel) rfl
theorem fl_X2_fewest : Cond.fieldLink RX2 11 RX2 "fewest" "[I" ∈ TB := tb_of (i := 220) (by decide +kernel) rfl
theorem fl_X2_next : Cond.fieldLink RX2 15 RX2 "next" "[I" ∈ TB := tb_of (i := 221) (by decide +kernel) rfl
theorem fl_X5_bus : Cond.fieldLink RX5 10 RX5 "bus" "LSnakedBus$Bus;" ∈ TB := tb_of (i := 227) (by decide +kernel) rfl
theorem fl_X5_trial : Cond.fieldLink RX5 16 RX5 "trial" "LSnakedBus$Bus;" ∈ TB := tb_of (i := 228) (by decide +kernel) rfl
theorem fl_X5_past : Cond.fieldLink RX5 22 RX5 "past" "LSnakedBus$Past;" ∈ TB := tb_of (i := 229) (by decide +kernel) rfl
theorem fl_X5_text : Cond.fieldLink RX5 29 RX5 "text" "LSnakedBus$Text;" ∈ TB := tb_of (i := 230) (by decide +kernel) rfl
theorem fl_X5_byTarget : Cond.fieldLink RX5 36 RX5 "byTarget" "LSnakedBus$Sharing;" ∈ TB := tb_of (i := 231) (by decide +kernel) rfl
theorem fl_X5_tried : Cond.fieldLink RX5 40 RX5 "tried" "LSnakedBus$Sharing;" ∈ TB := tb_of (i := 232) (by decide +kernel) rfl
theorem fl_X5_phasing : Cond.fieldLink RX5 46 RX5 "phasing" "LSnakedBus$Phasing;" ∈ TB := tb_of (i := 233) (by decide +kernel) rfl
theorem fl_X5_planned : Cond.fieldLink RX5 50 RX5 "planned" "Z" ∈ TB := tb_of (i := 234) (by decide +kernel) rfl
theorem fl_X5_bads : Cond.fieldLink RX5 54 RX5 "bads" "I" ∈ TB := tb_of (i := 235) (by decide +kernel) rfl
theorem fl_X5_noes : Cond.fieldLink RX5 58 RX5 "noes" "I" ∈ TB := tb_of (i := 236) (by decide +kernel) rfl
theorem fl_X5_fulls : Cond.fieldLink RX5 61 RX5 "fulls" "I" ∈ TB := tb_of (i := 237) (by decide +kernel) rfl
theorem fl_X6_refused : Cond.fieldLink RX6 7 RX6 "refused" "[I" ∈ TB := tb_of (i := 753) (by decide +kernel) rfl
theorem fl_X6_now : Cond.fieldLink RX6 13 RX6 "now" "[I" ∈ TB := tb_of (i := 754) (by decide +kernel) rfl
theorem fl_X6_kept : Cond.fieldLink RX6 16 RX6 "kept" "[I" ∈ TB := tb_of (i := 755) (by decide +kernel) rfl
theorem fl_X6_states : Cond.fieldLink RX6 53 RX6 "states" "I" ∈ TB := tb_of (i := 756) (by decide +kernel) rfl
theorem fl_X6_need : Cond.fieldLink RX6 19 RX6 "need" "[I" ∈ TB := tb_of (i := 757) (by decide +kernel) rfl
theorem fl_X6_room : Cond.fieldLink RX6 22 RX6 "room" "[I" ∈ TB := tb_of (i := 758) (by decide +kernel) rfl
theorem fl_X6_may : Cond.fieldLink RX6 25 RX6 "may" "[I" ∈ TB := tb_of (i := 759) (by decide +kernel) rfl
theorem fl_X6_drawn : Cond.fieldLink RX6 28 RX6 "drawn" "[I" ∈ TB := tb_of (i := 760) (by decide +kernel) rfl
theorem fl_X6_fewest : Cond.fieldLink RX6 31 RX6 "fewest" "[I" ∈ TB := tb_of (i := 761) (by decide +kernel) rfl
theorem fl_X6_then : Cond.fieldLink RX6 34 RX6 "then" "[I" ∈ TB := tb_of (i := 762) (by decide +kernel) rfl
theorem fl_X6_text : Cond.fieldLink RX6 37 RX6 "text" "[I" ∈ TB := tb_of (i := 763) (by decide +kernel) rfl
theorem fl_X6_typed : Cond.fieldLink RX6 197 RX6 "typed" "I" ∈ TB := tb_of (i := 764) (by decide +kernel) rfl
theorem fl_X6_orders : Cond.fieldLink RX6 40 RX6 "orders" "[I" ∈ TB := tb_of (i := 765) (by decide +kernel) rfl
theorem fl_X6_written : Cond.fieldLink RX6 215 RX6 "written" "I" ∈ TB := tb_of (i := 766) (by decide +kernel) rfl
theorem fl_X6_look : Cond.fieldLink RX6 203 RX6 "look" "I" ∈ TB := tb_of (i := 767) (by decide +kernel) rfl
theorem ml_X5_1 : Cond.methodLink RX5 1 objectInit ∈ TB := tb_of (i := 87) (by decide +kernel) rfl
theorem ml_X5_9 : Cond.methodLink RX5 9 yX0_init ∈ TB := tb_of (i := 92) (by decide +kernel) rfl
theorem ml_X0_3 : Cond.methodLink RX0 3 objectInit ∈ TB := tb_of (i := 95) (by decide +kernel) rfl
theorem ml_X5_291 : Cond.methodLink RX5 291 Lib.Math.min.name ∈ TB := tb_of (i := 101) (by decide +kernel) rfl
theorem ml_X5_296 : Cond.methodLink RX5 296 arraycopyName ∈ TB := tb_of (i := 104) (by decide +kernel) rfl
theorem ml_X5_21 : Cond.methodLink RX5 21 yX1_init ∈ TB := tb_of (i := 135) (by decide +kernel) rfl
theorem ml_X1_3 : Cond.methodLink RX1 3 objectInit ∈ TB := tb_of (i := 138) (by decide +kernel) rfl
theorem ml_X1_24 : Cond.methodLink RX1 24 yX0_init ∈ TB := tb_of (i := 141) (by decide +kernel) rfl
theorem ml_X5_28 : Cond.methodLink RX5 28 yX4_init ∈ TB := tb_of (i := 154) (by decide +kernel) rfl
theorem ml_X4_3 : Cond.methodLink RX4 3 objectInit ∈ TB := tb_of (i := 157) (by decide +kernel) rfl
theorem ml_X5_35 : Cond.methodLink RX5 35 yX3_init ∈ TB := tb_of (i := 185) (by decide +kernel) rfl
theorem ml_X3_3 : Cond.methodLink RX3 3 objectInit ∈ TB := tb_of (i := 188) (by decide +kernel) rfl
theorem ml_X5_45 : Cond.methodLink RX5 45 yX2_init ∈ TB := tb_of (i := 216) (by decide +kernel) rfl
theorem ml_X2_3 : Cond.methodLink RX2 3 objectInit ∈ TB := tb_of (i := 219) (by decide +kernel) rfl
theorem ml_X5_64 : Cond.methodLink RX5 64 yX5_draft ∈ TB := tb_of (i := 265) (by decide +kernel) rfl
theorem ml_X5_274 : Cond.methodLink RX5 274 yX0_takeFrom ∈ TB := tb_of (i := 269) (by decide +kernel) rfl
theorem ml_X5_68 : Cond.methodLink RX5 68 yX0_addLine ∈ TB := tb_of (i := 273) (by decide +kernel) rfl
theorem ml_X5_72 : Cond.methodLink RX5 72 yX5_settled ∈ TB := tb_of (i := 286) (by decide +kernel) rfl
theorem ml_X5_99 : Cond.methodLink RX5 99 yX5_refused ∈ TB := tb_of (i := 290) (by decide +kernel) rfl
theorem ml_X5_221 : Cond.methodLink RX5 221 yX5_accept ∈ TB := tb_of (i := 294) (by decide +kernel) rfl
theorem ml_X5_278 : Cond.methodLink RX5 278 yX1_keep ∈ TB := tb_of (i := 298) (by decide +kernel) rfl
theorem ml_X1_25 : Cond.methodLink RX1 25 yX1_slotAt ∈ TB := tb_of (i := 302) (by decide +kernel) rfl
theorem ml_X1_29 : Cond.methodLink RX1 29 yX0_takeFrom ∈ TB := tb_of (i := 306) (by decide +kernel) rfl
theorem ml_X1_33 : Cond.methodLink RX1 33 Lib.Math.min.name ∈ TB := tb_of (i := 307) (by decide +kernel) rfl
theorem ml_X5_75 : Cond.methodLink RX5 75 yX0_addRun ∈ TB := tb_of (i := 312) (by decide +kernel) rfl
theorem ml_X0_56 : Cond.methodLink RX0 56 yX0_hasLine ∈ TB := tb_of (i := 316) (by decide +kernel) rfl
theorem ml_X0_60 : Cond.methodLink RX0 60 yX0_runsOf ∈ TB := tb_of (i := 320) (by decide +kernel) rfl
theorem ml_X5_79 : Cond.methodLink RX5 79 yX0_dropRun ∈ TB := tb_of (i := 331) (by decide +kernel) rfl
theorem ml_X5_82 : Cond.methodLink RX5 82 yX0_addPocket ∈ TB := tb_of (i := 339) (by decide +kernel) rfl
theorem ml_X5_86 : Cond.methodLink RX5 86 yX0_changeWide ∈ TB := tb_of (i := 347) (by decide +kernel) rfl
theorem ml_X0_64 : Cond.methodLink RX0 64 yX0_hasPocket ∈ TB := tb_of (i := 351) (by decide +kernel) rfl
theorem ml_X0_67 : Cond.methodLink RX0 67 yX0_wideOf ∈ TB := tb_of (i := 355) (by decide +kernel) rfl
theorem ml_X5_89 : Cond.methodLink RX5 89 yX0_changeTouch ∈ TB := tb_of (i := 363) (by decide +kernel) rfl
theorem ml_X5_92 : Cond.methodLink RX5 92 yX0_changeSetting ∈ TB := tb_of (i := 371) (by decide +kernel) rfl
theorem ml_X5_95 : Cond.methodLink RX5 95 yX0_hasLine ∈ TB := tb_of (i := 383) (by decide +kernel) rfl
theorem ml_X5_102 : Cond.methodLink RX5 102 yX0_runsOf ∈ TB := tb_of (i := 384) (by decide +kernel) rfl
theorem ml_X5_105 : Cond.methodLink RX5 105 yX0_baseOf ∈ TB := tb_of (i := 385) (by decide +kernel) rfl
theorem ml_X0_80 : Cond.methodLink RX0 80 yX0_longOf ∈ TB := tb_of (i := 389) (by decide +kernel) rfl
theorem ml_X0_87 : Cond.methodLink RX0 87 Lib.Math.max.name ∈ TB := tb_of (i := 393) (by decide +kernel) rfl
theorem ml_X5_108 : Cond.methodLink RX5 108 yX0_settingAt ∈ TB := tb_of (i := 396) (by decide +kernel) rfl
theorem ml_X5_111 : Cond.methodLink RX5 111 yX0_lackFor ∈ TB := tb_of (i := 400) (by decide +kernel) rfl
theorem ml_X5_114 : Cond.methodLink RX5 114 yX0_needFor ∈ TB := tb_of (i := 404) (by decide +kernel) rfl
theorem ml_X0_95 : Cond.methodLink RX0 95 yX0_lackFor ∈ TB := tb_of (i := 408) (by decide +kernel) rfl
theorem ml_X0_98 : Cond.methodLink RX0 98 yX0_gain ∈ TB := tb_of (i := 409) (by decide +kernel) rfl
theorem ml_X5_117 : Cond.methodLink RX5 117 yX0_reachOf ∈ TB := tb_of (i := 413) (by decide +kernel) rfl
theorem ml_X5_120 : Cond.methodLink RX5 120 yX0_turnsOf ∈ TB := tb_of (i := 420) (by decide +kernel) rfl
theorem ml_X0_84 : Cond.methodLink RX0 84 yX0_turnAhead ∈ TB := tb_of (i := 424) (by decide +kernel) rfl
theorem ml_X5_123 : Cond.methodLink RX5 123 yX0_hasRun ∈ TB := tb_of (i := 432) (by decide +kernel) rfl
theorem ml_X5_127 : Cond.methodLink RX5 127 yX0_longOf ∈ TB := tb_of (i := 436) (by decide +kernel) rfl
theorem ml_X5_130 : Cond.methodLink RX5 130 yX0_turnAhead ∈ TB := tb_of (i := 437) (by decide +kernel) rfl
theorem ml_X5_133 : Cond.methodLink RX5 133 yX0_bumpRoom ∈ TB := tb_of (i := 438) (by decide +kernel) rfl
theorem ml_X5_136 : Cond.methodLink RX5 136 yX0_hasPocket ∈ TB := tb_of (i := 446) (by decide +kernel) rfl
theorem ml_X5_139 : Cond.methodLink RX5 139 yX0_wideOf ∈ TB := tb_of (i := 447) (by decide +kernel) rfl
theorem ml_X5_142 : Cond.methodLink RX5 142 yX0_presentAt ∈ TB := tb_of (i := 448) (by decide +kernel) rfl
theorem ml_X5_145 : Cond.methodLink RX5 145 yX0_humpsOf ∈ TB := tb_of (i := 452) (by decide +kernel) rfl
theorem ml_X5_148 : Cond.methodLink RX5 148 yX5_plan ∈ TB := tb_of (i := 456) (by decide +kernel) rfl
theorem ml_X5_191 : Cond.methodLink RX5 191 yX3_look ∈ TB := tb_of (i := 460) (by decide +kernel) rfl
theorem ml_X3_37 : Cond.methodLink RX3 37 yX0_lineCount ∈ TB := tb_of (i := 464) (by decide +kernel) rfl
theorem ml_X3_43 : Cond.methodLink RX3 43 yX0_pocketCount ∈ TB := tb_of (i := 468) (by decide +kernel) rfl
theorem ml_X3_46 : Cond.methodLink RX3 46 yX0_baseOf ∈ TB := tb_of (i := 472) (by decide +kernel) rfl
theorem ml_X3_50 : Cond.methodLink RX3 50 yX0_needFor ∈ TB := tb_of (i := 473) (by decide +kernel) rfl
theorem ml_X3_58 : Cond.methodLink RX3 58 yX0_reachOf ∈ TB := tb_of (i := 475) (by decide +kernel) rfl
theorem ml_X3_61 : Cond.methodLink RX3 61 yX0_humpsOf ∈ TB := tb_of (i := 476) (by decide +kernel) rfl
theorem ml_X3_64 : Cond.methodLink RX3 64 yX3_joinSets ∈ TB := tb_of (i := 477) (by decide +kernel) rfl
theorem ml_X5_284 : Cond.methodLink RX5 284 yX3_findBlocked ∈ TB := tb_of (i := 482) (by decide +kernel) rfl
theorem ml_X3_71 : Cond.methodLink RX3 71 yX3_crowd ∈ TB := tb_of (i := 486) (by decide +kernel) rfl
theorem ml_X3_94 : Cond.methodLink RX3 94 yJ6_bitCount_0f7a4 ∈ TB := tb_of (i := 490) (by decide +kernel) rfl
theorem co_J6_265 : Cond.constant RJ6 265 (1431655765) ∈ TB := tb_of (i := 493) (by decide +kernel) rfl
theorem co_J6_266 : Cond.constant RJ6 266 (858993459) ∈ TB := tb_of (i := 494) (by decide +kernel) rfl
theorem co_J6_267 : Cond.constant RJ6 267 (252645135) ∈ TB := tb_of (i := 495) (by decide +kernel) rfl
theorem ml_X3_99 : Cond.methodLink RX3 99 yX3_spare ∈ TB := tb_of (i := 496) (by decide +kernel) rfl
theorem ml_X5_163 : Cond.methodLink RX5 163 yX0_lineCount ∈ TB := tb_of (i := 501) (by decide +kernel) rfl
theorem ml_X5_152 : Cond.methodLink RX5 152 yX3_allFit ∈ TB := tb_of (i := 502) (by decide +kernel) rfl
theorem ml_X5_287 : Cond.methodLink RX5 287 yX3_drawLine ∈ TB := tb_of (i := 506) (by decide +kernel) rfl
theorem ml_X3_82 : Cond.methodLink RX3 82 yX3_mostFor ∈ TB := tb_of (i := 510) (by decide +kernel) rfl
theorem ml_X3_85 : Cond.methodLink RX3 85 Lib.Math.min.name ∈ TB := tb_of (i := 514) (by decide +kernel) rfl
theorem ml_X5_156 : Cond.methodLink RX5 156 yX3_freeOf ∈ TB := tb_of (i := 516) (by decide +kernel) rfl
theorem ml_X5_159 : Cond.methodLink RX5 159 yX5_within ∈ TB := tb_of (i := 524) (by decide +kernel) rfl
theorem ml_X5_167 : Cond.methodLink RX5 167 yX0_pocketCount ∈ TB := tb_of (i := 529) (by decide +kernel) rfl
theorem ml_X5_170 : Cond.methodLink RX5 170 yX0_gain ∈ TB := tb_of (i := 530) (by decide +kernel) rfl
theorem ml_X5_173 : Cond.methodLink RX5 173 yX0_longestBase ∈ TB := tb_of (i := 531) (by decide +kernel) rfl
theorem ml_X0_92 : Cond.methodLink RX0 92 yX0_baseOf ∈ TB := tb_of (i := 535) (by decide +kernel) rfl
theorem ml_X5_176 : Cond.methodLink RX5 176 yX0_allHumps ∈ TB := tb_of (i := 536) (by decide +kernel) rfl
theorem ml_X0_109 : Cond.methodLink RX0 109 yX0_humpsOf ∈ TB := tb_of (i := 540) (by decide +kernel) rfl
theorem ml_X5_179 : Cond.methodLink RX5 179 yX0_allNeeds ∈ TB := tb_of (i := 541) (by decide +kernel) rfl
theorem ml_X0_102 : Cond.methodLink RX0 102 yX0_needFor ∈ TB := tb_of (i := 545) (by decide +kernel) rfl
theorem ml_X5_182 : Cond.methodLink RX5 182 yX3_drawnBy ∈ TB := tb_of (i := 550) (by decide +kernel) rfl
theorem ml_X5_185 : Cond.methodLink RX5 185 yX3_blockedLines ∈ TB := tb_of (i := 562) (by decide +kernel) rfl
theorem ml_X5_188 : Cond.methodLink RX5 188 yX5_fitsBy ∈ TB := tb_of (i := 570) (by decide +kernel) rfl
theorem ml_X5_281 : Cond.methodLink RX5 281 yX3_fits ∈ TB := tb_of (i := 574) (by decide +kernel) rfl
theorem ml_X5_195 : Cond.methodLink RX5 195 yX3_fitsWithOneMore ∈ TB := tb_of (i := 590) (by decide +kernel) rfl
theorem ml_X3_74 : Cond.methodLink RX3 74 yX3_fits ∈ TB := tb_of (i := 594) (by decide +kernel) rfl
theorem ml_X5_198 : Cond.methodLink RX5 198 yX2_fewestFor ∈ TB := tb_of (i := 599) (by decide +kernel) rfl
theorem co_X2_18 : Cond.constant RX2 18 (1000000) ∈ TB := tb_of (i := 603) (by decide +kernel) rfl
theorem ml_X2_19 : Cond.methodLink RX2 19 yJ7_fill_53178 ∈ TB := tb_of (i := 604) (by decide +kernel) rfl
theorem ml_X2_29 : Cond.methodLink RX2 29 yX0_runsOf ∈ TB := tb_of (i := 608) (by decide +kernel) rfl
theorem ml_X2_35 : Cond.methodLink RX2 35 yX0_turnAhead ∈ TB := tb_of (i := 609) (by decide +kernel) rfl
theorem ml_X2_39 : Cond.methodLink RX2 39 yX2_turnStep ∈ TB := tb_of (i := 610) (by decide +kernel) rfl
theorem ml_X2_42 : Cond.methodLink RX2 42 yX0_bumpRoom ∈ TB := tb_of (i := 613) (by decide +kernel) rfl
theorem ml_X2_45 : Cond.methodLink RX2 45 yX0_settingAt ∈ TB := tb_of (i := 614) (by decide +kernel) rfl
theorem ml_X2_48 : Cond.methodLink RX2 48 yX2_passRun ∈ TB := tb_of (i := 615) (by decide +kernel) rfl
theorem ml_X2_60 : Cond.methodLink RX2 60 yX2_putBumps ∈ TB := tb_of (i := 620) (by decide +kernel) rfl
theorem ml_X2_64 : Cond.methodLink RX2 64 Lib.Math.abs.name ∈ TB := tb_of (i := 624) (by decide +kernel) rfl
theorem ml_X2_69 : Cond.methodLink RX2 69 Lib.Math.min.name ∈ TB := tb_of (i := 627) (by decide +kernel) rfl
theorem ml_X5_202 : Cond.methodLink RX5 202 yX0_plainSkew ∈ TB := tb_of (i := 633) (by decide +kernel) rfl
theorem ml_X5_205 : Cond.methodLink RX5 205 yX4_append ∈ TB := tb_of (i := 641) (by decide +kernel) rfl
theorem ml_X5_208 : Cond.methodLink RX5 208 yX4_size ∈ TB := tb_of (i := 646) (by decide +kernel) rfl
theorem ml_X5_211 : Cond.methodLink RX5 211 yX4_empty ∈ TB := tb_of (i := 654) (by decide +kernel) rfl
theorem ml_X5_214 : Cond.methodLink RX5 214 yX4_parse ∈ TB := tb_of (i := 662) (by decide +kernel) rfl
theorem ml_X4_45 : Cond.methodLink RX4 45 yX4_takes ∈ TB := tb_of (i := 667) (by decide +kernel) rfl
theorem ml_X4_49 : Cond.methodLink RX4 49 yX4_opens ∈ TB := tb_of (i := 671) (by decide +kernel) rfl
theorem ml_X4_63 : Cond.methodLink RX4 63 yX4_numbersOf ∈ TB := tb_of (i := 675) (by decide +kernel) rfl
theorem ml_X4_52 : Cond.methodLink RX4 52 yX4_closes ∈ TB := tb_of (i := 678) (by decide +kernel) rfl
theorem ml_X4_60 : Cond.methodLink RX4 60 yX4_takesFigure ∈ TB := tb_of (i := 683) (by decide +kernel) rfl
theorem ml_X5_217 : Cond.methodLink RX5 217 yX4_apply ∈ TB := tb_of (i := 688) (by decide +kernel) rfl
theorem ml_X4_71 : Cond.methodLink RX4 71 yX4_applyOne ∈ TB := tb_of (i := 692) (by decide +kernel) rfl
theorem ml_X4_75 : Cond.methodLink RX4 75 yX0_addLine ∈ TB := tb_of (i := 696) (by decide +kernel) rfl
theorem ml_X4_80 : Cond.methodLink RX4 80 yX0_addRun ∈ TB := tb_of (i := 697) (by decide +kernel) rfl
theorem ml_X4_83 : Cond.methodLink RX4 83 yX0_addPocket ∈ TB := tb_of (i := 698) (by decide +kernel) rfl
theorem ml_X4_87 : Cond.methodLink RX4 87 yX0_changeSetting ∈ TB := tb_of (i := 699) (by decide +kernel) rfl
theorem ml_X4_90 : Cond.methodLink RX4 90 yX0_changeWide ∈ TB := tb_of (i := 700) (by decide +kernel) rfl
theorem ml_X5_224 : Cond.methodLink RX5 224 yX4_orderCount ∈ TB := tb_of (i := 701) (by decide +kernel) rfl
theorem ml_X5_227 : Cond.methodLink RX5 227 yX1_giveBack ∈ TB := tb_of (i := 709) (by decide +kernel) rfl
theorem ml_X5_231 : Cond.methodLink RX5 231 yX1_size ∈ TB := tb_of (i := 713) (by decide +kernel) rfl
theorem co_X5_232 : Cond.constantLong RX5 232 (2053) ∈ TB := tb_of (i := 725) (by decide +kernel) rfl
theorem ml_X5_234 : Cond.methodLink RX5 234 yX5_told ∈ TB := tb_of (i := 726) (by decide +kernel) rfl
theorem ml_X5_237 : Cond.methodLink RX5 237 yX5_mixed ∈ TB := tb_of (i := 727) (by decide +kernel) rfl
theorem co_X5_263 : Cond.constantLong RX5 263 (31) ∈ TB := tb_of (i := 730) (by decide +kernel) rfl
theorem ml_X5_241 : Cond.methodLink RX5 241 yX5_count ∈ TB := tb_of (i := 731) (by decide +kernel) rfl
theorem ml_X5_244 : Cond.methodLink RX5 244 yX5_mixedLine ∈ TB := tb_of (i := 732) (by decide +kernel) rfl
theorem ml_X5_265 : Cond.methodLink RX5 265 yX5_of ∈ TB := tb_of (i := 736) (by decide +kernel) rfl
theorem ml_X5_268 : Cond.methodLink RX5 268 yX5_run ∈ TB := tb_of (i := 737) (by decide +kernel) rfl
theorem ml_X5_271 : Cond.methodLink RX5 271 yX5_bumps ∈ TB := tb_of (i := 738) (by decide +kernel) rfl
theorem ml_X5_247 : Cond.methodLink RX5 247 yX5_about ∈ TB := tb_of (i := 739) (by decide +kernel) rfl
theorem ml_X5_250 : Cond.methodLink RX5 250 yX5_blocked ∈ TB := tb_of (i := 740) (by decide +kernel) rfl
theorem ml_X5_253 : Cond.methodLink RX5 253 yX5_least ∈ TB := tb_of (i := 741) (by decide +kernel) rfl
theorem ml_X5_256 : Cond.methodLink RX5 256 yX5_greatest ∈ TB := tb_of (i := 742) (by decide +kernel) rfl
theorem ml_X5_259 : Cond.methodLink RX5 259 yX5_mixedHumps ∈ TB := tb_of (i := 743) (by decide +kernel) rfl
theorem ml_X6_1 : Cond.methodLink RX6 1 objectInit ∈ TB := tb_of (i := 752) (by decide +kernel) rfl
theorem ml_X6_47 : Cond.methodLink RX6 47 yX6_no ∈ TB := tb_of (i := 803) (by decide +kernel) rfl
theorem ml_X6_57 : Cond.methodLink RX6 57 yX6_takes ∈ TB := tb_of (i := 807) (by decide +kernel) rfl
theorem ml_X6_92 : Cond.methodLink RX6 92 yX6_puts ∈ TB := tb_of (i := 815) (by decide +kernel) rfl
theorem ml_X6_95 : Cond.methodLink RX6 95 yX6_addLine ∈ TB := tb_of (i := 819) (by decide +kernel) rfl
theorem ml_X6_61 : Cond.methodLink RX6 61 yX6_in ∈ TB := tb_of (i := 823) (by decide +kernel) rfl
theorem ml_X6_98 : Cond.methodLink RX6 98 yX6_done ∈ TB := tb_of (i := 826) (by decide +kernel) rfl
theorem ml_X6_86 : Cond.methodLink RX6 86 yX6_counted ∈ TB := tb_of (i := 830) (by decide +kernel) rfl
theorem ml_X6_43 : Cond.methodLink RX6 43 yX6_bad ∈ TB := tb_of (i := 834) (by decide +kernel) rfl
theorem ml_X6_50 : Cond.methodLink RX6 50 yX6_full ∈ TB := tb_of (i := 838) (by decide +kernel) rfl
theorem ml_X6_89 : Cond.methodLink RX6 89 yX6_leavesState ∈ TB := tb_of (i := 842) (by decide +kernel) rfl
theorem ml_X6_101 : Cond.methodLink RX6 101 yX6_addRun ∈ TB := tb_of (i := 850) (by decide +kernel) rfl
theorem ml_X6_65 : Cond.methodLink RX6 65 yX6_isLine ∈ TB := tb_of (i := 854) (by decide +kernel) rfl
theorem ml_X6_69 : Cond.methodLink RX6 69 yX6_runsOf ∈ TB := tb_of (i := 858) (by decide +kernel) rfl
theorem ml_X6_105 : Cond.methodLink RX6 105 yX6_dropRun ∈ TB := tb_of (i := 866) (by decide +kernel) rfl
theorem ml_X6_108 : Cond.methodLink RX6 108 yX6_addPocket ∈ TB := tb_of (i := 874) (by decide +kernel) rfl
theorem ml_X6_111 : Cond.methodLink RX6 111 yX6_setWide ∈ TB := tb_of (i := 882) (by decide +kernel) rfl
theorem ml_X6_73 : Cond.methodLink RX6 73 yX6_isPocket ∈ TB := tb_of (i := 886) (by decide +kernel) rfl
theorem ml_X6_76 : Cond.methodLink RX6 76 yX6_becomes ∈ TB := tb_of (i := 890) (by decide +kernel) rfl
theorem ml_X6_114 : Cond.methodLink RX6 114 yX6_setTouch ∈ TB := tb_of (i := 898) (by decide +kernel) rfl
theorem ml_X6_117 : Cond.methodLink RX6 117 yX6_setSetting ∈ TB := tb_of (i := 906) (by decide +kernel) rfl
theorem ml_X6_80 : Cond.methodLink RX6 80 yX6_leastOf ∈ TB := tb_of (i := 910) (by decide +kernel) rfl
theorem ml_X6_83 : Cond.methodLink RX6 83 yX6_mostOf ∈ TB := tb_of (i := 913) (by decide +kernel) rfl
theorem ml_X6_144 : Cond.methodLink RX6 144 yX6_toldLine ∈ TB := tb_of (i := 920) (by decide +kernel) rfl
theorem ml_X6_126 : Cond.methodLink RX6 126 yX6_base ∈ TB := tb_of (i := 924) (by decide +kernel) rfl
theorem ml_X6_120 : Cond.methodLink RX6 120 yX6_longOf ∈ TB := tb_of (i := 928) (by decide +kernel) rfl
theorem ml_X6_129 : Cond.methodLink RX6 129 yX6_lack ∈ TB := tb_of (i := 932) (by decide +kernel) rfl
theorem ml_X6_135 : Cond.methodLink RX6 135 yX6_needBy ∈ TB := tb_of (i := 936) (by decide +kernel) rfl
theorem ml_X6_123 : Cond.methodLink RX6 123 yX6_gain ∈ TB := tb_of (i := 940) (by decide +kernel) rfl
theorem ml_X6_138 : Cond.methodLink RX6 138 yX6_pocketsOf ∈ TB := tb_of (i := 944) (by decide +kernel) rfl
theorem ml_X6_141 : Cond.methodLink RX6 141 yX6_turns ∈ TB := tb_of (i := 948) (by decide +kernel) rfl
theorem ml_X6_132 : Cond.methodLink RX6 132 yX6_turnOf ∈ TB := tb_of (i := 952) (by decide +kernel) rfl
theorem ml_X6_147 : Cond.methodLink RX6 147 yX6_isRun ∈ TB := tb_of (i := 960) (by decide +kernel) rfl
theorem ml_X6_151 : Cond.methodLink RX6 151 yX6_toldRun ∈ TB := tb_of (i := 964) (by decide +kernel) rfl
theorem ml_X6_167 : Cond.methodLink RX6 167 yX6_allCan ∈ TB := tb_of (i := 972) (by decide +kernel) rfl
theorem ml_X6_160 : Cond.methodLink RX6 160 yX6_lays ∈ TB := tb_of (i := 976) (by decide +kernel) rfl
theorem ml_X6_154 : Cond.methodLink RX6 154 yX6_humps ∈ TB := tb_of (i := 980) (by decide +kernel) rfl
theorem ml_X6_163 : Cond.methodLink RX6 163 yX6_areEnough ∈ TB := tb_of (i := 984) (by decide +kernel) rfl
theorem ml_X6_157 : Cond.methodLink RX6 157 yX6_isEnough ∈ TB := tb_of (i := 988) (by decide +kernel) rfl
theorem ml_X6_170 : Cond.methodLink RX6 170 yX6_longest ∈ TB := tb_of (i := 996) (by decide +kernel) rfl
theorem ml_X6_173 : Cond.methodLink RX6 173 yX6_ones ∈ TB := tb_of (i := 1008) (by decide +kernel) rfl
theorem ml_X6_176 : Cond.methodLink RX6 176 yX6_allCanNow ∈ TB := tb_of (i := 1015) (by decide +kernel) rfl
theorem ml_X6_179 : Cond.methodLink RX6 179 yX6_draw ∈ TB := tb_of (i := 1023) (by decide +kernel) rfl
theorem ml_X6_185 : Cond.methodLink RX6 185 yX6_toldPocket ∈ TB := tb_of (i := 1035) (by decide +kernel) rfl
theorem ml_X6_182 : Cond.methodLink RX6 182 yX6_free ∈ TB := tb_of (i := 1039) (by decide +kernel) rfl
theorem ml_X6_188 : Cond.methodLink RX6 188 yX6_countOf ∈ TB := tb_of (i := 1051) (by decide +kernel) rfl
theorem ml_X6_191 : Cond.methodLink RX6 191 yX6_skewOf ∈ TB := tb_of (i := 1059) (by decide +kernel) rfl
theorem ml_X6_194 : Cond.methodLink RX6 194 yX6_fewestBumps ∈ TB := tb_of (i := 1067) (by decide +kernel) rfl
theorem ml_X6_209 : Cond.methodLink RX6 209 yX6_blanks ∈ TB := tb_of (i := 1083) (by decide +kernel) rfl
theorem ml_X6_200 : Cond.methodLink RX6 200 yX6_byteAt ∈ TB := tb_of (i := 1087) (by decide +kernel) rfl
theorem ml_X6_221 : Cond.methodLink RX6 221 yX6_reads ∈ TB := tb_of (i := 1091) (by decide +kernel) rfl
theorem ml_X6_212 : Cond.methodLink RX6 212 yX6_wants ∈ TB := tb_of (i := 1095) (by decide +kernel) rfl
theorem ml_X6_218 : Cond.methodLink RX6 218 yX6_number ∈ TB := tb_of (i := 1098) (by decide +kernel) rfl
theorem ml_X6_206 : Cond.methodLink RX6 206 yX6_isFigure ∈ TB := tb_of (i := 1102) (by decide +kernel) rfl
theorem ml_X6_224 : Cond.methodLink RX6 224 yX6_acted ∈ TB := tb_of (i := 1106) (by decide +kernel) rfl
theorem ml_X6_227 : Cond.methodLink RX6 227 yX6_toldOf ∈ TB := tb_of (i := 1114) (by decide +kernel) rfl
theorem co_X6_230 : Cond.constantLong RX6 230 (2053) ∈ TB := tb_of (i := 1122) (by decide +kernel) rfl
theorem co_X6_232 : Cond.constantLong RX6 232 (31) ∈ TB := tb_of (i := 1123) (by decide +kernel) rfl
theorem ml_X6_234 : Cond.methodLink RX6 234 yX6_blocked ∈ TB := tb_of (i := 1124) (by decide +kernel) rfl
theorem ml_X6_237 : Cond.methodLink RX6 237 yX6_least ∈ TB := tb_of (i := 1125) (by decide +kernel) rfl
theorem ml_X6_240 : Cond.methodLink RX6 240 yX6_greatest ∈ TB := tb_of (i := 1126) (by decide +kernel) rfl
theorem mkX5_copy : mokS yX5_copy cX5_copy 2 none 2 := ⟨⟨tb_of (i := 100) (by decide +kernel) rfl, tb_of (i := 71) (by decide +kernel) rfl, ⟨by decide, by decide, by decide +kernel⟩, by decide⟩, tb_of (i := 99) (by decide +kernel) rfl⟩
theorem mm_min_c : Cond.code Lib.Math.min.name Lib.Math.min.code 2 (some .int) ∈ TB := tb_of (i := 103) (by decide +kernel) rfl
theorem mm_min_s : Cond.static Lib.Math.min.name ∈ TB := tb_of (i := 102) (by decide +kernel) rfl
theorem mkX5_line : mokI yX5_line cX5_line 2 (some .int) 1 := ⟨⟨tb_of (i := 264) (by decide +kernel) rfl, tb_of (i := 71) (by decide +kernel) rfl, ⟨by decide, by decide, by decide +kernel⟩, by decide⟩, tb_of (i := 262) (by decide +kernel) rfl, tb_of (i := 263) (by decide +kernel) rfl⟩
theorem mkX5_draft : mokI yX5_draft cX5_draft 1 (some (.object "SnakedBus$Bus")) 0 := ⟨⟨tb_of (i := 268) (by decide +kernel) rfl, tb_of (i := 71) (by decide +kernel) rfl, ⟨by decide, by decide, by decide +kernel⟩, by decide⟩, tb_of (i := 267) (by decide +kernel) rfl, tb_of (i := 0) (by decide +kernel) rfl⟩
theorem mkX0_takeFrom : mokI yX0_takeFrom cX0_takeFrom 2 none 1 := ⟨⟨tb_of (i := 272) (by decide +kernel) rfl, tb_of (i := 72) (by decide +kernel) rfl, ⟨by decide, by decide, by decide +kernel⟩, by decide⟩, tb_of (i := 270) (by decide +kernel) rfl, tb_of (i := 271) (by decide +kernel) rfl⟩
theorem mkX0_addLine : mokI yX0_addLine cX0_addLine 2 (some .int) 1 := ⟨⟨tb_of (i := 276) (by decide +kernel) rfl, tb_of (i := 72) (by decide +kernel) rfl, ⟨by decide, by decide, by decide +kernel⟩, by decide⟩, tb_of (i := 274) (by decide +kernel) rfl, tb_of (i := 275) (by decide +kernel) rfl⟩
theorem mkX5_within : mokS yX5_within cX5_within 3 (some .boolean) 3 := ⟨⟨tb_of (i := 279) (by decide +kernel) rfl, tb_of (i := 71) (by decide +kernel) rfl, ⟨by decide, by decide, by decide +kernel⟩, by decide⟩, tb_of (i := 278) (by decide +kernel) rfl⟩
theorem mkX5_put : mokS yX5_put cX5_put 3 none 3 := ⟨⟨tb_of (i := 282) (by decide +kernel) rfl, tb_of (i := 71) (by decide +kernel) rfl, ⟨by decide, by decide, by decide +kernel⟩, by decide⟩, tb_of (i := 281) (by decide +kernel) rfl⟩
theorem mkX5_cell : mokS yX5_cell cX5_cell 3 (some .int) 3 := ⟨⟨tb_of (i := 285) (by decide +kernel) rfl, tb_of (i := 71) (by decide +kernel) rfl, ⟨by decide, by decide, by decide +kernel⟩, by decide⟩, tb_of (i := 284) (by decide +kernel) rfl⟩
theorem mkX5_settled : mokI yX5_settled cX5_settled 2 (some .int) 1 := ⟨⟨tb_of (i := 289) (by decide +kernel) rfl, tb_of (i := 71) (by decide +kernel) rfl, ⟨by decide, by decide, by decide +kernel⟩, by decide⟩, tb_of (i := 288) (by decide +kernel) rfl, tb_of (i := 1) (by decide +kernel) rfl⟩
theorem mkX5_refused : mokI yX5_refused cX5_refused 2 (some .int) 1 := ⟨⟨tb_of (i := 293) (by decide +kernel) rfl, tb_of (i := 71) (by decide +kernel) rfl, ⟨by decide, by decide, by decide +kernel⟩, by decide⟩, tb_of (i := 292) (by decide +kernel) rfl, tb_of (i := 2) (by decide +kernel) rfl⟩
theorem mkX5_accept : mokI yX5_accept cX5_accept 1 none 0 := ⟨⟨tb_of (i := 297) (by decide +kernel) rfl, tb_of (i := 71) (by decide +kernel) rfl, ⟨by decide, by decide, by decide +kernel⟩, by decide⟩, tb_of (i := 296) (by decide +kernel) rfl, tb_of (i := 3) (by decide +kernel) rfl⟩
theorem mkX1_keep : mokI yX1_keep cX1_keep 3 none 1 := ⟨⟨tb_of (i := 301) (by decide +kernel) rfl, tb_of (i := 75) (by decide +kernel) rfl, ⟨by decide, by decide, by decide +kernel⟩, by decide⟩, tb_of (i := 299) (by decide +kernel) rfl, tb_of (i := 300) (by decide +kernel) rfl⟩
theorem mkX1_slotAt : mokI yX1_slotAt cX1_slotAt 2 (some (.object "SnakedBus$Bus")) 1 := ⟨⟨tb_of (i := 305) (by decide +kernel) rfl, tb_of (i := 75) (by decide +kernel) rfl, ⟨by decide, by decide, by decide +kernel⟩, by decide⟩, tb_of (i := 304) (by decide +kernel) rfl, tb_of (i := 4) (by decide +kernel) rfl⟩
theorem mkX5_goes : mokI yX5_goes cX5_goes 4 (some .int) 3 := ⟨⟨tb_of (i := 311) (by decide +kernel) rfl, tb_of (i := 71) (by decide +kernel) rfl, ⟨by decide, by decide, by decide +kernel⟩, by decide⟩, tb_of (i := 309) (by decide +kernel) rfl, tb_of (i := 310) (by decide +kernel) rfl⟩
theorem mkX0_addRun : mokI yX0_addRun cX0_addRun 5 (some .int) 3 := ⟨⟨tb_of (i := 315) (by decide +kernel) rfl, tb_of (i := 72) (by decide +kernel) rfl, ⟨by decide, by decide, by decide +kernel⟩, by decide⟩, tb_of (i := 313) (by decide +kernel) rfl, tb_of (i := 314) (by decide +kernel) rfl⟩
theorem mkX0_hasLine : mokI yX0_hasLine cX0_hasLine 2 (some .boolean) 1 := ⟨⟨tb_of (i := 319) (by decide +kernel) rfl, tb_of (i := 72) (by decide +kernel) rfl, ⟨by decide, by decide, by decide +kernel⟩, by decide⟩, tb_of (i := 317) (by decide +kernel) rfl, tb_of (i := 318) (by decide +kernel) rfl⟩
theorem mkX0_runsOf : mokI yX0_runsOf cX0_runsOf 2 (some .int) 1 := ⟨⟨tb_of (i := 323) (by decide +kernel) rfl, tb_of (i := 72) (by decide +kernel) rfl, ⟨by decide, by decide, by decide +kernel⟩, by decide⟩, tb_of (i := 321) (by decide +kernel) rfl, tb_of (i := 322) (by decide +kernel) rfl⟩
theorem mkX5_at : mokS yX5_at cX5_at 2 (some .int) 2 := ⟨⟨tb_of (i := 326) (by decide +kernel) rfl, tb_of (i := 71) (by decide +kernel) rfl, ⟨by decide, by decide, by decide +kernel⟩, by decide⟩, tb_of (i := 325) (by decide +kernel) rfl⟩
theorem mkX5_shortens : mokI yX5_shortens cX5_shortens 2 (some .int) 1 := ⟨⟨tb_of (i := 330) (by decide +kernel) rfl, tb_of (i := 71) (by decide +kernel) rfl, ⟨by decide, by decide, by decide +kernel⟩, by decide⟩, tb_of (i := 328) (by decide +kernel) rfl, tb_of (i := 329) (by decide +kernel) rfl⟩
theorem mkX0_dropRun : mokI yX0_dropRun cX0_dropRun 3 (some .int) 1 := ⟨⟨tb_of (i := 334) (by decide +kernel) rfl, tb_of (i := 72) (by decide +kernel) rfl, ⟨by decide, by decide, by decide +kernel⟩, by decide⟩, tb_of (i := 332) (by decide +kernel) rfl, tb_of (i := 333) (by decide +kernel) rfl⟩
theorem mkX5_pocket : mokI yX5_pocket cX5_pocket 3 (some .int) 2 := ⟨⟨tb_of (i := 338) (by decide +kernel) rfl, tb_of (i := 71) (by decide +kernel) rfl, ⟨by decide, by decide, by decide +kernel⟩, by decide⟩, tb_of (i := 336) (by decide +kernel) rfl, tb_of (i := 337) (by decide +kernel) rfl⟩
theorem mkX0_addPocket : mokI yX0_addPocket cX0_addPocket 3 (some .int) 2 := ⟨⟨tb_of (i := 342) (by decide +kernel) rfl, tb_of (i := 72) (by decide +kernel) rfl, ⟨by decide, by decide, by decide +kernel⟩, by decide⟩, tb_of (i := 340) (by decide +kernel) rfl, tb_of (i := 341) (by decide +kernel) rfl⟩
theorem mkX5_widens : mokI yX5_widens cX5_widens 3 (some .int) 2 := ⟨⟨tb_of (i := 346) (by decide +kernel) rfl, tb_of (i := 71) (by decide +kernel) rfl, ⟨by decide, by decide, by decide +kernel⟩, by decide⟩, tb_of (i := 344) (by decide +kernel) rfl, tb_of (i := 345) (by decide +kernel) rfl⟩
theorem mkX0_changeWide : mokI yX0_changeWide cX0_changeWide 4 (some .int) 2 := ⟨⟨tb_of (i := 350) (by decide +kernel) rfl, tb_of (i := 72) (by decide +kernel) rfl, ⟨by decide, by decide, by decide +kernel⟩, by decide⟩, tb_of (i := 348) (by decide +kernel) rfl, tb_of (i := 349) (by decide +kernel) rfl⟩
theorem mkX0_hasPocket : mokI yX0_hasPocket cX0_hasPocket 2 (some .boolean) 1 := ⟨⟨tb_of (i := 354) (by decide +kernel) rfl, tb_of (i := 72) (by decide +kernel) rfl, ⟨by decide, by decide, by decide +kernel⟩, by decide⟩, tb_of (i := 352) (by decide +kernel) rfl, tb_of (i := 353) (by decide +kernel) rfl⟩
theorem mkX0_wideOf : mokI yX0_wideOf cX0_wideOf 2 (some .int) 1 := ⟨⟨tb_of (i := 358) (by decide +kernel) rfl, tb_of (i := 72) (by decide +kernel) rfl, ⟨by decide, by decide, by decide +kernel⟩, by decide⟩, tb_of (i := 356) (by decide +kernel) rfl, tb_of (i := 357) (by decide +kernel) rfl⟩
theorem mkX5_touches : mokI yX5_touches cX5_touches 3 (some .int) 2 := ⟨⟨tb_of (i := 362) (by decide +kernel) rfl, tb_of (i := 71) (by decide +kernel) rfl, ⟨by decide, by decide, by decide +kernel⟩, by decide⟩, tb_of (i := 360) (by decide +kernel) rfl, tb_of (i := 361) (by decide +kernel) rfl⟩
theorem mkX0_changeTouch : mokI yX0_changeTouch cX0_changeTouch 4 (some .int) 2 := ⟨⟨tb_of (i := 366) (by decide +kernel) rfl, tb_of (i := 72) (by decide +kernel) rfl, ⟨by decide, by decide, by decide +kernel⟩, by decide⟩, tb_of (i := 364) (by decide +kernel) rfl, tb_of (i := 365) (by decide +kernel) rfl⟩
theorem mkX5_sets : mokI yX5_sets cX5_sets 3 (some .int) 2 := ⟨⟨tb_of (i := 370) (by decide +kernel) rfl, tb_of (i := 71) (by decide +kernel) rfl, ⟨by decide, by decide, by decide +kernel⟩, by decide⟩, tb_of (i := 368) (by decide +kernel) rfl, tb_of (i := 369) (by decide +kernel) rfl⟩
theorem mkX0_changeSetting : mokI yX0_changeSetting cX0_changeSetting 4 (some .int) 2 := ⟨⟨tb_of (i := 374) (by decide +kernel) rfl, tb_of (i := 72) (by decide +kernel) rfl, ⟨by decide, by decide, by decide +kernel⟩, by decide⟩, tb_of (i := 372) (by decide +kernel) rfl, tb_of (i := 373) (by decide +kernel) rfl⟩
theorem mkX5_of : mokI yX5_of cX5_of 3 (some .int) 2 := ⟨⟨tb_of (i := 382) (by decide +kernel) rfl, tb_of (i := 71) (by decide +kernel) rfl, ⟨by decide, by decide, by decide +kernel⟩, by decide⟩, tb_of (i := 380) (by decide +kernel) rfl, tb_of (i := 381) (by decide +kernel) rfl⟩
theorem mkX0_baseOf : mokI yX0_baseOf cX0_baseOf 4 (some .int) 1 := ⟨⟨tb_of (i := 388) (by decide +kernel) rfl, tb_of (i := 72) (by decide +kernel) rfl, ⟨by decide, by decide, by decide +kernel⟩, by decide⟩, tb_of (i := 386) (by decide +kernel) rfl, tb_of (i := 387) (by decide +kernel) rfl⟩
theorem mkX0_longOf : mokI yX0_longOf cX0_longOf 3 (some .int) 2 := ⟨⟨tb_of (i := 392) (by decide +kernel) rfl, tb_of (i := 72) (by decide +kernel) rfl, ⟨by decide, by decide, by decide +kernel⟩, by decide⟩, tb_of (i := 390) (by decide +kernel) rfl, tb_of (i := 391) (by decide +kernel) rfl⟩
theorem mm_max_c : Cond.code Lib.Math.max.name Lib.Math.max.code 2 (some .int) ∈ TB := tb_of (i := 395) (by decide +kernel) rfl
theorem mm_max_s : Cond.static Lib.Math.max.name ∈ TB := tb_of (i := 394) (by decide +kernel) rfl
theorem mkX0_settingAt : mokI yX0_settingAt cX0_settingAt 2 (some .int) 1 := ⟨⟨tb_of (i := 399) (by decide +kernel) rfl, tb_of (i := 72) (by decide +kernel) rfl, ⟨by decide, by decide, by decide +kernel⟩, by decide⟩, tb_of (i := 397) (by decide +kernel) rfl, tb_of (i := 398) (by decide +kernel) rfl⟩
theorem mkX0_lackFor : mokI yX0_lackFor cX0_lackFor 4 (some .int) 2 := ⟨⟨tb_of (i := 403) (by decide +kernel) rfl, tb_of (i := 72) (by decide +kernel) rfl, ⟨by decide, by decide, by decide +kernel⟩, by decide⟩, tb_of (i := 401) (by decide +kernel) rfl, tb_of (i := 402) (by decide +kernel) rfl⟩
theorem mkX0_needFor : mokI yX0_needFor cX0_needFor 5 (some .int) 2 := ⟨⟨tb_of (i := 407) (by decide +kernel) rfl, tb_of (i := 72) (by decide +kernel) rfl, ⟨by decide, by decide, by decide +kernel⟩, by decide⟩, tb_of (i := 405) (by decide +kernel) rfl, tb_of (i := 406) (by decide +kernel) rfl⟩
theorem mkX0_gain : mokI yX0_gain cX0_gain 1 (some .int) 0 := ⟨⟨tb_of (i := 412) (by decide +kernel) rfl, tb_of (i := 72) (by decide +kernel) rfl, ⟨by decide, by decide, by decide +kernel⟩, by decide⟩, tb_of (i := 410) (by decide +kernel) rfl, tb_of (i := 411) (by decide +kernel) rfl⟩
theorem mkX0_reachOf : mokI yX0_reachOf cX0_reachOf 4 (some .int) 1 := ⟨⟨tb_of (i := 416) (by decide +kernel) rfl, tb_of (i := 72) (by decide +kernel) rfl, ⟨by decide, by decide, by decide +kernel⟩, by decide⟩, tb_of (i := 414) (by decide +kernel) rfl, tb_of (i := 415) (by decide +kernel) rfl⟩
theorem mkX5_hasBit : mokS yX5_hasBit cX5_hasBit 2 (some .boolean) 2 := ⟨⟨tb_of (i := 419) (by decide +kernel) rfl, tb_of (i := 71) (by decide +kernel) rfl, ⟨by decide, by decide, by decide +kernel⟩, by decide⟩, tb_of (i := 418) (by decide +kernel) rfl⟩
theorem mkX0_turnsOf : mokI yX0_turnsOf cX0_turnsOf 5 (some .int) 2 := ⟨⟨tb_of (i := 423) (by decide +kernel) rfl, tb_of (i := 72) (by decide +kernel) rfl, ⟨by decide, by decide, by decide +kernel⟩, by decide⟩, tb_of (i := 421) (by decide +kernel) rfl, tb_of (i := 422) (by decide +kernel) rfl⟩
theorem mkX0_turnAhead : mokI yX0_turnAhead cX0_turnAhead 3 (some .int) 2 := ⟨⟨tb_of (i := 427) (by decide +kernel) rfl, tb_of (i := 72) (by decide +kernel) rfl, ⟨by decide, by decide, by decide +kernel⟩, by decide⟩, tb_of (i := 425) (by decide +kernel) rfl, tb_of (i := 426) (by decide +kernel) rfl⟩
theorem mkX5_run : mokI yX5_run cX5_run 4 (some .int) 3 := ⟨⟨tb_of (i := 431) (by decide +kernel) rfl, tb_of (i := 71) (by decide +kernel) rfl, ⟨by decide, by decide, by decide +kernel⟩, by decide⟩, tb_of (i := 429) (by decide +kernel) rfl, tb_of (i := 430) (by decide +kernel) rfl⟩
theorem mkX0_hasRun : mokI yX0_hasRun cX0_hasRun 3 (some .boolean) 2 := ⟨⟨tb_of (i := 435) (by decide +kernel) rfl, tb_of (i := 72) (by decide +kernel) rfl, ⟨by decide, by decide, by decide +kernel⟩, by decide⟩, tb_of (i := 433) (by decide +kernel) rfl, tb_of (i := 434) (by decide +kernel) rfl⟩
theorem mkX0_bumpRoom : mokI yX0_bumpRoom cX0_bumpRoom 4 (some .int) 2 := ⟨⟨tb_of (i := 441) (by decide +kernel) rfl, tb_of (i := 72) (by decide +kernel) rfl, ⟨by decide, by decide, by decide +kernel⟩, by decide⟩, tb_of (i := 439) (by decide +kernel) rfl, tb_of (i := 440) (by decide +kernel) rfl⟩
theorem mkX5_about : mokI yX5_about cX5_about 3 (some .int) 2 := ⟨⟨tb_of (i := 445) (by decide +kernel) rfl, tb_of (i := 71) (by decide +kernel) rfl, ⟨by decide, by decide, by decide +kernel⟩, by decide⟩, tb_of (i := 443) (by decide +kernel) rfl, tb_of (i := 444) (by decide +kernel) rfl⟩
theorem mkX0_presentAt : mokI yX0_presentAt cX0_presentAt 2 (some .int) 1 := ⟨⟨tb_of (i := 451) (by decide +kernel) rfl, tb_of (i := 72) (by decide +kernel) rfl, ⟨by decide, by decide, by decide +kernel⟩, by decide⟩, tb_of (i := 449) (by decide +kernel) rfl, tb_of (i := 450) (by decide +kernel) rfl⟩
theorem mkX0_humpsOf : mokI yX0_humpsOf cX0_humpsOf 3 (some .int) 1 := ⟨⟨tb_of (i := 455) (by decide +kernel) rfl, tb_of (i := 72) (by decide +kernel) rfl, ⟨by decide, by decide, by decide +kernel⟩, by decide⟩, tb_of (i := 453) (by decide +kernel) rfl, tb_of (i := 454) (by decide +kernel) rfl⟩
theorem mkX5_plan : mokI yX5_plan cX5_plan 2 (some (.object "SnakedBus$Sharing")) 0 := ⟨⟨tb_of (i := 459) (by decide +kernel) rfl, tb_of (i := 71) (by decide +kernel) rfl, ⟨by decide, by decide, by decide +kernel⟩, by decide⟩, tb_of (i := 458) (by decide +kernel) rfl, tb_of (i := 5) (by decide +kernel) rfl⟩
theorem mkX3_look : mokI yX3_look cX3_look 5 none 2 := ⟨⟨tb_of (i := 463) (by decide +kernel) rfl, tb_of (i := 77) (by decide +kernel) rfl, ⟨by decide, by decide, by decide +kernel⟩, by decide⟩, tb_of (i := 461) (by decide +kernel) rfl, tb_of (i := 462) (by decide +kernel) rfl⟩
theorem mkX0_lineCount : mokI yX0_lineCount cX0_lineCount 1 (some .int) 0 := ⟨⟨tb_of (i := 467) (by decide +kernel) rfl, tb_of (i := 72) (by decide +kernel) rfl, ⟨by decide, by decide, by decide +kernel⟩, by decide⟩, tb_of (i := 465) (by decide +kernel) rfl, tb_of (i := 466) (by decide +kernel) rfl⟩
theorem mkX0_pocketCount : mokI yX0_pocketCount cX0_pocketCount 1 (some .int) 0 := ⟨⟨tb_of (i := 471) (by decide +kernel) rfl, tb_of (i := 72) (by decide +kernel) rfl, ⟨by decide, by decide, by decide +kernel⟩, by decide⟩, tb_of (i := 469) (by decide +kernel) rfl, tb_of (i := 470) (by decide +kernel) rfl⟩
theorem mkX3_joinSets : mokI yX3_joinSets cX3_joinSets 4 none 0 := ⟨⟨tb_of (i := 480) (by decide +kernel) rfl, tb_of (i := 77) (by decide +kernel) rfl, ⟨by decide, by decide, by decide +kernel⟩, by decide⟩, tb_of (i := 479) (by decide +kernel) rfl, tb_of (i := 6) (by decide +kernel) rfl⟩
theorem mkX3_findBlocked : mokI yX3_findBlocked cX3_findBlocked 1 none 0 := ⟨⟨tb_of (i := 485) (by decide +kernel) rfl, tb_of (i := 77) (by decide +kernel) rfl, ⟨by decide, by decide, by decide +kernel⟩, by decide⟩, tb_of (i := 483) (by decide +kernel) rfl, tb_of (i := 484) (by decide +kernel) rfl⟩
theorem mkX3_crowd : mokI yX3_crowd cX3_crowd 5 (some .int) 0 := ⟨⟨tb_of (i := 489) (by decide +kernel) rfl, tb_of (i := 77) (by decide +kernel) rfl, ⟨by decide, by decide, by decide +kernel⟩, by decide⟩, tb_of (i := 488) (by decide +kernel) rfl, tb_of (i := 7) (by decide +kernel) rfl⟩
theorem mkJ6_bitCount_0f7a4 : mokS yJ6_bitCount_0f7a4 cJ6_bitCount_0f7a4 1 (some .int) 1 := ⟨⟨tb_of (i := 492) (by decide +kernel) rfl, tb_of (i := 80) (by decide +kernel) rfl, ⟨by decide, by decide, by decide +kernel⟩, by decide⟩, tb_of (i := 491) (by decide +kernel) rfl⟩
theorem mkX3_spare : mokI yX3_spare cX3_spare 4 (some .int) 1 := ⟨⟨tb_of (i := 499) (by decide +kernel) rfl, tb_of (i := 77) (by decide +kernel) rfl, ⟨by decide, by decide, by decide +kernel⟩, by decide⟩, tb_of (i := 498) (by decide +kernel) rfl, tb_of (i := 8) (by decide +kernel) rfl⟩
theorem mkX3_allFit : mokI yX3_allFit cX3_allFit 1 (some .boolean) 0 := ⟨⟨tb_of (i := 505) (by decide +kernel) rfl, tb_of (i := 77) (by decide +kernel) rfl, ⟨by decide, by decide, by decide +kernel⟩, by decide⟩, tb_of (i := 503) (by decide +kernel) rfl, tb_of (i := 504) (by decide +kernel) rfl⟩
theorem mkX3_drawLine : mokI yX3_drawLine cX3_drawLine 6 none 1 := ⟨⟨tb_of (i := 509) (by decide +kernel) rfl, tb_of (i := 77) (by decide +kernel) rfl, ⟨by decide, by decide, by decide +kernel⟩, by decide⟩, tb_of (i := 507) (by decide +kernel) rfl, tb_of (i := 508) (by decide +kernel) rfl⟩
theorem mkX3_mostFor : mokI yX3_mostFor cX3_mostFor 6 (some .int) 2 := ⟨⟨tb_of (i := 513) (by decide +kernel) rfl, tb_of (i := 77) (by decide +kernel) rfl, ⟨by decide, by decide, by decide +kernel⟩, by decide⟩, tb_of (i := 512) (by decide +kernel) rfl, tb_of (i := 9) (by decide +kernel) rfl⟩
theorem mkX3_freeOf : mokI yX3_freeOf cX3_freeOf 2 (some .int) 1 := ⟨⟨tb_of (i := 519) (by decide +kernel) rfl, tb_of (i := 77) (by decide +kernel) rfl, ⟨by decide, by decide, by decide +kernel⟩, by decide⟩, tb_of (i := 517) (by decide +kernel) rfl, tb_of (i := 518) (by decide +kernel) rfl⟩
theorem mkX5_setting : mokI yX5_setting cX5_setting 2 (some .int) 1 := ⟨⟨tb_of (i := 523) (by decide +kernel) rfl, tb_of (i := 71) (by decide +kernel) rfl, ⟨by decide, by decide, by decide +kernel⟩, by decide⟩, tb_of (i := 521) (by decide +kernel) rfl, tb_of (i := 522) (by decide +kernel) rfl⟩
theorem mkX5_count : mokI yX5_count cX5_count 2 (some .int) 1 := ⟨⟨tb_of (i := 528) (by decide +kernel) rfl, tb_of (i := 71) (by decide +kernel) rfl, ⟨by decide, by decide, by decide +kernel⟩, by decide⟩, tb_of (i := 526) (by decide +kernel) rfl, tb_of (i := 527) (by decide +kernel) rfl⟩
theorem mkX0_longestBase : mokI yX0_longestBase cX0_longestBase 3 (some .int) 0 := ⟨⟨tb_of (i := 534) (by decide +kernel) rfl, tb_of (i := 72) (by decide +kernel) rfl, ⟨by decide, by decide, by decide +kernel⟩, by decide⟩, tb_of (i := 532) (by decide +kernel) rfl, tb_of (i := 533) (by decide +kernel) rfl⟩
theorem mkX0_allHumps : mokI yX0_allHumps cX0_allHumps 3 (some .int) 0 := ⟨⟨tb_of (i := 539) (by decide +kernel) rfl, tb_of (i := 72) (by decide +kernel) rfl, ⟨by decide, by decide, by decide +kernel⟩, by decide⟩, tb_of (i := 537) (by decide +kernel) rfl, tb_of (i := 538) (by decide +kernel) rfl⟩
theorem mkX0_allNeeds : mokI yX0_allNeeds cX0_allNeeds 4 (some .int) 1 := ⟨⟨tb_of (i := 544) (by decide +kernel) rfl, tb_of (i := 72) (by decide +kernel) rfl, ⟨by decide, by decide, by decide +kernel⟩, by decide⟩, tb_of (i := 542) (by decide +kernel) rfl, tb_of (i := 543) (by decide +kernel) rfl⟩
theorem mkX5_draws : mokI yX5_draws cX5_draws 3 (some .int) 2 := ⟨⟨tb_of (i := 549) (by decide +kernel) rfl, tb_of (i := 71) (by decide +kernel) rfl, ⟨by decide, by decide, by decide +kernel⟩, by decide⟩, tb_of (i := 547) (by decide +kernel) rfl, tb_of (i := 548) (by decide +kernel) rfl⟩
theorem mkX3_drawnBy : mokI yX3_drawnBy cX3_drawnBy 3 (some .int) 2 := ⟨⟨tb_of (i := 553) (by decide +kernel) rfl, tb_of (i := 77) (by decide +kernel) rfl, ⟨by decide, by decide, by decide +kernel⟩, by decide⟩, tb_of (i := 551) (by decide +kernel) rfl, tb_of (i := 552) (by decide +kernel) rfl⟩
theorem mkX5_length : mokI yX5_length cX5_length 3 (some .int) 1 := ⟨⟨tb_of (i := 557) (by decide +kernel) rfl, tb_of (i := 71) (by decide +kernel) rfl, ⟨by decide, by decide, by decide +kernel⟩, by decide⟩, tb_of (i := 555) (by decide +kernel) rfl, tb_of (i := 556) (by decide +kernel) rfl⟩
theorem mkX5_blocked : mokI yX5_blocked cX5_blocked 1 (some .int) 0 := ⟨⟨tb_of (i := 561) (by decide +kernel) rfl, tb_of (i := 71) (by decide +kernel) rfl, ⟨by decide, by decide, by decide +kernel⟩, by decide⟩, tb_of (i := 559) (by decide +kernel) rfl, tb_of (i := 560) (by decide +kernel) rfl⟩
theorem mkX3_blockedLines : mokI yX3_blockedLines cX3_blockedLines 1 (some .int) 0 := ⟨⟨tb_of (i := 565) (by decide +kernel) rfl, tb_of (i := 77) (by decide +kernel) rfl, ⟨by decide, by decide, by decide +kernel⟩, by decide⟩, tb_of (i := 563) (by decide +kernel) rfl, tb_of (i := 564) (by decide +kernel) rfl⟩
theorem mkX5_can : mokI yX5_can cX5_can 2 (some .int) 1 := ⟨⟨tb_of (i := 569) (by decide +kernel) rfl, tb_of (i := 71) (by decide +kernel) rfl, ⟨by decide, by decide, by decide +kernel⟩, by decide⟩, tb_of (i := 567) (by decide +kernel) rfl, tb_of (i := 568) (by decide +kernel) rfl⟩
theorem mkX5_fitsBy : mokI yX5_fitsBy cX5_fitsBy 2 (some .boolean) 1 := ⟨⟨tb_of (i := 573) (by decide +kernel) rfl, tb_of (i := 71) (by decide +kernel) rfl, ⟨by decide, by decide, by decide +kernel⟩, by decide⟩, tb_of (i := 572) (by decide +kernel) rfl, tb_of (i := 10) (by decide +kernel) rfl⟩
theorem mkX3_fits : mokI yX3_fits cX3_fits 1 (some .boolean) 0 := ⟨⟨tb_of (i := 577) (by decide +kernel) rfl, tb_of (i := 77) (by decide +kernel) rfl, ⟨by decide, by decide, by decide +kernel⟩, by decide⟩, tb_of (i := 575) (by decide +kernel) rfl, tb_of (i := 576) (by decide +kernel) rfl⟩
theorem mkX5_least : mokI yX5_least cX5_least 2 (some .int) 0 := ⟨⟨tb_of (i := 581) (by decide +kernel) rfl, tb_of (i := 71) (by decide +kernel) rfl, ⟨by decide, by decide, by decide +kernel⟩, by decide⟩, tb_of (i := 579) (by decide +kernel) rfl, tb_of (i := 580) (by decide +kernel) rfl⟩
theorem mkX5_greatest : mokI yX5_greatest cX5_greatest 3 (some .int) 0 := ⟨⟨tb_of (i := 585) (by decide +kernel) rfl, tb_of (i := 71) (by decide +kernel) rfl, ⟨by decide, by decide, by decide +kernel⟩, by decide⟩, tb_of (i := 583) (by decide +kernel) rfl, tb_of (i := 584) (by decide +kernel) rfl⟩
theorem mkX5_more : mokI yX5_more cX5_more 2 (some .int) 0 := ⟨⟨tb_of (i := 589) (by decide +kernel) rfl, tb_of (i := 71) (by decide +kernel) rfl, ⟨by decide, by decide, by decide +kernel⟩, by decide⟩, tb_of (i := 587) (by decide +kernel) rfl, tb_of (i := 588) (by decide +kernel) rfl⟩
theorem mkX3_fitsWithOneMore : mokI yX3_fitsWithOneMore cX3_fitsWithOneMore 4 (some .boolean) 1 := ⟨⟨tb_of (i := 593) (by decide +kernel) rfl, tb_of (i := 77) (by decide +kernel) rfl, ⟨by decide, by decide, by decide +kernel⟩, by decide⟩, tb_of (i := 591) (by decide +kernel) rfl, tb_of (i := 592) (by decide +kernel) rfl⟩
theorem mkX5_bumps : mokI yX5_bumps cX5_bumps 2 (some .int) 1 := ⟨⟨tb_of (i := 598) (by decide +kernel) rfl, tb_of (i := 71) (by decide +kernel) rfl, ⟨by decide, by decide, by decide +kernel⟩, by decide⟩, tb_of (i := 596) (by decide +kernel) rfl, tb_of (i := 597) (by decide +kernel) rfl⟩
theorem mkX2_fewestFor : mokI yX2_fewestFor cX2_fewestFor 4 (some .int) 2 := ⟨⟨tb_of (i := 602) (by decide +kernel) rfl, tb_of (i := 78) (by decide +kernel) rfl, ⟨by decide, by decide, by decide +kernel⟩, by decide⟩, tb_of (i := 600) (by decide +kernel) rfl, tb_of (i := 601) (by decide +kernel) rfl⟩
theorem mkJ7_fill_53178 : mokS yJ7_fill_53178 cJ7_fill_53178 4 none 2 := ⟨⟨tb_of (i := 606) (by decide +kernel) rfl, tb_of (i := 81) (by decide +kernel) rfl, ⟨by decide, by decide, by decide +kernel⟩, by decide⟩, tb_of (i := 605) (by decide +kernel) rfl⟩
theorem mkX2_turnStep : mokS yX2_turnStep cX2_turnStep 1 (some .int) 1 := ⟨⟨tb_of (i := 612) (by decide +kernel) rfl, tb_of (i := 78) (by decide +kernel) rfl, ⟨by decide, by decide, by decide +kernel⟩, by decide⟩, tb_of (i := 611) (by decide +kernel) rfl⟩
theorem mkX2_passRun : mokI yX2_passRun cX2_passRun 6 none 3 := ⟨⟨tb_of (i := 618) (by decide +kernel) rfl, tb_of (i := 78) (by decide +kernel) rfl, ⟨by decide, by decide, by decide +kernel⟩, by decide⟩, tb_of (i := 617) (by decide +kernel) rfl, tb_of (i := 11) (by decide +kernel) rfl⟩
theorem mkX2_putBumps : mokI yX2_putBumps cX2_putBumps 9 none 4 := ⟨⟨tb_of (i := 623) (by decide +kernel) rfl, tb_of (i := 78) (by decide +kernel) rfl, ⟨by decide, by decide, by decide +kernel⟩, by decide⟩, tb_of (i := 622) (by decide +kernel) rfl, tb_of (i := 12) (by decide +kernel) rfl⟩
theorem mm_abs_c : Cond.code Lib.Math.abs.name Lib.Math.abs.code 1 (some .int) ∈ TB := tb_of (i := 626) (by decide +kernel) rfl
theorem mm_abs_s : Cond.static Lib.Math.abs.name ∈ TB := tb_of (i := 625) (by decide +kernel) rfl
theorem mkX5_skew : mokI yX5_skew cX5_skew 3 (some .int) 2 := ⟨⟨tb_of (i := 632) (by decide +kernel) rfl, tb_of (i := 71) (by decide +kernel) rfl, ⟨by decide, by decide, by decide +kernel⟩, by decide⟩, tb_of (i := 630) (by decide +kernel) rfl, tb_of (i := 631) (by decide +kernel) rfl⟩
theorem mkX0_plainSkew : mokI yX0_plainSkew cX0_plainSkew 5 (some .int) 2 := ⟨⟨tb_of (i := 636) (by decide +kernel) rfl, tb_of (i := 72) (by decide +kernel) rfl, ⟨by decide, by decide, by decide +kernel⟩, by decide⟩, tb_of (i := 634) (by decide +kernel) rfl, tb_of (i := 635) (by decide +kernel) rfl⟩
theorem mkX5_type : mokI yX5_type cX5_type 2 (some .int) 1 := ⟨⟨tb_of (i := 640) (by decide +kernel) rfl, tb_of (i := 71) (by decide +kernel) rfl, ⟨by decide, by decide, by decide +kernel⟩, by decide⟩, tb_of (i := 638) (by decide +kernel) rfl, tb_of (i := 639) (by decide +kernel) rfl⟩
theorem mkX4_append : mokI yX4_append cX4_append 2 (some .boolean) 1 := ⟨⟨tb_of (i := 644) (by decide +kernel) rfl, tb_of (i := 76) (by decide +kernel) rfl, ⟨by decide, by decide, by decide +kernel⟩, by decide⟩, tb_of (i := 642) (by decide +kernel) rfl, tb_of (i := 643) (by decide +kernel) rfl⟩
theorem mkX4_size : mokI yX4_size cX4_size 1 (some .int) 0 := ⟨⟨tb_of (i := 649) (by decide +kernel) rfl, tb_of (i := 76) (by decide +kernel) rfl, ⟨by decide, by decide, by decide +kernel⟩, by decide⟩, tb_of (i := 647) (by decide +kernel) rfl, tb_of (i := 648) (by decide +kernel) rfl⟩
theorem mkX5_clear : mokI yX5_clear cX5_clear 2 (some .int) 0 := ⟨⟨tb_of (i := 653) (by decide +kernel) rfl, tb_of (i := 71) (by decide +kernel) rfl, ⟨by decide, by decide, by decide +kernel⟩, by decide⟩, tb_of (i := 651) (by decide +kernel) rfl, tb_of (i := 652) (by decide +kernel) rfl⟩
theorem mkX4_empty : mokI yX4_empty cX4_empty 1 none 0 := ⟨⟨tb_of (i := 657) (by decide +kernel) rfl, tb_of (i := 76) (by decide +kernel) rfl, ⟨by decide, by decide, by decide +kernel⟩, by decide⟩, tb_of (i := 655) (by decide +kernel) rfl, tb_of (i := 656) (by decide +kernel) rfl⟩
theorem mkX5_does : mokI yX5_does cX5_does 3 (some .int) 0 := ⟨⟨tb_of (i := 661) (by decide +kernel) rfl, tb_of (i := 71) (by decide +kernel) rfl, ⟨by decide, by decide, by decide +kernel⟩, by decide⟩, tb_of (i := 659) (by decide +kernel) rfl, tb_of (i := 660) (by decide +kernel) rfl⟩
theorem mkX4_parse : mokI yX4_parse cX4_parse 2 (some .int) 0 := ⟨⟨tb_of (i := 665) (by decide +kernel) rfl, tb_of (i := 76) (by decide +kernel) rfl, ⟨by decide, by decide, by decide +kernel⟩, by decide⟩, tb_of (i := 663) (by decide +kernel) rfl, tb_of (i := 664) (by decide +kernel) rfl⟩
theorem mkX4_takes : mokI yX4_takes cX4_takes 2 (some .boolean) 1 := ⟨⟨tb_of (i := 670) (by decide +kernel) rfl, tb_of (i := 76) (by decide +kernel) rfl, ⟨by decide, by decide, by decide +kernel⟩, by decide⟩, tb_of (i := 669) (by decide +kernel) rfl, tb_of (i := 13) (by decide +kernel) rfl⟩
theorem mkX4_opens : mokI yX4_opens cX4_opens 2 (some .boolean) 1 := ⟨⟨tb_of (i := 674) (by decide +kernel) rfl, tb_of (i := 76) (by decide +kernel) rfl, ⟨by decide, by decide, by decide +kernel⟩, by decide⟩, tb_of (i := 673) (by decide +kernel) rfl, tb_of (i := 14) (by decide +kernel) rfl⟩
theorem mkX4_numbersOf : mokS yX4_numbersOf cX4_numbersOf 1 (some .int) 1 := ⟨⟨tb_of (i := 677) (by decide +kernel) rfl, tb_of (i := 76) (by decide +kernel) rfl, ⟨by decide, by decide, by decide +kernel⟩, by decide⟩, tb_of (i := 676) (by decide +kernel) rfl⟩
theorem mkX4_closes : mokI yX4_closes cX4_closes 1 (some .boolean) 0 := ⟨⟨tb_of (i := 681) (by decide +kernel) rfl, tb_of (i := 76) (by decide +kernel) rfl, ⟨by decide, by decide, by decide +kernel⟩, by decide⟩, tb_of (i := 680) (by decide +kernel) rfl, tb_of (i := 15) (by decide +kernel) rfl⟩
theorem mkX4_takesFigure : mokI yX4_takesFigure cX4_takesFigure 3 (some .boolean) 1 := ⟨⟨tb_of (i := 686) (by decide +kernel) rfl, tb_of (i := 76) (by decide +kernel) rfl, ⟨by decide, by decide, by decide +kernel⟩, by decide⟩, tb_of (i := 685) (by decide +kernel) rfl, tb_of (i := 16) (by decide +kernel) rfl⟩
theorem mkX4_apply : mokI yX4_apply cX4_apply 3 (some .int) 1 := ⟨⟨tb_of (i := 691) (by decide +kernel) rfl, tb_of (i := 76) (by decide +kernel) rfl, ⟨by decide, by decide, by decide +kernel⟩, by decide⟩, tb_of (i := 689) (by decide +kernel) rfl, tb_of (i := 690) (by decide +kernel) rfl⟩
theorem mkX4_applyOne : mokI yX4_applyOne cX4_applyOne 6 (some .int) 2 := ⟨⟨tb_of (i := 695) (by decide +kernel) rfl, tb_of (i := 76) (by decide +kernel) rfl, ⟨by decide, by decide, by decide +kernel⟩, by decide⟩, tb_of (i := 694) (by decide +kernel) rfl, tb_of (i := 17) (by decide +kernel) rfl⟩
theorem mkX4_orderCount : mokI yX4_orderCount cX4_orderCount 1 (some .int) 0 := ⟨⟨tb_of (i := 704) (by decide +kernel) rfl, tb_of (i := 76) (by decide +kernel) rfl, ⟨by decide, by decide, by decide +kernel⟩, by decide⟩, tb_of (i := 702) (by decide +kernel) rfl, tb_of (i := 703) (by decide +kernel) rfl⟩
theorem mkX5_back : mokI yX5_back cX5_back 1 (some .int) 0 := ⟨⟨tb_of (i := 708) (by decide +kernel) rfl, tb_of (i := 71) (by decide +kernel) rfl, ⟨by decide, by decide, by decide +kernel⟩, by decide⟩, tb_of (i := 706) (by decide +kernel) rfl, tb_of (i := 707) (by decide +kernel) rfl⟩
theorem mkX1_giveBack : mokI yX1_giveBack cX1_giveBack 4 (some .boolean) 1 := ⟨⟨tb_of (i := 712) (by decide +kernel) rfl, tb_of (i := 75) (by decide +kernel) rfl, ⟨by decide, by decide, by decide +kernel⟩, by decide⟩, tb_of (i := 710) (by decide +kernel) rfl, tb_of (i := 711) (by decide +kernel) rfl⟩
theorem mkX1_size : mokI yX1_size cX1_size 1 (some .int) 0 := ⟨⟨tb_of (i := 716) (by decide +kernel) rfl, tb_of (i := 75) (by decide +kernel) rfl, ⟨by decide, by decide, by decide +kernel⟩, by decide⟩, tb_of (i := 714) (by decide +kernel) rfl, tb_of (i := 715) (by decide +kernel) rfl⟩
theorem mkX5_told : mokI yX5_told cX5_told 2 (some .int) 1 := ⟨⟨tb_of (i := 720) (by decide +kernel) rfl, tb_of (i := 71) (by decide +kernel) rfl, ⟨by decide, by decide, by decide +kernel⟩, by decide⟩, tb_of (i := 718) (by decide +kernel) rfl, tb_of (i := 719) (by decide +kernel) rfl⟩
theorem mkX5_digest : mokI yX5_digest cX5_digest 5 (some .long) 0 := ⟨⟨tb_of (i := 724) (by decide +kernel) rfl, tb_of (i := 71) (by decide +kernel) rfl, ⟨by decide, by decide, by decide +kernel⟩, by decide⟩, tb_of (i := 722) (by decide +kernel) rfl, tb_of (i := 723) (by decide +kernel) rfl⟩
theorem mkX5_mixed : mokS yX5_mixed cX5_mixed 3 (some .long) 2 := ⟨⟨tb_of (i := 729) (by decide +kernel) rfl, tb_of (i := 71) (by decide +kernel) rfl, ⟨by decide, by decide, by decide +kernel⟩, by decide⟩, tb_of (i := 728) (by decide +kernel) rfl⟩
theorem mkX5_mixedLine : mokI yX5_mixedLine cX5_mixedLine 8 (some .long) 2 := ⟨⟨tb_of (i := 735) (by decide +kernel) rfl, tb_of (i := 71) (by decide +kernel) rfl, ⟨by decide, by decide, by decide +kernel⟩, by decide⟩, tb_of (i := 734) (by decide +kernel) rfl, tb_of (i := 18) (by decide +kernel) rfl⟩
theorem mkX5_mixedHumps : mokI yX5_mixedHumps cX5_mixedHumps 7 (some .long) 1 := ⟨⟨tb_of (i := 746) (by decide +kernel) rfl, tb_of (i := 71) (by decide +kernel) rfl, ⟨by decide, by decide, by decide +kernel⟩, by decide⟩, tb_of (i := 745) (by decide +kernel) rfl, tb_of (i := 19) (by decide +kernel) rfl⟩
theorem mkX6_back : mokI yX6_back cX6_back 1 (some .int) 0 := ⟨⟨tb_of (i := 802) (by decide +kernel) rfl, tb_of (i := 79) (by decide +kernel) rfl, ⟨by decide, by decide, by decide +kernel⟩, by decide⟩, tb_of (i := 800) (by decide +kernel) rfl, tb_of (i := 801) (by decide +kernel) rfl⟩
theorem mkX6_no : mokI yX6_no cX6_no 1 (some .int) 0 := ⟨⟨tb_of (i := 806) (by decide +kernel) rfl, tb_of (i := 79) (by decide +kernel) rfl, ⟨by decide, by decide, by decide +kernel⟩, by decide⟩, tb_of (i := 805) (by decide +kernel) rfl, tb_of (i := 20) (by decide +kernel) rfl⟩
theorem mkX6_takes : mokI yX6_takes cX6_takes 3 none 1 := ⟨⟨tb_of (i := 810) (by decide +kernel) rfl, tb_of (i := 79) (by decide +kernel) rfl, ⟨by decide, by decide, by decide +kernel⟩, by decide⟩, tb_of (i := 809) (by decide +kernel) rfl, tb_of (i := 21) (by decide +kernel) rfl⟩
theorem mkX6_line : mokI yX6_line cX6_line 2 (some .int) 1 := ⟨⟨tb_of (i := 814) (by decide +kernel) rfl, tb_of (i := 79) (by decide +kernel) rfl, ⟨by decide, by decide, by decide +kernel⟩, by decide⟩, tb_of (i := 812) (by decide +kernel) rfl, tb_of (i := 813) (by decide +kernel) rfl⟩
theorem mkX6_puts : mokI yX6_puts cX6_puts 3 none 1 := ⟨⟨tb_of (i := 818) (by decide +kernel) rfl, tb_of (i := 79) (by decide +kernel) rfl, ⟨by decide, by decide, by decide +kernel⟩, by decide⟩, tb_of (i := 817) (by decide +kernel) rfl, tb_of (i := 22) (by decide +kernel) rfl⟩
theorem mkX6_addLine : mokI yX6_addLine cX6_addLine 4 (some .int) 1 := ⟨⟨tb_of (i := 822) (by decide +kernel) rfl, tb_of (i := 79) (by decide +kernel) rfl, ⟨by decide, by decide, by decide +kernel⟩, by decide⟩, tb_of (i := 821) (by decide +kernel) rfl, tb_of (i := 23) (by decide +kernel) rfl⟩
theorem mkX6_in : mokS yX6_in cX6_in 3 (some .boolean) 3 := ⟨⟨tb_of (i := 825) (by decide +kernel) rfl, tb_of (i := 79) (by decide +kernel) rfl, ⟨by decide, by decide, by decide +kernel⟩, by decide⟩, tb_of (i := 824) (by decide +kernel) rfl⟩
theorem mkX6_done : mokI yX6_done cX6_done 2 (some .int) 1 := ⟨⟨tb_of (i := 829) (by decide +kernel) rfl, tb_of (i := 79) (by decide +kernel) rfl, ⟨by decide, by decide, by decide +kernel⟩, by decide⟩, tb_of (i := 828) (by decide +kernel) rfl, tb_of (i := 24) (by decide +kernel) rfl⟩
theorem mkX6_counted : mokI yX6_counted cX6_counted 2 (some .int) 1 := ⟨⟨tb_of (i := 833) (by decide +kernel) rfl, tb_of (i := 79) (by decide +kernel) rfl, ⟨by decide, by decide, by decide +kernel⟩, by decide⟩, tb_of (i := 832) (by decide +kernel) rfl, tb_of (i := 25) (by decide +kernel) rfl⟩
theorem mkX6_bad : mokI yX6_bad cX6_bad 1 (some .int) 0 := ⟨⟨tb_of (i := 837) (by decide +kernel) rfl, tb_of (i := 79) (by decide +kernel) rfl, ⟨by decide, by decide, by decide +kernel⟩, by decide⟩, tb_of (i := 836) (by decide +kernel) rfl, tb_of (i := 26) (by decide +kernel) rfl⟩
theorem mkX6_full : mokI yX6_full cX6_full 1 (some .int) 0 := ⟨⟨tb_of (i := 841) (by decide +kernel) rfl, tb_of (i := 79) (by decide +kernel) rfl, ⟨by decide, by decide, by decide +kernel⟩, by decide⟩, tb_of (i := 840) (by decide +kernel) rfl, tb_of (i := 27) (by decide +kernel) rfl⟩
theorem mkX6_leavesState : mokI yX6_leavesState cX6_leavesState 2 none 0 := ⟨⟨tb_of (i := 845) (by decide +kernel) rfl, tb_of (i := 79) (by decide +kernel) rfl, ⟨by decide, by decide, by decide +kernel⟩, by decide⟩, tb_of (i := 844) (by decide +kernel) rfl, tb_of (i := 28) (by decide +kernel) rfl⟩
theorem mkX6_goes : mokI yX6_goes cX6_goes 4 (some .int) 3 := ⟨⟨tb_of (i := 849) (by decide +kernel) rfl, tb_of (i := 79) (by decide +kernel) rfl, ⟨by decide, by decide, by decide +kernel⟩, by decide⟩, tb_of (i := 847) (by decide +kernel) rfl, tb_of (i := 848) (by decide +kernel) rfl⟩
theorem mkX6_addRun : mokI yX6_addRun cX6_addRun 5 (some .int) 3 := ⟨⟨tb_of (i := 853) (by decide +kernel) rfl, tb_of (i := 79) (by decide +kernel) rfl, ⟨by decide, by decide, by decide +kernel⟩, by decide⟩, tb_of (i := 852) (by decide +kernel) rfl, tb_of (i := 29) (by decide +kernel) rfl⟩
theorem mkX6_isLine : mokI yX6_isLine cX6_isLine 2 (some .boolean) 1 := ⟨⟨tb_of (i := 857) (by decide +kernel) rfl, tb_of (i := 79) (by decide +kernel) rfl, ⟨by decide, by decide, by decide +kernel⟩, by decide⟩, tb_of (i := 856) (by decide +kernel) rfl, tb_of (i := 30) (by decide +kernel) rfl⟩
theorem mkX6_runsOf : mokI yX6_runsOf cX6_runsOf 2 (some .int) 1 := ⟨⟨tb_of (i := 861) (by decide +kernel) rfl, tb_of (i := 79) (by decide +kernel) rfl, ⟨by decide, by decide, by decide +kernel⟩, by decide⟩, tb_of (i := 860) (by decide +kernel) rfl, tb_of (i := 31) (by decide +kernel) rfl⟩
theorem mkX6_shortens : mokI yX6_shortens cX6_shortens 2 (some .int) 1 := ⟨⟨tb_of (i := 865) (by decide +kernel) rfl, tb_of (i := 79) (by decide +kernel) rfl, ⟨by decide, by decide, by decide +kernel⟩, by decide⟩, tb_of (i := 863) (by decide +kernel) rfl, tb_of (i := 864) (by decide +kernel) rfl⟩
theorem mkX6_dropRun : mokI yX6_dropRun cX6_dropRun 2 (some .int) 1 := ⟨⟨tb_of (i := 869) (by decide +kernel) rfl, tb_of (i := 79) (by decide +kernel) rfl, ⟨by decide, by decide, by decide +kernel⟩, by decide⟩, tb_of (i := 868) (by decide +kernel) rfl, tb_of (i := 32) (by decide +kernel) rfl⟩
theorem mkX6_pocket : mokI yX6_pocket cX6_pocket 3 (some .int) 2 := ⟨⟨tb_of (i := 873) (by decide +kernel) rfl, tb_of (i := 79) (by decide +kernel) rfl, ⟨by decide, by decide, by decide +kernel⟩, by decide⟩, tb_of (i := 871) (by decide +kernel) rfl, tb_of (i := 872) (by decide +kernel) rfl⟩
theorem mkX6_addPocket : mokI yX6_addPocket cX6_addPocket 4 (some .int) 2 := ⟨⟨tb_of (i := 877) (by decide +kernel) rfl, tb_of (i := 79) (by decide +kernel) rfl, ⟨by decide, by decide, by decide +kernel⟩, by decide⟩, tb_of (i := 876) (by decide +kernel) rfl, tb_of (i := 33) (by decide +kernel) rfl⟩
theorem mkX6_widens : mokI yX6_widens cX6_widens 3 (some .int) 2 := ⟨⟨tb_of (i := 881) (by decide +kernel) rfl, tb_of (i := 79) (by decide +kernel) rfl, ⟨by decide, by decide, by decide +kernel⟩, by decide⟩, tb_of (i := 879) (by decide +kernel) rfl, tb_of (i := 880) (by decide +kernel) rfl⟩
theorem mkX6_setWide : mokI yX6_setWide cX6_setWide 3 (some .int) 2 := ⟨⟨tb_of (i := 885) (by decide +kernel) rfl, tb_of (i := 79) (by decide +kernel) rfl, ⟨by decide, by decide, by decide +kernel⟩, by decide⟩, tb_of (i := 884) (by decide +kernel) rfl, tb_of (i := 34) (by decide +kernel) rfl⟩
theorem mkX6_isPocket : mokI yX6_isPocket cX6_isPocket 2 (some .boolean) 1 := ⟨⟨tb_of (i := 889) (by decide +kernel) rfl, tb_of (i := 79) (by decide +kernel) rfl, ⟨by decide, by decide, by decide +kernel⟩, by decide⟩, tb_of (i := 888) (by decide +kernel) rfl, tb_of (i := 35) (by decide +kernel) rfl⟩
theorem mkX6_becomes : mokI yX6_becomes cX6_becomes 4 (some .int) 2 := ⟨⟨tb_of (i := 893) (by decide +kernel) rfl, tb_of (i := 79) (by decide +kernel) rfl, ⟨by decide, by decide, by decide +kernel⟩, by decide⟩, tb_of (i := 892) (by decide +kernel) rfl, tb_of (i := 36) (by decide +kernel) rfl⟩
theorem mkX6_touches : mokI yX6_touches cX6_touches 3 (some .int) 2 := ⟨⟨tb_of (i := 897) (by decide +kernel) rfl, tb_of (i := 79) (by decide +kernel) rfl, ⟨by decide, by decide, by decide +kernel⟩, by decide⟩, tb_of (i := 895) (by decide +kernel) rfl, tb_of (i := 896) (by decide +kernel) rfl⟩
theorem mkX6_setTouch : mokI yX6_setTouch cX6_setTouch 3 (some .int) 2 := ⟨⟨tb_of (i := 901) (by decide +kernel) rfl, tb_of (i := 79) (by decide +kernel) rfl, ⟨by decide, by decide, by decide +kernel⟩, by decide⟩, tb_of (i := 900) (by decide +kernel) rfl, tb_of (i := 37) (by decide +kernel) rfl⟩
theorem mkX6_sets : mokI yX6_sets cX6_sets 3 (some .int) 2 := ⟨⟨tb_of (i := 905) (by decide +kernel) rfl, tb_of (i := 79) (by decide +kernel) rfl, ⟨by decide, by decide, by decide +kernel⟩, by decide⟩, tb_of (i := 903) (by decide +kernel) rfl, tb_of (i := 904) (by decide +kernel) rfl⟩
theorem mkX6_setSetting : mokI yX6_setSetting cX6_setSetting 3 (some .int) 2 := ⟨⟨tb_of (i := 909) (by decide +kernel) rfl, tb_of (i := 79) (by decide +kernel) rfl, ⟨by decide, by decide, by decide +kernel⟩, by decide⟩, tb_of (i := 908) (by decide +kernel) rfl, tb_of (i := 38) (by decide +kernel) rfl⟩
theorem mkX6_leastOf : mokS yX6_leastOf cX6_leastOf 1 (some .int) 1 := ⟨⟨tb_of (i := 912) (by decide +kernel) rfl, tb_of (i := 79) (by decide +kernel) rfl, ⟨by decide, by decide, by decide +kernel⟩, by decide⟩, tb_of (i := 911) (by decide +kernel) rfl⟩
theorem mkX6_mostOf : mokS yX6_mostOf cX6_mostOf 1 (some .int) 1 := ⟨⟨tb_of (i := 915) (by decide +kernel) rfl, tb_of (i := 79) (by decide +kernel) rfl, ⟨by decide, by decide, by decide +kernel⟩, by decide⟩, tb_of (i := 914) (by decide +kernel) rfl⟩
theorem mkX6_of : mokI yX6_of cX6_of 3 (some .int) 2 := ⟨⟨tb_of (i := 919) (by decide +kernel) rfl, tb_of (i := 79) (by decide +kernel) rfl, ⟨by decide, by decide, by decide +kernel⟩, by decide⟩, tb_of (i := 917) (by decide +kernel) rfl, tb_of (i := 918) (by decide +kernel) rfl⟩
theorem mkX6_toldLine : mokI yX6_toldLine cX6_toldLine 3 (some .int) 2 := ⟨⟨tb_of (i := 923) (by decide +kernel) rfl, tb_of (i := 79) (by decide +kernel) rfl, ⟨by decide, by decide, by decide +kernel⟩, by decide⟩, tb_of (i := 922) (by decide +kernel) rfl, tb_of (i := 39) (by decide +kernel) rfl⟩
theorem mkX6_base : mokI yX6_base cX6_base 4 (some .int) 1 := ⟨⟨tb_of (i := 927) (by decide +kernel) rfl, tb_of (i := 79) (by decide +kernel) rfl, ⟨by decide, by decide, by decide +kernel⟩, by decide⟩, tb_of (i := 926) (by decide +kernel) rfl, tb_of (i := 40) (by decide +kernel) rfl⟩
theorem mkX6_longOf : mokI yX6_longOf cX6_longOf 3 (some .int) 2 := ⟨⟨tb_of (i := 931) (by decide +kernel) rfl, tb_of (i := 79) (by decide +kernel) rfl, ⟨by decide, by decide, by decide +kernel⟩, by decide⟩, tb_of (i := 930) (by decide +kernel) rfl, tb_of (i := 41) (by decide +kernel) rfl⟩
theorem mkX6_lack : mokI yX6_lack cX6_lack 4 (some .int) 2 := ⟨⟨tb_of (i := 935) (by decide +kernel) rfl, tb_of (i := 79) (by decide +kernel) rfl, ⟨by decide, by decide, by decide +kernel⟩, by decide⟩, tb_of (i := 934) (by decide +kernel) rfl, tb_of (i := 42) (by decide +kernel) rfl⟩
theorem mkX6_needBy : mokI yX6_needBy cX6_needBy 4 (some .int) 2 := ⟨⟨tb_of (i := 939) (by decide +kernel) rfl, tb_of (i := 79) (by decide +kernel) rfl, ⟨by decide, by decide, by decide +kernel⟩, by decide⟩, tb_of (i := 938) (by decide +kernel) rfl, tb_of (i := 43) (by decide +kernel) rfl⟩
theorem mkX6_gain : mokI yX6_gain cX6_gain 1 (some .int) 0 := ⟨⟨tb_of (i := 943) (by decide +kernel) rfl, tb_of (i := 79) (by decide +kernel) rfl, ⟨by decide, by decide, by decide +kernel⟩, by decide⟩, tb_of (i := 942) (by decide +kernel) rfl, tb_of (i := 44) (by decide +kernel) rfl⟩
theorem mkX6_pocketsOf : mokI yX6_pocketsOf cX6_pocketsOf 4 (some .int) 1 := ⟨⟨tb_of (i := 947) (by decide +kernel) rfl, tb_of (i := 79) (by decide +kernel) rfl, ⟨by decide, by decide, by decide +kernel⟩, by decide⟩, tb_of (i := 946) (by decide +kernel) rfl, tb_of (i := 45) (by decide +kernel) rfl⟩
theorem mkX6_turns : mokI yX6_turns cX6_turns 5 (some .int) 2 := ⟨⟨tb_of (i := 951) (by decide +kernel) rfl, tb_of (i := 79) (by decide +kernel) rfl, ⟨by decide, by decide, by decide +kernel⟩, by decide⟩, tb_of (i := 950) (by decide +kernel) rfl, tb_of (i := 46) (by decide +kernel) rfl⟩
theorem mkX6_turnOf : mokI yX6_turnOf cX6_turnOf 3 (some .int) 2 := ⟨⟨tb_of (i := 955) (by decide +kernel) rfl, tb_of (i := 79) (by decide +kernel) rfl, ⟨by decide, by decide, by decide +kernel⟩, by decide⟩, tb_of (i := 954) (by decide +kernel) rfl, tb_of (i := 47) (by decide +kernel) rfl⟩
theorem mkX6_run : mokI yX6_run cX6_run 4 (some .int) 3 := ⟨⟨tb_of (i := 959) (by decide +kernel) rfl, tb_of (i := 79) (by decide +kernel) rfl, ⟨by decide, by decide, by decide +kernel⟩, by decide⟩, tb_of (i := 957) (by decide +kernel) rfl, tb_of (i := 958) (by decide +kernel) rfl⟩
theorem mkX6_isRun : mokI yX6_isRun cX6_isRun 3 (some .boolean) 2 := ⟨⟨tb_of (i := 963) (by decide +kernel) rfl, tb_of (i := 79) (by decide +kernel) rfl, ⟨by decide, by decide, by decide +kernel⟩, by decide⟩, tb_of (i := 962) (by decide +kernel) rfl, tb_of (i := 48) (by decide +kernel) rfl⟩
theorem mkX6_toldRun : mokI yX6_toldRun cX6_toldRun 4 (some .int) 3 := ⟨⟨tb_of (i := 967) (by decide +kernel) rfl, tb_of (i := 79) (by decide +kernel) rfl, ⟨by decide, by decide, by decide +kernel⟩, by decide⟩, tb_of (i := 966) (by decide +kernel) rfl, tb_of (i := 49) (by decide +kernel) rfl⟩
theorem mkX6_can : mokI yX6_can cX6_can 2 (some .int) 1 := ⟨⟨tb_of (i := 971) (by decide +kernel) rfl, tb_of (i := 79) (by decide +kernel) rfl, ⟨by decide, by decide, by decide +kernel⟩, by decide⟩, tb_of (i := 969) (by decide +kernel) rfl, tb_of (i := 970) (by decide +kernel) rfl⟩
theorem mkX6_allCan : mokI yX6_allCan cX6_allCan 2 (some .boolean) 1 := ⟨⟨tb_of (i := 975) (by decide +kernel) rfl, tb_of (i := 79) (by decide +kernel) rfl, ⟨by decide, by decide, by decide +kernel⟩, by decide⟩, tb_of (i := 974) (by decide +kernel) rfl, tb_of (i := 50) (by decide +kernel) rfl⟩
theorem mkX6_lays : mokI yX6_lays cX6_lays 4 (some .boolean) 1 := ⟨⟨tb_of (i := 979) (by decide +kernel) rfl, tb_of (i := 79) (by decide +kernel) rfl, ⟨by decide, by decide, by decide +kernel⟩, by decide⟩, tb_of (i := 978) (by decide +kernel) rfl, tb_of (i := 51) (by decide +kernel) rfl⟩
theorem mkX6_humps : mokI yX6_humps cX6_humps 2 (some .int) 1 := ⟨⟨tb_of (i := 983) (by decide +kernel) rfl, tb_of (i := 79) (by decide +kernel) rfl, ⟨by decide, by decide, by decide +kernel⟩, by decide⟩, tb_of (i := 982) (by decide +kernel) rfl, tb_of (i := 52) (by decide +kernel) rfl⟩
theorem mkX6_areEnough : mokI yX6_areEnough cX6_areEnough 3 (some .boolean) 0 := ⟨⟨tb_of (i := 987) (by decide +kernel) rfl, tb_of (i := 79) (by decide +kernel) rfl, ⟨by decide, by decide, by decide +kernel⟩, by decide⟩, tb_of (i := 986) (by decide +kernel) rfl, tb_of (i := 53) (by decide +kernel) rfl⟩
theorem mkX6_isEnough : mokI yX6_isEnough cX6_isEnough 5 (some .boolean) 1 := ⟨⟨tb_of (i := 991) (by decide +kernel) rfl, tb_of (i := 79) (by decide +kernel) rfl, ⟨by decide, by decide, by decide +kernel⟩, by decide⟩, tb_of (i := 990) (by decide +kernel) rfl, tb_of (i := 54) (by decide +kernel) rfl⟩
theorem mkX6_least : mokI yX6_least cX6_least 1 (some .int) 0 := ⟨⟨tb_of (i := 995) (by decide +kernel) rfl, tb_of (i := 79) (by decide +kernel) rfl, ⟨by decide, by decide, by decide +kernel⟩, by decide⟩, tb_of (i := 993) (by decide +kernel) rfl, tb_of (i := 994) (by decide +kernel) rfl⟩
theorem mkX6_longest : mokI yX6_longest cX6_longest 3 (some .int) 0 := ⟨⟨tb_of (i := 999) (by decide +kernel) rfl, tb_of (i := 79) (by decide +kernel) rfl, ⟨by decide, by decide, by decide +kernel⟩, by decide⟩, tb_of (i := 998) (by decide +kernel) rfl, tb_of (i := 55) (by decide +kernel) rfl⟩
theorem mkX6_greatest : mokI yX6_greatest cX6_greatest 4 (some .int) 0 := ⟨⟨tb_of (i := 1003) (by decide +kernel) rfl, tb_of (i := 79) (by decide +kernel) rfl, ⟨by decide, by decide, by decide +kernel⟩, by decide⟩, tb_of (i := 1001) (by decide +kernel) rfl, tb_of (i := 1002) (by decide +kernel) rfl⟩
theorem mkX6_blocked : mokI yX6_blocked cX6_blocked 4 (some .int) 0 := ⟨⟨tb_of (i := 1007) (by decide +kernel) rfl, tb_of (i := 79) (by decide +kernel) rfl, ⟨by decide, by decide, by decide +kernel⟩, by decide⟩, tb_of (i := 1005) (by decide +kernel) rfl, tb_of (i := 1006) (by decide +kernel) rfl⟩
theorem mkX6_ones : mokS yX6_ones cX6_ones 3 (some .int) 1 := ⟨⟨tb_of (i := 1010) (by decide +kernel) rfl, tb_of (i := 79) (by decide +kernel) rfl, ⟨by decide, by decide, by decide +kernel⟩, by decide⟩, tb_of (i := 1009) (by decide +kernel) rfl⟩
theorem mkX6_more : mokI yX6_more cX6_more 4 (some .int) 0 := ⟨⟨tb_of (i := 1014) (by decide +kernel) rfl, tb_of (i := 79) (by decide +kernel) rfl, ⟨by decide, by decide, by decide +kernel⟩, by decide⟩, tb_of (i := 1012) (by decide +kernel) rfl, tb_of (i := 1013) (by decide +kernel) rfl⟩
theorem mkX6_allCanNow : mokI yX6_allCanNow cX6_allCanNow 1 (some .boolean) 0 := ⟨⟨tb_of (i := 1018) (by decide +kernel) rfl, tb_of (i := 79) (by decide +kernel) rfl, ⟨by decide, by decide, by decide +kernel⟩, by decide⟩, tb_of (i := 1017) (by decide +kernel) rfl, tb_of (i := 56) (by decide +kernel) rfl⟩
theorem mkX6_draws : mokI yX6_draws cX6_draws 3 (some .int) 2 := ⟨⟨tb_of (i := 1022) (by decide +kernel) rfl, tb_of (i := 79) (by decide +kernel) rfl, ⟨by decide, by decide, by decide +kernel⟩, by decide⟩, tb_of (i := 1020) (by decide +kernel) rfl, tb_of (i := 1021) (by decide +kernel) rfl⟩
theorem mkX6_draw : mokI yX6_draw cX6_draw 5 (some .boolean) 0 := ⟨⟨tb_of (i := 1026) (by decide +kernel) rfl, tb_of (i := 79) (by decide +kernel) rfl, ⟨by decide, by decide, by decide +kernel⟩, by decide⟩, tb_of (i := 1025) (by decide +kernel) rfl, tb_of (i := 57) (by decide +kernel) rfl⟩
theorem mkX6_length : mokI yX6_length cX6_length 2 (some .int) 1 := ⟨⟨tb_of (i := 1030) (by decide +kernel) rfl, tb_of (i := 79) (by decide +kernel) rfl, ⟨by decide, by decide, by decide +kernel⟩, by decide⟩, tb_of (i := 1028) (by decide +kernel) rfl, tb_of (i := 1029) (by decide +kernel) rfl⟩
theorem mkX6_about : mokI yX6_about cX6_about 3 (some .int) 2 := ⟨⟨tb_of (i := 1034) (by decide +kernel) rfl, tb_of (i := 79) (by decide +kernel) rfl, ⟨by decide, by decide, by decide +kernel⟩, by decide⟩, tb_of (i := 1032) (by decide +kernel) rfl, tb_of (i := 1033) (by decide +kernel) rfl⟩
theorem mkX6_toldPocket : mokI yX6_toldPocket cX6_toldPocket 3 (some .int) 2 := ⟨⟨tb_of (i := 1038) (by decide +kernel) rfl, tb_of (i := 79) (by decide +kernel) rfl, ⟨by decide, by decide, by decide +kernel⟩, by decide⟩, tb_of (i := 1037) (by decide +kernel) rfl, tb_of (i := 58) (by decide +kernel) rfl⟩
theorem mkX6_free : mokI yX6_free cX6_free 4 (some .int) 1 := ⟨⟨tb_of (i := 1042) (by decide +kernel) rfl, tb_of (i := 79) (by decide +kernel) rfl, ⟨by decide, by decide, by decide +kernel⟩, by decide⟩, tb_of (i := 1041) (by decide +kernel) rfl, tb_of (i := 59) (by decide +kernel) rfl⟩
theorem mkX6_setting : mokI yX6_setting cX6_setting 2 (some .int) 1 := ⟨⟨tb_of (i := 1046) (by decide +kernel) rfl, tb_of (i := 79) (by decide +kernel) rfl, ⟨by decide, by decide, by decide +kernel⟩, by decide⟩, tb_of (i := 1044) (by decide +kernel) rfl, tb_of (i := 1045) (by decide +kernel) rfl⟩
theorem mkX6_count : mokI yX6_count cX6_count 2 (some .int) 1 := ⟨⟨tb_of (i := 1050) (by decide +kernel) rfl, tb_of (i := 79) (by decide +kernel) rfl, ⟨by decide, by decide, by decide +kernel⟩, by decide⟩, tb_of (i := 1048) (by decide +kernel) rfl, tb_of (i := 1049) (by decide +kernel) rfl⟩
theorem mkX6_countOf : mokI yX6_countOf cX6_countOf 4 (some .int) 1 := ⟨⟨tb_of (i := 1054) (by decide +kernel) rfl, tb_of (i := 79) (by decide +kernel) rfl, ⟨by decide, by decide, by decide +kernel⟩, by decide⟩, tb_of (i := 1053) (by decide +kernel) rfl, tb_of (i := 60) (by decide +kernel) rfl⟩
theorem mkX6_skew : mokI yX6_skew cX6_skew 3 (some .int) 2 := ⟨⟨tb_of (i := 1058) (by decide +kernel) rfl, tb_of (i := 79) (by decide +kernel) rfl, ⟨by decide, by decide, by decide +kernel⟩, by decide⟩, tb_of (i := 1056) (by decide +kernel) rfl, tb_of (i := 1057) (by decide +kernel) rfl⟩
theorem mkX6_skewOf : mokI yX6_skewOf cX6_skewOf 5 (some .int) 2 := ⟨⟨tb_of (i := 1062) (by decide +kernel) rfl, tb_of (i := 79) (by decide +kernel) rfl, ⟨by decide, by decide, by decide +kernel⟩, by decide⟩, tb_of (i := 1061) (by decide +kernel) rfl, tb_of (i := 61) (by decide +kernel) rfl⟩
theorem mkX6_bumps : mokI yX6_bumps cX6_bumps 2 (some .int) 1 := ⟨⟨tb_of (i := 1066) (by decide +kernel) rfl, tb_of (i := 79) (by decide +kernel) rfl, ⟨by decide, by decide, by decide +kernel⟩, by decide⟩, tb_of (i := 1064) (by decide +kernel) rfl, tb_of (i := 1065) (by decide +kernel) rfl⟩
theorem mkX6_fewestBumps : mokI yX6_fewestBumps cX6_fewestBumps 11 (some .int) 1 := ⟨⟨tb_of (i := 1070) (by decide +kernel) rfl, tb_of (i := 79) (by decide +kernel) rfl, ⟨by decide, by decide, by decide +kernel⟩, by decide⟩, tb_of (i := 1069) (by decide +kernel) rfl, tb_of (i := 62) (by decide +kernel) rfl⟩
theorem mkX6_type : mokI yX6_type cX6_type 2 (some .int) 1 := ⟨⟨tb_of (i := 1074) (by decide +kernel) rfl, tb_of (i := 79) (by decide +kernel) rfl, ⟨by decide, by decide, by decide +kernel⟩, by decide⟩, tb_of (i := 1072) (by decide +kernel) rfl, tb_of (i := 1073) (by decide +kernel) rfl⟩
theorem mkX6_clear : mokI yX6_clear cX6_clear 2 (some .int) 0 := ⟨⟨tb_of (i := 1078) (by decide +kernel) rfl, tb_of (i := 79) (by decide +kernel) rfl, ⟨by decide, by decide, by decide +kernel⟩, by decide⟩, tb_of (i := 1076) (by decide +kernel) rfl, tb_of (i := 1077) (by decide +kernel) rfl⟩
theorem mkX6_does : mokI yX6_does cX6_does 4 (some .int) 0 := ⟨⟨tb_of (i := 1082) (by decide +kernel) rfl, tb_of (i := 79) (by decide +kernel) rfl, ⟨by decide, by decide, by decide +kernel⟩, by decide⟩, tb_of (i := 1080) (by decide +kernel) rfl, tb_of (i := 1081) (by decide +kernel) rfl⟩
theorem mkX6_blanks : mokI yX6_blanks cX6_blanks 1 none 0 := ⟨⟨tb_of (i := 1086) (by decide +kernel) rfl, tb_of (i := 79) (by decide +kernel) rfl, ⟨by decide, by decide, by decide +kernel⟩, by decide⟩, tb_of (i := 1085) (by decide +kernel) rfl, tb_of (i := 63) (by decide +kernel) rfl⟩
theorem mkX6_byteAt : mokI yX6_byteAt cX6_byteAt 2 (some .int) 1 := ⟨⟨tb_of (i := 1090) (by decide +kernel) rfl, tb_of (i := 79) (by decide +kernel) rfl, ⟨by decide, by decide, by decide +kernel⟩, by decide⟩, tb_of (i := 1089) (by decide +kernel) rfl, tb_of (i := 64) (by decide +kernel) rfl⟩
theorem mkX6_reads : mokI yX6_reads cX6_reads 5 (some .boolean) 0 := ⟨⟨tb_of (i := 1094) (by decide +kernel) rfl, tb_of (i := 79) (by decide +kernel) rfl, ⟨by decide, by decide, by decide +kernel⟩, by decide⟩, tb_of (i := 1093) (by decide +kernel) rfl, tb_of (i := 65) (by decide +kernel) rfl⟩
theorem mkX6_wants : mokS yX6_wants cX6_wants 1 (some .int) 1 := ⟨⟨tb_of (i := 1097) (by decide +kernel) rfl, tb_of (i := 79) (by decide +kernel) rfl, ⟨by decide, by decide, by decide +kernel⟩, by decide⟩, tb_of (i := 1096) (by decide +kernel) rfl⟩
theorem mkX6_number : mokI yX6_number cX6_number 3 (some .int) 0 := ⟨⟨tb_of (i := 1101) (by decide +kernel) rfl, tb_of (i := 79) (by decide +kernel) rfl, ⟨by decide, by decide, by decide +kernel⟩, by decide⟩, tb_of (i := 1100) (by decide +kernel) rfl, tb_of (i := 66) (by decide +kernel) rfl⟩
theorem mkX6_isFigure : mokI yX6_isFigure cX6_isFigure 2 (some .boolean) 1 := ⟨⟨tb_of (i := 1105) (by decide +kernel) rfl, tb_of (i := 79) (by decide +kernel) rfl, ⟨by decide, by decide, by decide +kernel⟩, by decide⟩, tb_of (i := 1104) (by decide +kernel) rfl, tb_of (i := 67) (by decide +kernel) rfl⟩
theorem mkX6_acted : mokI yX6_acted cX6_acted 5 (some .int) 1 := ⟨⟨tb_of (i := 1109) (by decide +kernel) rfl, tb_of (i := 79) (by decide +kernel) rfl, ⟨by decide, by decide, by decide +kernel⟩, by decide⟩, tb_of (i := 1108) (by decide +kernel) rfl, tb_of (i := 68) (by decide +kernel) rfl⟩
theorem mkX6_told : mokI yX6_told cX6_told 2 (some .int) 1 := ⟨⟨tb_of (i := 1113) (by decide +kernel) rfl, tb_of (i := 79) (by decide +kernel) rfl, ⟨by decide, by decide, by decide +kernel⟩, by decide⟩, tb_of (i := 1111) (by decide +kernel) rfl, tb_of (i := 1112) (by decide +kernel) rfl⟩
theorem mkX6_toldOf : mokI yX6_toldOf cX6_toldOf 2 (some .int) 1 := ⟨⟨tb_of (i := 1117) (by decide +kernel) rfl, tb_of (i := 79) (by decide +kernel) rfl, ⟨by decide, by decide, by decide +kernel⟩, by decide⟩, tb_of (i := 1116) (by decide +kernel) rfl, tb_of (i := 69) (by decide +kernel) rfl⟩
theorem mkX6_digest : mokI yX6_digest cX6_digest 6 (some .long) 0 := ⟨⟨tb_of (i := 1121) (by decide +kernel) rfl, tb_of (i := 79) (by decide +kernel) rfl, ⟨by decide, by decide, by decide +kernel⟩, by decide⟩, tb_of (i := 1119) (by decide +kernel) rfl, tb_of (i := 1120) (by decide +kernel) rfl⟩
theorem mm_ini : Cond.initialized "java/lang/Math" ∈ TB := tb_of (i := 73) (by decide +kernel) rfl
theorem sy_ini : Cond.initialized "java/lang/System" ∈ TB := tb_of (i := 74) (by decide +kernel) rfl
theorem sy_nat : Cond.native arraycopyName ∈ TB := tb_of (i := 106) (by decide +kernel) rfl
theorem sy_sta : Cond.static arraycopyName ∈ TB := tb_of (i := 105) (by decide +kernel) rfl
theorem nl_X4_67 : (RX4, 67, yX5_cell) ∈ nestM := by decide +kernel
theorem nl_X4_56 : (RX4, 56, yX5_within) ∈ nestM := by decide +kernel
theorem nl_X4_41 : (RX4, 41, yX5_at) ∈ nestM := by decide +kernel
theorem nl_X4_37 : (RX4, 37, yX5_put) ∈ nestM := by decide +kernel
theorem nl_X3_90 : (RX3, 90, yX5_cell) ∈ nestM := by decide +kernel
theorem nl_X3_78 : (RX3, 78, yX5_hasBit) ∈ nestM := by decide +kernel
theorem nl_X3_67 : (RX3, 67, yX5_at) ∈ nestM := by decide +kernel
theorem nl_X3_54 : (RX3, 54, yX5_put) ∈ nestM := by decide +kernel
theorem nl_X2_56 : (RX2, 56, yX5_at) ∈ nestM := by decide +kernel
theorem nl_X2_52 : (RX2, 52, yX5_copy) ∈ nestM := by decide +kernel
theorem nl_X2_25 : (RX2, 25, yX5_put) ∈ nestM := by decide +kernel
theorem nl_X0_70 : (RX0, 70, yX5_at) ∈ nestM := by decide +kernel
theorem nl_X0_52 : (RX0, 52, yX5_cell) ∈ nestM := by decide +kernel
theorem nl_X0_48 : (RX0, 48, yX5_put) ∈ nestM := by decide +kernel
theorem nl_X0_44 : (RX0, 44, yX5_within) ∈ nestM := by decide +kernel
theorem nl_X0_40 : (RX0, 40, yX5_copy) ∈ nestM := by decide +kernel
theorem nl_X0_105 : (RX0, 105, yX5_hasBit) ∈ nestM := by decide +kernel
