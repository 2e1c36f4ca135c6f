theorem mw_X0_init : MW yX0_init cX0_init 1 none 0 := ⟨mG 312 (by decide +kernel) rfl, mG 75 (by decide +kernel) rfl, (by decide +kernel), (by decide +kernel), (by decide +kernel)⟩
theorem nv_X0_init : Cond.instanceMethod yX0_init ∈ lwG := mG 311 (by decide +kernel) rfl
theorem mw_X0_settle : MW yX0_settle cX0_settle 9 none 6 := ⟨mG 743 (by decide +kernel) rfl, mG 75 (by decide +kernel) rfl, (by decide +kernel), (by decide +kernel), (by decide +kernel)⟩
theorem iv_X0_settle : Cond.instanceMethod yX0_settle ∈ lwG ∧ Cond.selects yX0_settle.cls yX0_settle yX0_settle ∈ lwG := ⟨mG 741 (by decide +kernel) rfl, mG 742 (by decide +kernel) rfl⟩
theorem mw_X0_settlePlace : MW yX0_settlePlace cX0_settlePlace 13 none 5 := ⟨mG 747 (by decide +kernel) rfl, mG 75 (by decide +kernel) rfl, (by decide +kernel), (by decide +kernel), (by decide +kernel)⟩
theorem iv_X0_settlePlace : Cond.instanceMethod yX0_settlePlace ∈ lwG ∧ Cond.selects yX0_settlePlace.cls yX0_settlePlace yX0_settlePlace ∈ lwG := ⟨mG 746 (by decide +kernel) rfl, mG 19 (by decide +kernel) rfl⟩
theorem mw_X1_init : MW yX1_init cX1_init 1 none 0 := ⟨mG 327 (by decide +kernel) rfl, mG 76 (by decide +kernel) rfl, (by decide +kernel), (by decide +kernel), (by decide +kernel)⟩
theorem nv_X1_init : Cond.instanceMethod yX1_init ∈ lwG := mG 326 (by decide +kernel) rfl
theorem mw_X1_survey : MW yX1_survey cX1_survey 5 none 1 := ⟨mG 758 (by decide +kernel) rfl, mG 76 (by decide +kernel) rfl, (by decide +kernel), (by decide +kernel), (by decide +kernel)⟩
theorem iv_X1_survey : Cond.instanceMethod yX1_survey ∈ lwG ∧ Cond.selects yX1_survey.cls yX1_survey yX1_survey ∈ lwG := ⟨mG 756 (by decide +kernel) rfl, mG 757 (by decide +kernel) rfl⟩
theorem mw_X1_pairsIn : MW yX1_pairsIn cX1_pairsIn 4 (some .int) 1 := ⟨mG 769 (by decide +kernel) rfl, mG 76 (by decide +kernel) rfl, (by decide +kernel), (by decide +kernel), (by decide +kernel)⟩
theorem iv_X1_pairsIn : Cond.instanceMethod yX1_pairsIn ∈ lwG ∧ Cond.selects yX1_pairsIn.cls yX1_pairsIn yX1_pairsIn ∈ lwG := ⟨mG 767 (by decide +kernel) rfl, mG 768 (by decide +kernel) rfl⟩
theorem mw_X1_wayBetween : MW yX1_wayBetween cX1_wayBetween 2 (some .int) 2 := ⟨mG 761 (by decide +kernel) rfl, mG 76 (by decide +kernel) rfl, (by decide +kernel), (by decide +kernel), (by decide +kernel)⟩
theorem sv_X1_wayBetween : Cond.static yX1_wayBetween ∈ lwG := mG 760 (by decide +kernel) rfl
theorem mw_X1_isFree : MW yX1_isFree cX1_isFree 5 (some .boolean) 4 := ⟨mG 764 (by decide +kernel) rfl, mG 76 (by decide +kernel) rfl, (by decide +kernel), (by decide +kernel), (by decide +kernel)⟩
theorem sv_X1_isFree : Cond.static yX1_isFree ∈ lwG := mG 763 (by decide +kernel) rfl
theorem mw_X2_init : MW yX2_init cX2_init 1 none 0 := ⟨mG 195 (by decide +kernel) rfl, mG 70 (by decide +kernel) rfl, (by decide +kernel), (by decide +kernel), (by decide +kernel)⟩
theorem nv_X2_init : Cond.instanceMethod yX2_init ∈ lwG := mG 194 (by decide +kernel) rfl
theorem mw_X2_begin : MW yX2_begin cX2_begin 2 none 1 := ⟨mG 501 (by decide +kernel) rfl, mG 70 (by decide +kernel) rfl, (by decide +kernel), (by decide +kernel), (by decide +kernel)⟩
theorem iv_X2_begin : Cond.instanceMethod yX2_begin ∈ lwG ∧ Cond.selects yX2_begin.cls yX2_begin yX2_begin ∈ lwG := ⟨mG 500 (by decide +kernel) rfl, mG 1 (by decide +kernel) rfl⟩
theorem mw_X2_play : MW yX2_play cX2_play 5 none 2 := ⟨mG 497 (by decide +kernel) rfl, mG 70 (by decide +kernel) rfl, (by decide +kernel), (by decide +kernel), (by decide +kernel)⟩
theorem iv_X2_play : Cond.instanceMethod yX2_play ∈ lwG ∧ Cond.selects yX2_play.cls yX2_play yX2_play ∈ lwG := ⟨mG 495 (by decide +kernel) rfl, mG 496 (by decide +kernel) rfl⟩
theorem mw_X2_playDraws : MW yX2_playDraws cX2_playDraws 6 none 3 := ⟨mG 859 (by decide +kernel) rfl, mG 70 (by decide +kernel) rfl, (by decide +kernel), (by decide +kernel), (by decide +kernel)⟩
theorem iv_X2_playDraws : Cond.instanceMethod yX2_playDraws ∈ lwG ∧ Cond.selects yX2_playDraws.cls yX2_playDraws yX2_playDraws ∈ lwG := ⟨mG 857 (by decide +kernel) rfl, mG 858 (by decide +kernel) rfl⟩
theorem mw_X2_leaveTo : MW yX2_leaveTo cX2_leaveTo 2 none 1 := ⟨mG 553 (by decide +kernel) rfl, mG 70 (by decide +kernel) rfl, (by decide +kernel), (by decide +kernel), (by decide +kernel)⟩
theorem iv_X2_leaveTo : Cond.instanceMethod yX2_leaveTo ∈ lwG ∧ Cond.selects yX2_leaveTo.cls yX2_leaveTo yX2_leaveTo ∈ lwG := ⟨mG 551 (by decide +kernel) rfl, mG 552 (by decide +kernel) rfl⟩
theorem mw_X2_knock : MW yX2_knock cX2_knock 4 (some .int) 3 := ⟨mG 511 (by decide +kernel) rfl, mG 70 (by decide +kernel) rfl, (by decide +kernel), (by decide +kernel), (by decide +kernel)⟩
theorem iv_X2_knock : Cond.instanceMethod yX2_knock ∈ lwG ∧ Cond.selects yX2_knock.cls yX2_knock yX2_knock ∈ lwG := ⟨mG 510 (by decide +kernel) rfl, mG 2 (by decide +kernel) rfl⟩
theorem mw_X2_happen : MW yX2_happen cX2_happen 3 (some .int) 2 := ⟨mG 516 (by decide +kernel) rfl, mG 70 (by decide +kernel) rfl, (by decide +kernel), (by decide +kernel), (by decide +kernel)⟩
theorem iv_X2_happen : Cond.instanceMethod yX2_happen ∈ lwG ∧ Cond.selects yX2_happen.cls yX2_happen yX2_happen ∈ lwG := ⟨mG 515 (by decide +kernel) rfl, mG 3 (by decide +kernel) rfl⟩
theorem mw_X2_hear : MW yX2_hear cX2_hear 5 none 2 := ⟨mG 529 (by decide +kernel) rfl, mG 70 (by decide +kernel) rfl, (by decide +kernel), (by decide +kernel), (by decide +kernel)⟩
theorem iv_X2_hear : Cond.instanceMethod yX2_hear ∈ lwG ∧ Cond.selects yX2_hear.cls yX2_hear yX2_hear ∈ lwG := ⟨mG 528 (by decide +kernel) rfl, mG 6 (by decide +kernel) rfl⟩
theorem mw_X2_thunder : MW yX2_thunder cX2_thunder 3 none 1 := ⟨mG 520 (by decide +kernel) rfl, mG 70 (by decide +kernel) rfl, (by decide +kernel), (by decide +kernel), (by decide +kernel)⟩
theorem iv_X2_thunder : Cond.instanceMethod yX2_thunder ∈ lwG ∧ Cond.selects yX2_thunder.cls yX2_thunder yX2_thunder ∈ lwG := ⟨mG 519 (by decide +kernel) rfl, mG 4 (by decide +kernel) rfl⟩
theorem mw_X2_rest : MW yX2_rest cX2_rest 2 none 1 := ⟨mG 524 (by decide +kernel) rfl, mG 70 (by decide +kernel) rfl, (by decide +kernel), (by decide +kernel), (by decide +kernel)⟩
theorem iv_X2_rest : Cond.instanceMethod yX2_rest ∈ lwG ∧ Cond.selects yX2_rest.cls yX2_rest yX2_rest ∈ lwG := ⟨mG 523 (by decide +kernel) rfl, mG 5 (by decide +kernel) rfl⟩
theorem mw_X3_init : MW yX3_init cX3_init 1 none 0 := ⟨mG 269 (by decide +kernel) rfl, mG 73 (by decide +kernel) rfl, (by decide +kernel), (by decide +kernel), (by decide +kernel)⟩
theorem nv_X3_init : Cond.instanceMethod yX3_init ∈ lwG := mG 268 (by decide +kernel) rfl
theorem mw_X3_fewestWords : MW yX3_fewestWords cX3_fewestWords 5 (some .int) 3 := ⟨mG 663 (by decide +kernel) rfl, mG 73 (by decide +kernel) rfl, (by decide +kernel), (by decide +kernel), (by decide +kernel)⟩
theorem iv_X3_fewestWords : Cond.instanceMethod yX3_fewestWords ∈ lwG ∧ Cond.selects yX3_fewestWords.cls yX3_fewestWords yX3_fewestWords ∈ lwG := ⟨mG 661 (by decide +kernel) rfl, mG 662 (by decide +kernel) rfl⟩
theorem mw_X3_isMet : MW yX3_isMet cX3_isMet 5 (some .boolean) 4 := ⟨mG 669 (by decide +kernel) rfl, mG 73 (by decide +kernel) rfl, (by decide +kernel), (by decide +kernel), (by decide +kernel)⟩
theorem sv_X3_isMet : Cond.static yX3_isMet ∈ lwG := mG 668 (by decide +kernel) rfl
theorem mw_X3_hear : MW yX3_hear cX3_hear 9 (some .boolean) 4 := ⟨mG 674 (by decide +kernel) rfl, mG 73 (by decide +kernel) rfl, (by decide +kernel), (by decide +kernel), (by decide +kernel)⟩
theorem iv_X3_hear : Cond.instanceMethod yX3_hear ∈ lwG ∧ Cond.selects yX3_hear.cls yX3_hear yX3_hear ∈ lwG := ⟨mG 673 (by decide +kernel) rfl, mG 12 (by decide +kernel) rfl⟩
theorem mw_X4_init : MW yX4_init cX4_init 1 none 0 := ⟨mG 176 (by decide +kernel) rfl, mG 69 (by decide +kernel) rfl, (by decide +kernel), (by decide +kernel), (by decide +kernel)⟩
theorem nv_X4_init : Cond.instanceMethod yX4_init ∈ lwG := mG 175 (by decide +kernel) rfl
theorem mw_X4_add : MW yX4_add cX4_add 2 (some .int) 1 := ⟨mG 434 (by decide +kernel) rfl, mG 69 (by decide +kernel) rfl, (by decide +kernel), (by decide +kernel), (by decide +kernel)⟩
theorem iv_X4_add : Cond.instanceMethod yX4_add ∈ lwG ∧ Cond.selects yX4_add.cls yX4_add yX4_add ∈ lwG := ⟨mG 432 (by decide +kernel) rfl, mG 433 (by decide +kernel) rfl⟩
theorem mw_X4_clear : MW yX4_clear cX4_clear 2 (some .int) 0 := ⟨mG 442 (by decide +kernel) rfl, mG 69 (by decide +kernel) rfl, (by decide +kernel), (by decide +kernel), (by decide +kernel)⟩
theorem iv_X4_clear : Cond.instanceMethod yX4_clear ∈ lwG ∧ Cond.selects yX4_clear.cls yX4_clear yX4_clear ∈ lwG := ⟨mG 440 (by decide +kernel) rfl, mG 441 (by decide +kernel) rfl⟩
theorem mw_X4_signAt : MW yX4_signAt cX4_signAt 2 (some .int) 1 := ⟨mG 472 (by decide +kernel) rfl, mG 69 (by decide +kernel) rfl, (by decide +kernel), (by decide +kernel), (by decide +kernel)⟩
theorem iv_X4_signAt : Cond.instanceMethod yX4_signAt ∈ lwG ∧ Cond.selects yX4_signAt.cls yX4_signAt yX4_signAt ∈ lwG := ⟨mG 470 (by decide +kernel) rfl, mG 471 (by decide +kernel) rfl⟩
theorem mw_X4_spellFault : MW yX4_spellFault cX4_spellFault 3 (some .int) 1 := ⟨mG 450 (by decide +kernel) rfl, mG 69 (by decide +kernel) rfl, (by decide +kernel), (by decide +kernel), (by decide +kernel)⟩
theorem iv_X4_spellFault : Cond.instanceMethod yX4_spellFault ∈ lwG ∧ Cond.selects yX4_spellFault.cls yX4_spellFault yX4_spellFault ∈ lwG := ⟨mG 448 (by decide +kernel) rfl, mG 449 (by decide +kernel) rfl⟩
theorem mw_X4_eveningFault : MW yX4_eveningFault cX4_eveningFault 5 (some .int) 1 := ⟨mG 455 (by decide +kernel) rfl, mG 69 (by decide +kernel) rfl, (by decide +kernel), (by decide +kernel), (by decide +kernel)⟩
theorem iv_X4_eveningFault : Cond.instanceMethod yX4_eveningFault ∈ lwG ∧ Cond.selects yX4_eveningFault.cls yX4_eveningFault yX4_eveningFault ∈ lwG := ⟨mG 453 (by decide +kernel) rfl, mG 454 (by decide +kernel) rfl⟩
theorem mw_X4_hasOnlyWords : MW yX4_hasOnlyWords cX4_hasOnlyWords 3 (some .boolean) 1 := ⟨mG 811 (by decide +kernel) rfl, mG 69 (by decide +kernel) rfl, (by decide +kernel), (by decide +kernel), (by decide +kernel)⟩
theorem iv_X4_hasOnlyWords : Cond.instanceMethod yX4_hasOnlyWords ∈ lwG ∧ Cond.selects yX4_hasOnlyWords.cls yX4_hasOnlyWords yX4_hasOnlyWords ∈ lwG := ⟨mG 809 (by decide +kernel) rfl, mG 810 (by decide +kernel) rfl⟩
theorem mw_X5_init : MW yX5_init cX5_init 1 none 0 := ⟨mG 230 (by decide +kernel) rfl, mG 71 (by decide +kernel) rfl, (by decide +kernel), (by decide +kernel), (by decide +kernel)⟩
theorem nv_X5_init : Cond.instanceMethod yX5_init ∈ lwG := mG 229 (by decide +kernel) rfl
theorem mw_X5_explore : MW yX5_explore cX5_explore 5 none 2 := ⟨mG 570 (by decide +kernel) rfl, mG 71 (by decide +kernel) rfl, (by decide +kernel), (by decide +kernel), (by decide +kernel)⟩
theorem iv_X5_explore : Cond.instanceMethod yX5_explore ∈ lwG ∧ Cond.selects yX5_explore.cls yX5_explore yX5_explore ∈ lwG := ⟨mG 568 (by decide +kernel) rfl, mG 569 (by decide +kernel) rfl⟩
theorem mw_X5_reach : MW yX5_reach cX5_reach 4 none 2 := ⟨mG 596 (by decide +kernel) rfl, mG 71 (by decide +kernel) rfl, (by decide +kernel), (by decide +kernel), (by decide +kernel)⟩
theorem iv_X5_reach : Cond.instanceMethod yX5_reach ∈ lwG ∧ Cond.selects yX5_reach.cls yX5_reach yX5_reach ∈ lwG := ⟨mG 595 (by decide +kernel) rfl, mG 8 (by decide +kernel) rfl⟩
theorem mw_X5_firstLooking : MW yX5_firstLooking cX5_firstLooking 5 (some .int) 2 := ⟨mG 628 (by decide +kernel) rfl, mG 71 (by decide +kernel) rfl, (by decide +kernel), (by decide +kernel), (by decide +kernel)⟩
theorem iv_X5_firstLooking : Cond.instanceMethod yX5_firstLooking ∈ lwG ∧ Cond.selects yX5_firstLooking.cls yX5_firstLooking yX5_firstLooking ∈ lwG := ⟨mG 626 (by decide +kernel) rfl, mG 627 (by decide +kernel) rfl⟩
theorem mw_X5_wordOfRow : MW yX5_wordOfRow cX5_wordOfRow 5 (some .int) 2 := ⟨mG 636 (by decide +kernel) rfl, mG 71 (by decide +kernel) rfl, (by decide +kernel), (by decide +kernel), (by decide +kernel)⟩
theorem iv_X5_wordOfRow : Cond.instanceMethod yX5_wordOfRow ∈ lwG ∧ Cond.selects yX5_wordOfRow.cls yX5_wordOfRow yX5_wordOfRow ∈ lwG := ⟨mG 634 (by decide +kernel) rfl, mG 635 (by decide +kernel) rfl⟩
theorem mw_X5_leastQuarters : MW yX5_leastQuarters cX5_leastQuarters 9 (some .int) 3 := ⟨mG 644 (by decide +kernel) rfl, mG 71 (by decide +kernel) rfl, (by decide +kernel), (by decide +kernel), (by decide +kernel)⟩
theorem iv_X5_leastQuarters : Cond.instanceMethod yX5_leastQuarters ∈ lwG ∧ Cond.selects yX5_leastQuarters.cls yX5_leastQuarters yX5_leastQuarters ∈ lwG := ⟨mG 642 (by decide +kernel) rfl, mG 643 (by decide +kernel) rfl⟩
theorem mw_X5_cheapen : MW yX5_cheapen cX5_cheapen 7 (some .int) 2 := ⟨mG 648 (by decide +kernel) rfl, mG 71 (by decide +kernel) rfl, (by decide +kernel), (by decide +kernel), (by decide +kernel)⟩
theorem iv_X5_cheapen : Cond.instanceMethod yX5_cheapen ∈ lwG ∧ Cond.selects yX5_cheapen.cls yX5_cheapen yX5_cheapen ∈ lwG := ⟨mG 647 (by decide +kernel) rfl, mG 11 (by decide +kernel) rfl⟩
theorem mw_X6_init : MW yX6_init cX6_init 1 none 0 := ⟨mG 290 (by decide +kernel) rfl, mG 74 (by decide +kernel) rfl, (by decide +kernel), (by decide +kernel), (by decide +kernel)⟩
theorem nv_X6_init : Cond.instanceMethod yX6_init ∈ lwG := mG 289 (by decide +kernel) rfl
theorem mw_X6_fewestMinutes : MW yX6_fewestMinutes cX6_fewestMinutes 8 (some .int) 4 := ⟨mG 700 (by decide +kernel) rfl, mG 74 (by decide +kernel) rfl, (by decide +kernel), (by decide +kernel), (by decide +kernel)⟩
theorem iv_X6_fewestMinutes : Cond.instanceMethod yX6_fewestMinutes ∈ lwG ∧ Cond.selects yX6_fewestMinutes.cls yX6_fewestMinutes yX6_fewestMinutes ∈ lwG := ⟨mG 698 (by decide +kernel) rfl, mG 699 (by decide +kernel) rfl⟩
theorem mw_X6_isServed : MW yX6_isServed cX6_isServed 3 (some .boolean) 1 := ⟨mG 725 (by decide +kernel) rfl, mG 74 (by decide +kernel) rfl, (by decide +kernel), (by decide +kernel), (by decide +kernel)⟩
theorem iv_X6_isServed : Cond.instanceMethod yX6_isServed ∈ lwG ∧ Cond.selects yX6_isServed.cls yX6_isServed yX6_isServed ∈ lwG := ⟨mG 724 (by decide +kernel) rfl, mG 17 (by decide +kernel) rfl⟩
theorem mw_X6_hear : MW yX6_hear cX6_hear 6 none 3 := ⟨mG 730 (by decide +kernel) rfl, mG 74 (by decide +kernel) rfl, (by decide +kernel), (by decide +kernel), (by decide +kernel)⟩
theorem iv_X6_hear : Cond.instanceMethod yX6_hear ∈ lwG ∧ Cond.selects yX6_hear.cls yX6_hear yX6_hear ∈ lwG := ⟨mG 729 (by decide +kernel) rfl, mG 18 (by decide +kernel) rfl⟩
theorem mw_X6_knockAll : MW yX6_knockAll cX6_knockAll 4 (some .boolean) 1 := ⟨mG 707 (by decide +kernel) rfl, mG 74 (by decide +kernel) rfl, (by decide +kernel), (by decide +kernel), (by decide +kernel)⟩
theorem iv_X6_knockAll : Cond.instanceMethod yX6_knockAll ∈ lwG ∧ Cond.selects yX6_knockAll.cls yX6_knockAll yX6_knockAll ∈ lwG := ⟨mG 706 (by decide +kernel) rfl, mG 15 (by decide +kernel) rfl⟩
theorem mw_X6_doorsAt : MW yX6_doorsAt cX6_doorsAt 4 (some .int) 1 := ⟨mG 711 (by decide +kernel) rfl, mG 74 (by decide +kernel) rfl, (by decide +kernel), (by decide +kernel), (by decide +kernel)⟩
theorem iv_X6_doorsAt : Cond.instanceMethod yX6_doorsAt ∈ lwG ∧ Cond.selects yX6_doorsAt.cls yX6_doorsAt yX6_doorsAt ∈ lwG := ⟨mG 710 (by decide +kernel) rfl, mG 16 (by decide +kernel) rfl⟩
theorem mw_X6_withDoors : MW yX6_withDoors cX6_withDoors 5 (some .int) 2 := ⟨mG 716 (by decide +kernel) rfl, mG 74 (by decide +kernel) rfl, (by decide +kernel), (by decide +kernel), (by decide +kernel)⟩
theorem sv_X6_withDoors : Cond.static yX6_withDoors ∈ lwG := mG 715 (by decide +kernel) rfl
theorem mw_X7_init : MW yX7_init cX7_init 1 none 0 := ⟨mG 236 (by decide +kernel) rfl, mG 72 (by decide +kernel) rfl, (by decide +kernel), (by decide +kernel), (by decide +kernel)⟩
theorem nv_X7_init : Cond.instanceMethod yX7_init ∈ lwG := mG 235 (by decide +kernel) rfl
theorem mw_X7_tabulate : MW yX7_tabulate cX7_tabulate 4 none 2 := ⟨mG 574 (by decide +kernel) rfl, mG 72 (by decide +kernel) rfl, (by decide +kernel), (by decide +kernel), (by decide +kernel)⟩
theorem iv_X7_tabulate : Cond.instanceMethod yX7_tabulate ∈ lwG ∧ Cond.selects yX7_tabulate.cls yX7_tabulate yX7_tabulate ∈ lwG := ⟨mG 572 (by decide +kernel) rfl, mG 573 (by decide +kernel) rfl⟩
theorem mw_X7_looksBehind : MW yX7_looksBehind cX7_looksBehind 3 (some .int) 2 := ⟨mG 600 (by decide +kernel) rfl, mG 72 (by decide +kernel) rfl, (by decide +kernel), (by decide +kernel), (by decide +kernel)⟩
theorem iv_X7_looksBehind : Cond.instanceMethod yX7_looksBehind ∈ lwG ∧ Cond.selects yX7_looksBehind.cls yX7_looksBehind yX7_looksBehind ∈ lwG := ⟨mG 598 (by decide +kernel) rfl, mG 599 (by decide +kernel) rfl⟩
theorem mw_X7_quartersOf : MW yX7_quartersOf cX7_quartersOf 3 (some .int) 2 := ⟨mG 652 (by decide +kernel) rfl, mG 72 (by decide +kernel) rfl, (by decide +kernel), (by decide +kernel), (by decide +kernel)⟩
theorem iv_X7_quartersOf : Cond.instanceMethod yX7_quartersOf ∈ lwG ∧ Cond.selects yX7_quartersOf.cls yX7_quartersOf yX7_quartersOf ∈ lwG := ⟨mG 650 (by decide +kernel) rfl, mG 651 (by decide +kernel) rfl⟩
theorem mw_X7_step : MW yX7_step cX7_step 3 (some .int) 2 := ⟨mG 604 (by decide +kernel) rfl, mG 72 (by decide +kernel) rfl, (by decide +kernel), (by decide +kernel), (by decide +kernel)⟩
theorem iv_X7_step : Cond.instanceMethod yX7_step ∈ lwG ∧ Cond.selects yX7_step.cls yX7_step yX7_step ∈ lwG := ⟨mG 603 (by decide +kernel) rfl, mG 9 (by decide +kernel) rfl⟩
theorem mw_X7_fill : MW yX7_fill cX7_fill 12 none 5 := ⟨mG 578 (by decide +kernel) rfl, mG 72 (by decide +kernel) rfl, (by decide +kernel), (by decide +kernel), (by decide +kernel)⟩
theorem sv_X7_fill : Cond.static yX7_fill ∈ lwG := mG 577 (by decide +kernel) rfl
theorem mw_X8_init : MW yX8_init cX8_init 1 none 0 := ⟨mG 346 (by decide +kernel) rfl, mG 77 (by decide +kernel) rfl, (by decide +kernel), (by decide +kernel), (by decide +kernel)⟩
theorem nv_X8_init : Cond.instanceMethod yX8_init ∈ lwG := mG 345 (by decide +kernel) rfl
theorem mw_X8_follow : MW yX8_follow cX8_follow 5 none 2 := ⟨mG 816 (by decide +kernel) rfl, mG 77 (by decide +kernel) rfl, (by decide +kernel), (by decide +kernel), (by decide +kernel)⟩
theorem iv_X8_follow : Cond.instanceMethod yX8_follow ∈ lwG ∧ Cond.selects yX8_follow.cls yX8_follow yX8_follow ∈ lwG := ⟨mG 814 (by decide +kernel) rfl, mG 815 (by decide +kernel) rfl⟩
theorem mw_X8_fits : MW yX8_fits cX8_fits 11 (some .boolean) 4 := ⟨mG 819 (by decide +kernel) rfl, mG 77 (by decide +kernel) rfl, (by decide +kernel), (by decide +kernel), (by decide +kernel)⟩
theorem sv_X8_fits : Cond.static yX8_fits ∈ lwG := mG 818 (by decide +kernel) rfl
theorem mw_X8_isSo : MW yX8_isSo cX8_isSo 5 (some .boolean) 4 := ⟨mG 822 (by decide +kernel) rfl, mG 77 (by decide +kernel) rfl, (by decide +kernel), (by decide +kernel), (by decide +kernel)⟩
theorem sv_X8_isSo : Cond.static yX8_isSo ∈ lwG := mG 821 (by decide +kernel) rfl
theorem mw_X8_isSeenLater : MW yX8_isSeenLater cX8_isSeenLater 4 (some .boolean) 3 := ⟨mG 829 (by decide +kernel) rfl, mG 77 (by decide +kernel) rfl, (by decide +kernel), (by decide +kernel), (by decide +kernel)⟩
theorem sv_X8_isSeenLater : Cond.static yX8_isSeenLater ∈ lwG := mG 828 (by decide +kernel) rfl
theorem mw_X9_init : MW yX9_init cX9_init 1 none 0 := ⟨mG 94 (by decide +kernel) rfl, mG 67 (by decide +kernel) rfl, (by decide +kernel), (by decide +kernel), (by decide +kernel)⟩
theorem nv_X9_init : Cond.instanceMethod yX9_init ∈ lwG := mG 93 (by decide +kernel) rfl
theorem mw_X9_plant : MW yX9_plant cX9_plant 3 none 1 := ⟨mG 99 (by decide +kernel) rfl, mG 67 (by decide +kernel) rfl, (by decide +kernel), (by decide +kernel), (by decide +kernel)⟩
theorem iv_X9_plant : Cond.instanceMethod yX9_plant ∈ lwG ∧ Cond.selects yX9_plant.cls yX9_plant yX9_plant ∈ lwG := ⟨mG 97 (by decide +kernel) rfl, mG 98 (by decide +kernel) rfl⟩
theorem mw_X9_copyFrom : MW yX9_copyFrom cX9_copyFrom 2 none 1 := ⟨mG 869 (by decide +kernel) rfl, mG 67 (by decide +kernel) rfl, (by decide +kernel), (by decide +kernel), (by decide +kernel)⟩
theorem iv_X9_copyFrom : Cond.instanceMethod yX9_copyFrom ∈ lwG ∧ Cond.selects yX9_copyFrom.cls yX9_copyFrom yX9_copyFrom ∈ lwG := ⟨mG 867 (by decide +kernel) rfl, mG 868 (by decide +kernel) rfl⟩
theorem mw_X9_hasHut : MW yX9_hasHut cX9_hasHut 2 (some .boolean) 1 := ⟨mG 407 (by decide +kernel) rfl, mG 67 (by decide +kernel) rfl, (by decide +kernel), (by decide +kernel), (by decide +kernel)⟩
theorem iv_X9_hasHut : Cond.instanceMethod yX9_hasHut ∈ lwG ∧ Cond.selects yX9_hasHut.cls yX9_hasHut yX9_hasHut ∈ lwG := ⟨mG 405 (by decide +kernel) rfl, mG 406 (by decide +kernel) rfl⟩
theorem mw_X9_hasSet : MW yX9_hasSet cX9_hasSet 2 (some .boolean) 1 := ⟨mG 624 (by decide +kernel) rfl, mG 67 (by decide +kernel) rfl, (by decide +kernel), (by decide +kernel), (by decide +kernel)⟩
theorem iv_X9_hasSet : Cond.instanceMethod yX9_hasSet ∈ lwG ∧ Cond.selects yX9_hasSet.cls yX9_hasSet yX9_hasSet ∈ lwG := ⟨mG 622 (by decide +kernel) rfl, mG 623 (by decide +kernel) rfl⟩
theorem mw_X9_hasLooks : MW yX9_hasLooks cX9_hasLooks 2 (some .boolean) 1 := ⟨mG 612 (by decide +kernel) rfl, mG 67 (by decide +kernel) rfl, (by decide +kernel), (by decide +kernel), (by decide +kernel)⟩
theorem iv_X9_hasLooks : Cond.instanceMethod yX9_hasLooks ∈ lwG ∧ Cond.selects yX9_hasLooks.cls yX9_hasLooks yX9_hasLooks ∈ lwG := ⟨mG 610 (by decide +kernel) rfl, mG 611 (by decide +kernel) rfl⟩
theorem mw_X9_knows : MW yX9_knows cX9_knows 2 (some .boolean) 1 := ⟨mG 486 (by decide +kernel) rfl, mG 67 (by decide +kernel) rfl, (by decide +kernel), (by decide +kernel), (by decide +kernel)⟩
theorem iv_X9_knows : Cond.instanceMethod yX9_knows ∈ lwG ∧ Cond.selects yX9_knows.cls yX9_knows yX9_knows ∈ lwG := ⟨mG 484 (by decide +kernel) rfl, mG 485 (by decide +kernel) rfl⟩
theorem mw_X9_knowsAll : MW yX9_knowsAll cX9_knowsAll 2 (some .boolean) 1 := ⟨mG 739 (by decide +kernel) rfl, mG 67 (by decide +kernel) rfl, (by decide +kernel), (by decide +kernel), (by decide +kernel)⟩
theorem iv_X9_knowsAll : Cond.instanceMethod yX9_knowsAll ∈ lwG ∧ Cond.selects yX9_knowsAll.cls yX9_knowsAll yX9_knowsAll ∈ lwG := ⟨mG 737 (by decide +kernel) rfl, mG 738 (by decide +kernel) rfl⟩
theorem mw_X9_isTaken : MW yX9_isTaken cX9_isTaken 4 (some .boolean) 2 := ⟨mG 418 (by decide +kernel) rfl, mG 67 (by decide +kernel) rfl, (by decide +kernel), (by decide +kernel), (by decide +kernel)⟩
theorem iv_X9_isTaken : Cond.instanceMethod yX9_isTaken ∈ lwG ∧ Cond.selects yX9_isTaken.cls yX9_isTaken yX9_isTaken ∈ lwG := ⟨mG 416 (by decide +kernel) rfl, mG 417 (by decide +kernel) rfl⟩
theorem mw_X9_alter : MW yX9_alter cX9_alter 6 (some .int) 3 := ⟨mG 422 (by decide +kernel) rfl, mG 67 (by decide +kernel) rfl, (by decide +kernel), (by decide +kernel), (by decide +kernel)⟩
theorem iv_X9_alter : Cond.instanceMethod yX9_alter ∈ lwG ∧ Cond.selects yX9_alter.cls yX9_alter yX9_alter ∈ lwG := ⟨mG 420 (by decide +kernel) rfl, mG 421 (by decide +kernel) rfl⟩
theorem mw_X9_rowOf : MW yX9_rowOf cX9_rowOf 2 (some (.array .int)) 1 := ⟨mG 426 (by decide +kernel) rfl, mG 67 (by decide +kernel) rfl, (by decide +kernel), (by decide +kernel), (by decide +kernel)⟩
theorem iv_X9_rowOf : Cond.instanceMethod yX9_rowOf ∈ lwG ∧ Cond.selects yX9_rowOf.cls yX9_rowOf yX9_rowOf ∈ lwG := ⟨mG 425 (by decide +kernel) rfl, mG 0 (by decide +kernel) rfl⟩
theorem mw_X9_addSight : MW yX9_addSight cX9_addSight 4 (some .int) 3 := ⟨mG 795 (by decide +kernel) rfl, mG 67 (by decide +kernel) rfl, (by decide +kernel), (by decide +kernel), (by decide +kernel)⟩
theorem iv_X9_addSight : Cond.instanceMethod yX9_addSight ∈ lwG ∧ Cond.selects yX9_addSight.cls yX9_addSight yX9_addSight ∈ lwG := ⟨mG 793 (by decide +kernel) rfl, mG 794 (by decide +kernel) rfl⟩
theorem mw_X9_number : MW yX9_number cX9_number 1 (some .int) 0 := ⟨mG 588 (by decide +kernel) rfl, mG 67 (by decide +kernel) rfl, (by decide +kernel), (by decide +kernel), (by decide +kernel)⟩
theorem iv_X9_number : Cond.instanceMethod yX9_number ∈ lwG ∧ Cond.selects yX9_number.cls yX9_number yX9_number ∈ lwG := ⟨mG 586 (by decide +kernel) rfl, mG 587 (by decide +kernel) rfl⟩
theorem mw_X9_quarters : MW yX9_quarters cX9_quarters 5 (some .int) 3 := ⟨mG 533 (by decide +kernel) rfl, mG 67 (by decide +kernel) rfl, (by decide +kernel), (by decide +kernel), (by decide +kernel)⟩
theorem iv_X9_quarters : Cond.instanceMethod yX9_quarters ∈ lwG ∧ Cond.selects yX9_quarters.cls yX9_quarters yX9_quarters ∈ lwG := ⟨mG 531 (by decide +kernel) rfl, mG 532 (by decide +kernel) rfl⟩
theorem mw_X9_turned : MW yX9_turned cX9_turned 4 (some .int) 3 := ⟨mG 537 (by decide +kernel) rfl, mG 67 (by decide +kernel) rfl, (by decide +kernel), (by decide +kernel), (by decide +kernel)⟩
theorem iv_X9_turned : Cond.instanceMethod yX9_turned ∈ lwG ∧ Cond.selects yX9_turned.cls yX9_turned yX9_turned ∈ lwG := ⟨mG 535 (by decide +kernel) rfl, mG 536 (by decide +kernel) rfl⟩
theorem mw_X10_init : MW yX10_init cX10_init 2 none 0 := ⟨mG 86 (by decide +kernel) rfl, mG 66 (by decide +kernel) rfl, (by decide +kernel), (by decide +kernel), (by decide +kernel)⟩
theorem nv_X10_init : Cond.instanceMethod yX10_init ∈ lwG := mG 85 (by decide +kernel) rfl
theorem mw_X10_huts : MW yX10_huts cX10_huts 3 (some .int) 1 := ⟨mG 398 (by decide +kernel) rfl, mG 66 (by decide +kernel) rfl, (by decide +kernel), (by decide +kernel), (by decide +kernel)⟩
theorem iv_X10_huts : Cond.instanceMethod yX10_huts ∈ lwG ∧ Cond.selects yX10_huts.cls yX10_huts yX10_huts ∈ lwG := ⟨mG 396 (by decide +kernel) rfl, mG 397 (by decide +kernel) rfl⟩
theorem mw_X10_hut : MW yX10_hut cX10_hut 4 (some .int) 3 := ⟨mG 403 (by decide +kernel) rfl, mG 66 (by decide +kernel) rfl, (by decide +kernel), (by decide +kernel), (by decide +kernel)⟩
theorem iv_X10_hut : Cond.instanceMethod yX10_hut ∈ lwG ∧ Cond.selects yX10_hut.cls yX10_hut yX10_hut ∈ lwG := ⟨mG 401 (by decide +kernel) rfl, mG 402 (by decide +kernel) rfl⟩
theorem mw_X10_say : MW yX10_say cX10_say 2 (some .int) 1 := ⟨mG 430 (by decide +kernel) rfl, mG 66 (by decide +kernel) rfl, (by decide +kernel), (by decide +kernel), (by decide +kernel)⟩
theorem iv_X10_say : Cond.instanceMethod yX10_say ∈ lwG ∧ Cond.selects yX10_say.cls yX10_say yX10_say ∈ lwG := ⟨mG 428 (by decide +kernel) rfl, mG 429 (by decide +kernel) rfl⟩
theorem mw_X10_wipe : MW yX10_wipe cX10_wipe 1 (some .int) 0 := ⟨mG 438 (by decide +kernel) rfl, mG 66 (by decide +kernel) rfl, (by decide +kernel), (by decide +kernel), (by decide +kernel)⟩
theorem iv_X10_wipe : Cond.instanceMethod yX10_wipe ∈ lwG ∧ Cond.selects yX10_wipe.cls yX10_wipe yX10_wipe ∈ lwG := ⟨mG 436 (by decide +kernel) rfl, mG 437 (by decide +kernel) rfl⟩
theorem mw_X10_fault : MW yX10_fault cX10_fault 2 (some .int) 1 := ⟨mG 446 (by decide +kernel) rfl, mG 66 (by decide +kernel) rfl, (by decide +kernel), (by decide +kernel), (by decide +kernel)⟩
theorem iv_X10_fault : Cond.instanceMethod yX10_fault ∈ lwG ∧ Cond.selects yX10_fault.cls yX10_fault yX10_fault ∈ lwG := ⟨mG 444 (by decide +kernel) rfl, mG 445 (by decide +kernel) rfl⟩
theorem mw_X10_word : MW yX10_word cX10_word 3 (some .int) 1 := ⟨mG 468 (by decide +kernel) rfl, mG 66 (by decide +kernel) rfl, (by decide +kernel), (by decide +kernel), (by decide +kernel)⟩
theorem iv_X10_word : Cond.instanceMethod yX10_word ∈ lwG ∧ Cond.selects yX10_word.cls yX10_word yX10_word ∈ lwG := ⟨mG 466 (by decide +kernel) rfl, mG 467 (by decide +kernel) rfl⟩
theorem mw_X10_unword : MW yX10_unword cX10_unword 2 (some .int) 1 := ⟨mG 482 (by decide +kernel) rfl, mG 66 (by decide +kernel) rfl, (by decide +kernel), (by decide +kernel), (by decide +kernel)⟩
theorem iv_X10_unword : Cond.instanceMethod yX10_unword ∈ lwG ∧ Cond.selects yX10_unword.cls yX10_unword yX10_unword ∈ lwG := ⟨mG 480 (by decide +kernel) rfl, mG 481 (by decide +kernel) rfl⟩
theorem mw_X10_judge : MW yX10_judge cX10_judge 2 (some .int) 1 := ⟨mG 493 (by decide +kernel) rfl, mG 66 (by decide +kernel) rfl, (by decide +kernel), (by decide +kernel), (by decide +kernel)⟩
theorem iv_X10_judge : Cond.instanceMethod yX10_judge ∈ lwG ∧ Cond.selects yX10_judge.cls yX10_judge yX10_judge ∈ lwG := ⟨mG 491 (by decide +kernel) rfl, mG 492 (by decide +kernel) rfl⟩
theorem mw_X10_behind : MW yX10_behind cX10_behind 4 (some .int) 2 := ⟨mG 541 (by decide +kernel) rfl, mG 66 (by decide +kernel) rfl, (by decide +kernel), (by decide +kernel), (by decide +kernel)⟩
theorem iv_X10_behind : Cond.instanceMethod yX10_behind ∈ lwG ∧ Cond.selects yX10_behind.cls yX10_behind yX10_behind ∈ lwG := ⟨mG 539 (by decide +kernel) rfl, mG 540 (by decide +kernel) rfl⟩
theorem mw_X10_done : MW yX10_done cX10_done 2 (some .int) 0 := ⟨mG 549 (by decide +kernel) rfl, mG 66 (by decide +kernel) rfl, (by decide +kernel), (by decide +kernel), (by decide +kernel)⟩
theorem iv_X10_done : Cond.instanceMethod yX10_done ∈ lwG ∧ Cond.selects yX10_done.cls yX10_done yX10_done ∈ lwG := ⟨mG 547 (by decide +kernel) rfl, mG 548 (by decide +kernel) rfl⟩
theorem mw_X10_state : MW yX10_state cX10_state 3 (some .int) 2 := ⟨mG 557 (by decide +kernel) rfl, mG 66 (by decide +kernel) rfl, (by decide +kernel), (by decide +kernel), (by decide +kernel)⟩
theorem iv_X10_state : Cond.instanceMethod yX10_state ∈ lwG ∧ Cond.selects yX10_state.cls yX10_state yX10_state ∈ lwG := ⟨mG 555 (by decide +kernel) rfl, mG 556 (by decide +kernel) rfl⟩
theorem mw_X10_bare : MW yX10_bare cX10_bare 4 (some .int) 2 := ⟨mG 561 (by decide +kernel) rfl, mG 66 (by decide +kernel) rfl, (by decide +kernel), (by decide +kernel), (by decide +kernel)⟩
theorem iv_X10_bare : Cond.instanceMethod yX10_bare ∈ lwG ∧ Cond.selects yX10_bare.cls yX10_bare yX10_bare ∈ lwG := ⟨mG 559 (by decide +kernel) rfl, mG 560 (by decide +kernel) rfl⟩
theorem mw_X10_reached : MW yX10_reached cX10_reached 1 (some .int) 0 := ⟨mG 566 (by decide +kernel) rfl, mG 66 (by decide +kernel) rfl, (by decide +kernel), (by decide +kernel), (by decide +kernel)⟩
theorem iv_X10_reached : Cond.instanceMethod yX10_reached ∈ lwG ∧ Cond.selects yX10_reached.cls yX10_reached yX10_reached ∈ lwG := ⟨mG 564 (by decide +kernel) rfl, mG 565 (by decide +kernel) rfl⟩
theorem mw_X10_can : MW yX10_can cX10_can 2 (some .int) 1 := ⟨mG 608 (by decide +kernel) rfl, mG 66 (by decide +kernel) rfl, (by decide +kernel), (by decide +kernel), (by decide +kernel)⟩
theorem iv_X10_can : Cond.instanceMethod yX10_can ∈ lwG ∧ Cond.selects yX10_can.cls yX10_can yX10_can ∈ lwG := ⟨mG 606 (by decide +kernel) rfl, mG 607 (by decide +kernel) rfl⟩
theorem mw_X10_spelled : MW yX10_spelled cX10_spelled 5 (some .int) 3 := ⟨mG 616 (by decide +kernel) rfl, mG 66 (by decide +kernel) rfl, (by decide +kernel), (by decide +kernel), (by decide +kernel)⟩
theorem iv_X10_spelled : Cond.instanceMethod yX10_spelled ∈ lwG ∧ Cond.selects yX10_spelled.cls yX10_spelled yX10_spelled ∈ lwG := ⟨mG 614 (by decide +kernel) rfl, mG 615 (by decide +kernel) rfl⟩
theorem mw_X10_tired : MW yX10_tired cX10_tired 3 (some .int) 2 := ⟨mG 640 (by decide +kernel) rfl, mG 66 (by decide +kernel) rfl, (by decide +kernel), (by decide +kernel), (by decide +kernel)⟩
theorem iv_X10_tired : Cond.instanceMethod yX10_tired ∈ lwG ∧ Cond.selects yX10_tired.cls yX10_tired yX10_tired ∈ lwG := ⟨mG 638 (by decide +kernel) rfl, mG 639 (by decide +kernel) rfl⟩
theorem mw_X10_able : MW yX10_able cX10_able 3 (some .int) 2 := ⟨mG 659 (by decide +kernel) rfl, mG 66 (by decide +kernel) rfl, (by decide +kernel), (by decide +kernel), (by decide +kernel)⟩
theorem iv_X10_able : Cond.instanceMethod yX10_able ∈ lwG ∧ Cond.selects yX10_able.cls yX10_able yX10_able ∈ lwG := ⟨mG 657 (by decide +kernel) rfl, mG 658 (by decide +kernel) rfl⟩
theorem mw_X10_without : MW yX10_without cX10_without 5 (some .int) 3 := ⟨mG 684 (by decide +kernel) rfl, mG 66 (by decide +kernel) rfl, (by decide +kernel), (by decide +kernel), (by decide +kernel)⟩
theorem iv_X10_without : Cond.instanceMethod yX10_without ∈ lwG ∧ Cond.selects yX10_without.cls yX10_without yX10_without ∈ lwG := ⟨mG 682 (by decide +kernel) rfl, mG 683 (by decide +kernel) rfl⟩
theorem mw_X10_round : MW yX10_round cX10_round 4 (some .int) 2 := ⟨mG 692 (by decide +kernel) rfl, mG 66 (by decide +kernel) rfl, (by decide +kernel), (by decide +kernel), (by decide +kernel)⟩
theorem iv_X10_round : Cond.instanceMethod yX10_round ∈ lwG ∧ Cond.selects yX10_round.cls yX10_round yX10_round ∈ lwG := ⟨mG 690 (by decide +kernel) rfl, mG 691 (by decide +kernel) rfl⟩
theorem mw_X10_two : MW yX10_two cX10_two 8 (some .int) 6 := ⟨mG 735 (by decide +kernel) rfl, mG 66 (by decide +kernel) rfl, (by decide +kernel), (by decide +kernel), (by decide +kernel)⟩
theorem iv_X10_two : Cond.instanceMethod yX10_two ∈ lwG ∧ Cond.selects yX10_two.cls yX10_two yX10_two ∈ lwG := ⟨mG 733 (by decide +kernel) rfl, mG 734 (by decide +kernel) rfl⟩
theorem mw_X10_pairs : MW yX10_pairs cX10_pairs 1 (some .int) 0 := ⟨mG 754 (by decide +kernel) rfl, mG 66 (by decide +kernel) rfl, (by decide +kernel), (by decide +kernel), (by decide +kernel)⟩
theorem iv_X10_pairs : Cond.instanceMethod yX10_pairs ∈ lwG ∧ Cond.selects yX10_pairs.cls yX10_pairs yX10_pairs ∈ lwG := ⟨mG 752 (by decide +kernel) rfl, mG 753 (by decide +kernel) rfl⟩
theorem mw_X10_danced : MW yX10_danced cX10_danced 3 (some .int) 1 := ⟨mG 774 (by decide +kernel) rfl, mG 66 (by decide +kernel) rfl, (by decide +kernel), (by decide +kernel), (by decide +kernel)⟩
theorem iv_X10_danced : Cond.instanceMethod yX10_danced ∈ lwG ∧ Cond.selects yX10_danced.cls yX10_danced yX10_danced ∈ lwG := ⟨mG 772 (by decide +kernel) rfl, mG 773 (by decide +kernel) rfl⟩
theorem mw_X10_elected : MW yX10_elected cX10_elected 4 (some .int) 0 := ⟨mG 778 (by decide +kernel) rfl, mG 66 (by decide +kernel) rfl, (by decide +kernel), (by decide +kernel), (by decide +kernel)⟩
theorem iv_X10_elected : Cond.instanceMethod yX10_elected ∈ lwG ∧ Cond.selects yX10_elected.cls yX10_elected yX10_elected ∈ lwG := ⟨mG 776 (by decide +kernel) rfl, mG 777 (by decide +kernel) rfl⟩
theorem mw_X10_majority : MW yX10_majority cX10_majority 3 (some .int) 1 := ⟨mG 787 (by decide +kernel) rfl, mG 66 (by decide +kernel) rfl, (by decide +kernel), (by decide +kernel), (by decide +kernel)⟩
theorem iv_X10_majority : Cond.instanceMethod yX10_majority ∈ lwG ∧ Cond.selects yX10_majority.cls yX10_majority yX10_majority ∈ lwG := ⟨mG 785 (by decide +kernel) rfl, mG 786 (by decide +kernel) rfl⟩
theorem mw_X10_seen : MW yX10_seen cX10_seen 4 (some .int) 3 := ⟨mG 791 (by decide +kernel) rfl, mG 66 (by decide +kernel) rfl, (by decide +kernel), (by decide +kernel), (by decide +kernel)⟩
theorem iv_X10_seen : Cond.instanceMethod yX10_seen ∈ lwG ∧ Cond.selects yX10_seen.cls yX10_seen yX10_seen ∈ lwG := ⟨mG 789 (by decide +kernel) rfl, mG 790 (by decide +kernel) rfl⟩
theorem mw_X10_forget : MW yX10_forget cX10_forget 2 (some .int) 0 := ⟨mG 799 (by decide +kernel) rfl, mG 66 (by decide +kernel) rfl, (by decide +kernel), (by decide +kernel), (by decide +kernel)⟩
theorem iv_X10_forget : Cond.instanceMethod yX10_forget ∈ lwG ∧ Cond.selects yX10_forget.cls yX10_forget yX10_forget ∈ lwG := ⟨mG 797 (by decide +kernel) rfl, mG 798 (by decide +kernel) rfl⟩
theorem mw_X10_tracks : MW yX10_tracks cX10_tracks 2 (some .int) 1 := ⟨mG 803 (by decide +kernel) rfl, mG 66 (by decide +kernel) rfl, (by decide +kernel), (by decide +kernel), (by decide +kernel)⟩
theorem iv_X10_tracks : Cond.instanceMethod yX10_tracks ∈ lwG ∧ Cond.selects yX10_tracks.cls yX10_tracks yX10_tracks ∈ lwG := ⟨mG 801 (by decide +kernel) rfl, mG 802 (by decide +kernel) rfl⟩
theorem mw_X10_looked : MW yX10_looked cX10_looked 2 (some .int) 1 := ⟨mG 835 (by decide +kernel) rfl, mG 66 (by decide +kernel) rfl, (by decide +kernel), (by decide +kernel), (by decide +kernel)⟩
theorem iv_X10_looked : Cond.instanceMethod yX10_looked ∈ lwG ∧ Cond.selects yX10_looked.cls yX10_looked yX10_looked ∈ lwG := ⟨mG 833 (by decide +kernel) rfl, mG 834 (by decide +kernel) rfl⟩
theorem mw_X10_storm : MW yX10_storm cX10_storm 12 (some .long) 5 := ⟨mG 839 (by decide +kernel) rfl, mG 66 (by decide +kernel) rfl, (by decide +kernel), (by decide +kernel), (by decide +kernel)⟩
theorem iv_X10_storm : Cond.instanceMethod yX10_storm ∈ lwG ∧ Cond.selects yX10_storm.cls yX10_storm yX10_storm ∈ lwG := ⟨mG 837 (by decide +kernel) rfl, mG 838 (by decide +kernel) rfl⟩
theorem mw_X10_ninety : MW yX10_ninety cX10_ninety 4 (some .int) 3 := ⟨mG 855 (by decide +kernel) rfl, mG 66 (by decide +kernel) rfl, (by decide +kernel), (by decide +kernel), (by decide +kernel)⟩
theorem iv_X10_ninety : Cond.instanceMethod yX10_ninety ∈ lwG ∧ Cond.selects yX10_ninety.cls yX10_ninety yX10_ninety ∈ lwG := ⟨mG 853 (by decide +kernel) rfl, mG 854 (by decide +kernel) rfl⟩
theorem mw_X10_image : MW yX10_image cX10_image 2 (some .int) 1 := ⟨mG 865 (by decide +kernel) rfl, mG 66 (by decide +kernel) rfl, (by decide +kernel), (by decide +kernel), (by decide +kernel)⟩
theorem iv_X10_image : Cond.instanceMethod yX10_image ∈ lwG ∧ Cond.selects yX10_image.cls yX10_image yX10_image ∈ lwG := ⟨mG 863 (by decide +kernel) rfl, mG 864 (by decide +kernel) rfl⟩
theorem mw_X10_restore : MW yX10_restore cX10_restore 2 (some .int) 1 := ⟨mG 874 (by decide +kernel) rfl, mG 66 (by decide +kernel) rfl, (by decide +kernel), (by decide +kernel), (by decide +kernel)⟩
theorem iv_X10_restore : Cond.instanceMethod yX10_restore ∈ lwG ∧ Cond.selects yX10_restore.cls yX10_restore yX10_restore ∈ lwG := ⟨mG 872 (by decide +kernel) rfl, mG 873 (by decide +kernel) rfl⟩
theorem mw_X10_told : MW yX10_told cX10_told 2 (some .int) 1 := ⟨mG 878 (by decide +kernel) rfl, mG 66 (by decide +kernel) rfl, (by decide +kernel), (by decide +kernel), (by decide +kernel)⟩
theorem iv_X10_told : Cond.instanceMethod yX10_told ∈ lwG ∧ Cond.selects yX10_told.cls yX10_told yX10_told ∈ lwG := ⟨mG 876 (by decide +kernel) rfl, mG 877 (by decide +kernel) rfl⟩
theorem mw_X10_toldOfHut : MW yX10_toldOfHut cX10_toldOfHut 3 (some .int) 2 := ⟨mG 882 (by decide +kernel) rfl, mG 66 (by decide +kernel) rfl, (by decide +kernel), (by decide +kernel), (by decide +kernel)⟩
theorem iv_X10_toldOfHut : Cond.instanceMethod yX10_toldOfHut ∈ lwG ∧ Cond.selects yX10_toldOfHut.cls yX10_toldOfHut yX10_toldOfHut ∈ lwG := ⟨mG 881 (by decide +kernel) rfl, mG 22 (by decide +kernel) rfl⟩
theorem mw_X10_toldOfWord : MW yX10_toldOfWord cX10_toldOfWord 3 (some .int) 2 := ⟨mG 886 (by decide +kernel) rfl, mG 66 (by decide +kernel) rfl, (by decide +kernel), (by decide +kernel), (by decide +kernel)⟩
theorem iv_X10_toldOfWord : Cond.instanceMethod yX10_toldOfWord ∈ lwG ∧ Cond.selects yX10_toldOfWord.cls yX10_toldOfWord yX10_toldOfWord ∈ lwG := ⟨mG 885 (by decide +kernel) rfl, mG 23 (by decide +kernel) rfl⟩
theorem mw_X10_playWhole : MW yX10_playWhole cX10_playWhole 1 (some .int) 0 := ⟨mG 545 (by decide +kernel) rfl, mG 66 (by decide +kernel) rfl, (by decide +kernel), (by decide +kernel), (by decide +kernel)⟩
theorem iv_X10_playWhole : Cond.instanceMethod yX10_playWhole ∈ lwG ∧ Cond.selects yX10_playWhole.cls yX10_playWhole yX10_playWhole ∈ lwG := ⟨mG 544 (by decide +kernel) rfl, mG 7 (by decide +kernel) rfl⟩
theorem mw_X10_isTrackable : MW yX10_isTrackable cX10_isTrackable 1 (some .boolean) 0 := ⟨mG 807 (by decide +kernel) rfl, mG 66 (by decide +kernel) rfl, (by decide +kernel), (by decide +kernel), (by decide +kernel)⟩
theorem iv_X10_isTrackable : Cond.instanceMethod yX10_isTrackable ∈ lwG ∧ Cond.selects yX10_isTrackable.cls yX10_isTrackable yX10_isTrackable ∈ lwG := ⟨mG 806 (by decide +kernel) rfl, mG 21 (by decide +kernel) rfl⟩
theorem mw_X10_isAim : MW yX10_isAim cX10_isAim 3 (some .boolean) 2 := ⟨mG 620 (by decide +kernel) rfl, mG 66 (by decide +kernel) rfl, (by decide +kernel), (by decide +kernel), (by decide +kernel)⟩
theorem iv_X10_isAim : Cond.instanceMethod yX10_isAim ∈ lwG ∧ Cond.selects yX10_isAim.cls yX10_isAim yX10_isAim ∈ lwG := ⟨mG 619 (by decide +kernel) rfl, mG 10 (by decide +kernel) rfl⟩
theorem mw_X10_fewestWords : MW yX10_fewestWords cX10_fewestWords 5 (some .int) 3 := ⟨mG 688 (by decide +kernel) rfl, mG 66 (by decide +kernel) rfl, (by decide +kernel), (by decide +kernel), (by decide +kernel)⟩
theorem iv_X10_fewestWords : Cond.instanceMethod yX10_fewestWords ∈ lwG ∧ Cond.selects yX10_fewestWords.cls yX10_fewestWords yX10_fewestWords ∈ lwG := ⟨mG 687 (by decide +kernel) rfl, mG 13 (by decide +kernel) rfl⟩
theorem mw_X10_votes : MW yX10_votes cX10_votes 5 (some .int) 2 := ⟨mG 782 (by decide +kernel) rfl, mG 66 (by decide +kernel) rfl, (by decide +kernel), (by decide +kernel), (by decide +kernel)⟩
theorem iv_X10_votes : Cond.instanceMethod yX10_votes ∈ lwG ∧ Cond.selects yX10_votes.cls yX10_votes yX10_votes ∈ lwG := ⟨mG 781 (by decide +kernel) rfl, mG 20 (by decide +kernel) rfl⟩
theorem mw_X10_looksOfSides : MW yX10_looksOfSides cX10_looksOfSides 6 (some .int) 2 := ⟨mG 696 (by decide +kernel) rfl, mG 66 (by decide +kernel) rfl, (by decide +kernel), (by decide +kernel), (by decide +kernel)⟩
theorem iv_X10_looksOfSides : Cond.instanceMethod yX10_looksOfSides ∈ lwG ∧ Cond.selects yX10_looksOfSides.cls yX10_looksOfSides yX10_looksOfSides ∈ lwG := ⟨mG 695 (by decide +kernel) rfl, mG 14 (by decide +kernel) rfl⟩
theorem mw_X10_mostOf : MW yX10_mostOf cX10_mostOf 1 (some .int) 1 := ⟨mG 414 (by decide +kernel) rfl, mG 66 (by decide +kernel) rfl, (by decide +kernel), (by decide +kernel), (by decide +kernel)⟩
theorem sv_X10_mostOf : Cond.static yX10_mostOf ∈ lwG := mG 413 (by decide +kernel) rfl
theorem mw_X10_isWithin : MW yX10_isWithin cX10_isWithin 3 (some .boolean) 3 := ⟨mG 410 (by decide +kernel) rfl, mG 66 (by decide +kernel) rfl, (by decide +kernel), (by decide +kernel), (by decide +kernel)⟩
theorem sv_X10_isWithin : Cond.static yX10_isWithin ∈ lwG := mG 409 (by decide +kernel) rfl
theorem mw_X10_isIn : MW yX10_isIn cX10_isIn 2 (some .boolean) 2 := ⟨mG 489 (by decide +kernel) rfl, mG 66 (by decide +kernel) rfl, (by decide +kernel), (by decide +kernel), (by decide +kernel)⟩
theorem sv_X10_isIn : Cond.static yX10_isIn ∈ lwG := mG 488 (by decide +kernel) rfl
theorem mw_X10_lookIn : MW yX10_lookIn cX10_lookIn 2 (some .int) 2 := ⟨mG 680 (by decide +kernel) rfl, mG 66 (by decide +kernel) rfl, (by decide +kernel), (by decide +kernel), (by decide +kernel)⟩
theorem sv_X10_lookIn : Cond.static yX10_lookIn ∈ lwG := mG 679 (by decide +kernel) rfl
theorem mw_X10_numberOf : MW yX10_numberOf cX10_numberOf 4 (some .int) 2 := ⟨mG 591 (by decide +kernel) rfl, mG 66 (by decide +kernel) rfl, (by decide +kernel), (by decide +kernel), (by decide +kernel)⟩
theorem sv_X10_numberOf : Cond.static yX10_numberOf ∈ lwG := mG 590 (by decide +kernel) rfl
theorem mw_X10_maskOf : MW yX10_maskOf cX10_maskOf 3 (some .int) 1 := ⟨mG 631 (by decide +kernel) rfl, mG 66 (by decide +kernel) rfl, (by decide +kernel), (by decide +kernel), (by decide +kernel)⟩
theorem sv_X10_maskOf : Cond.static yX10_maskOf ∈ lwG := mG 630 (by decide +kernel) rfl
theorem mw_X10_stormUpper : MW yX10_stormUpper cX10_stormUpper 10 (some .long) 3 := ⟨mG 844 (by decide +kernel) rfl, mG 66 (by decide +kernel) rfl, (by decide +kernel), (by decide +kernel), (by decide +kernel)⟩
theorem sv_X10_stormUpper : Cond.static yX10_stormUpper ∈ lwG := mG 843 (by decide +kernel) rfl
theorem mw_X10_commonDivisor : MW yX10_commonDivisor cX10_commonDivisor 11 (some .long) 2 := ⟨mG 848 (by decide +kernel) rfl, mG 66 (by decide +kernel) rfl, (by decide +kernel), (by decide +kernel), (by decide +kernel)⟩
theorem sv_X10_commonDivisor : Cond.static yX10_commonDivisor ∈ lwG := mG 847 (by decide +kernel) rfl
theorem mw_X10_wayOf : MW yX10_wayOf cX10_wayOf 1 (some .int) 1 := ⟨mG 458 (by decide +kernel) rfl, mG 66 (by decide +kernel) rfl, (by decide +kernel), (by decide +kernel), (by decide +kernel)⟩
theorem sv_X10_wayOf : Cond.static yX10_wayOf ∈ lwG := mG 457 (by decide +kernel) rfl
theorem mw_X10_isDigit : MW yX10_isDigit cX10_isDigit 1 (some .boolean) 1 := ⟨mG 461 (by decide +kernel) rfl, mG 66 (by decide +kernel) rfl, (by decide +kernel), (by decide +kernel), (by decide +kernel)⟩
theorem sv_X10_isDigit : Cond.static yX10_isDigit ∈ lwG := mG 460 (by decide +kernel) rfl
theorem mw_X10_isLetter : MW yX10_isLetter cX10_isLetter 1 (some .boolean) 1 := ⟨mG 464 (by decide +kernel) rfl, mG 66 (by decide +kernel) rfl, (by decide +kernel), (by decide +kernel), (by decide +kernel)⟩
theorem sv_X10_isLetter : Cond.static yX10_isLetter ∈ lwG := mG 463 (by decide +kernel) rfl
theorem mw_X11_init : MW yX11_init cX11_init 1 none 0 := ⟨mG 891 (by decide +kernel) rfl, mG 78 (by decide +kernel) rfl, (by decide +kernel), (by decide +kernel), (by decide +kernel)⟩
theorem nv_X11_init : Cond.instanceMethod yX11_init ∈ lwG := mG 890 (by decide +kernel) rfl
theorem mw_X11_in : MW yX11_in cX11_in 6 (some .boolean) 3 := ⟨mG 1029 (by decide +kernel) rfl, mG 78 (by decide +kernel) rfl, (by decide +kernel), (by decide +kernel), (by decide +kernel)⟩
theorem sv_X11_in : Cond.static yX11_in ∈ lwG := mG 1028 (by decide +kernel) rfl
theorem mw_X11_ones : MW yX11_ones cX11_ones 3 (some .int) 1 := ⟨mG 1081 (by decide +kernel) rfl, mG 78 (by decide +kernel) rfl, (by decide +kernel), (by decide +kernel), (by decide +kernel)⟩
theorem sv_X11_ones : Cond.static yX11_ones ∈ lwG := mG 1080 (by decide +kernel) rfl
theorem mw_X11_begin : MW yX11_begin cX11_begin 3 none 1 := ⟨mG 897 (by decide +kernel) rfl, mG 78 (by decide +kernel) rfl, (by decide +kernel), (by decide +kernel), (by decide +kernel)⟩
theorem iv_X11_begin : Cond.instanceMethod yX11_begin ∈ lwG ∧ Cond.selects yX11_begin.cls yX11_begin yX11_begin ∈ lwG := ⟨mG 896 (by decide +kernel) rfl, mG 24 (by decide +kernel) rfl⟩
theorem mw_X11_isHut : MW yX11_isHut cX11_isHut 2 (some .boolean) 1 := ⟨mG 1037 (by decide +kernel) rfl, mG 78 (by decide +kernel) rfl, (by decide +kernel), (by decide +kernel), (by decide +kernel)⟩
theorem iv_X11_isHut : Cond.instanceMethod yX11_isHut ∈ lwG ∧ Cond.selects yX11_isHut.cls yX11_isHut yX11_isHut ∈ lwG := ⟨mG 1036 (by decide +kernel) rfl, mG 25 (by decide +kernel) rfl⟩
theorem mw_X11_isWay : MW yX11_isWay cX11_isWay 1 (some .boolean) 1 := ⟨mG 1228 (by decide +kernel) rfl, mG 78 (by decide +kernel) rfl, (by decide +kernel), (by decide +kernel), (by decide +kernel)⟩
theorem sv_X11_isWay : Cond.static yX11_isWay ∈ lwG := mG 1227 (by decide +kernel) rfl
theorem mw_X11_isKnown : MW yX11_isKnown cX11_isKnown 2 (some .boolean) 1 := ⟨mG 1089 (by decide +kernel) rfl, mG 78 (by decide +kernel) rfl, (by decide +kernel), (by decide +kernel), (by decide +kernel)⟩
theorem iv_X11_isKnown : Cond.instanceMethod yX11_isKnown ∈ lwG ∧ Cond.selects yX11_isKnown.cls yX11_isKnown yX11_isKnown ∈ lwG := ⟨mG 1088 (by decide +kernel) rfl, mG 29 (by decide +kernel) rfl⟩
theorem mw_X11_huts : MW yX11_huts cX11_huts 3 (some .int) 1 := ⟨mG 1025 (by decide +kernel) rfl, mG 78 (by decide +kernel) rfl, (by decide +kernel), (by decide +kernel), (by decide +kernel)⟩
theorem iv_X11_huts : Cond.instanceMethod yX11_huts ∈ lwG ∧ Cond.selects yX11_huts.cls yX11_huts yX11_huts ∈ lwG := ⟨mG 1023 (by decide +kernel) rfl, mG 1024 (by decide +kernel) rfl⟩
theorem mw_X11_greatest : MW yX11_greatest cX11_greatest 1 (some .int) 1 := ⟨mG 1041 (by decide +kernel) rfl, mG 78 (by decide +kernel) rfl, (by decide +kernel), (by decide +kernel), (by decide +kernel)⟩
theorem sv_X11_greatest : Cond.static yX11_greatest ∈ lwG := mG 1040 (by decide +kernel) rfl
theorem mw_X11_isTaken : MW yX11_isTaken cX11_isTaken 5 (some .boolean) 2 := ⟨mG 1045 (by decide +kernel) rfl, mG 78 (by decide +kernel) rfl, (by decide +kernel), (by decide +kernel), (by decide +kernel)⟩
theorem iv_X11_isTaken : Cond.instanceMethod yX11_isTaken ∈ lwG ∧ Cond.selects yX11_isTaken.cls yX11_isTaken yX11_isTaken ∈ lwG := ⟨mG 1044 (by decide +kernel) rfl, mG 26 (by decide +kernel) rfl⟩
theorem mw_X11_hut : MW yX11_hut cX11_hut 5 (some .int) 3 := ⟨mG 1033 (by decide +kernel) rfl, mG 78 (by decide +kernel) rfl, (by decide +kernel), (by decide +kernel), (by decide +kernel)⟩
theorem iv_X11_hut : Cond.instanceMethod yX11_hut ∈ lwG ∧ Cond.selects yX11_hut.cls yX11_hut yX11_hut ∈ lwG := ⟨mG 1031 (by decide +kernel) rfl, mG 1032 (by decide +kernel) rfl⟩
theorem mw_X11_say : MW yX11_say cX11_say 2 (some .int) 1 := ⟨mG 1049 (by decide +kernel) rfl, mG 78 (by decide +kernel) rfl, (by decide +kernel), (by decide +kernel), (by decide +kernel)⟩
theorem iv_X11_say : Cond.instanceMethod yX11_say ∈ lwG ∧ Cond.selects yX11_say.cls yX11_say yX11_say ∈ lwG := ⟨mG 1047 (by decide +kernel) rfl, mG 1048 (by decide +kernel) rfl⟩
theorem mw_X11_wipe : MW yX11_wipe cX11_wipe 2 (some .int) 0 := ⟨mG 1055 (by decide +kernel) rfl, mG 78 (by decide +kernel) rfl, (by decide +kernel), (by decide +kernel), (by decide +kernel)⟩
theorem iv_X11_wipe : Cond.instanceMethod yX11_wipe ∈ lwG ∧ Cond.selects yX11_wipe.cls yX11_wipe yX11_wipe ∈ lwG := ⟨mG 1053 (by decide +kernel) rfl, mG 1054 (by decide +kernel) rfl⟩
theorem mw_X11_faultOfSpell : MW yX11_faultOfSpell cX11_faultOfSpell 2 (some .int) 0 := ⟨mG 1063 (by decide +kernel) rfl, mG 78 (by decide +kernel) rfl, (by decide +kernel), (by decide +kernel), (by decide +kernel)⟩
theorem iv_X11_faultOfSpell : Cond.instanceMethod yX11_faultOfSpell ∈ lwG ∧ Cond.selects yX11_faultOfSpell.cls yX11_faultOfSpell yX11_faultOfSpell ∈ lwG := ⟨mG 1062 (by decide +kernel) rfl, mG 27 (by decide +kernel) rfl⟩
theorem mw_X11_wayOf : MW yX11_wayOf cX11_wayOf 1 (some .int) 1 := ⟨mG 1072 (by decide +kernel) rfl, mG 78 (by decide +kernel) rfl, (by decide +kernel), (by decide +kernel), (by decide +kernel)⟩
theorem sv_X11_wayOf : Cond.static yX11_wayOf ∈ lwG := mG 1071 (by decide +kernel) rfl
theorem mw_X11_faultOfEvening : MW yX11_faultOfEvening cX11_faultOfEvening 5 (some .int) 0 := ⟨mG 1069 (by decide +kernel) rfl, mG 78 (by decide +kernel) rfl, (by decide +kernel), (by decide +kernel), (by decide +kernel)⟩
theorem iv_X11_faultOfEvening : Cond.instanceMethod yX11_faultOfEvening ∈ lwG ∧ Cond.selects yX11_faultOfEvening.cls yX11_faultOfEvening yX11_faultOfEvening ∈ lwG := ⟨mG 1068 (by decide +kernel) rfl, mG 28 (by decide +kernel) rfl⟩
theorem mw_X11_fault : MW yX11_fault cX11_fault 2 (some .int) 1 := ⟨mG 1059 (by decide +kernel) rfl, mG 78 (by decide +kernel) rfl, (by decide +kernel), (by decide +kernel), (by decide +kernel)⟩
theorem iv_X11_fault : Cond.instanceMethod yX11_fault ∈ lwG ∧ Cond.selects yX11_fault.cls yX11_fault yX11_fault ∈ lwG := ⟨mG 1057 (by decide +kernel) rfl, mG 1058 (by decide +kernel) rfl⟩
theorem mw_X11_word : MW yX11_word cX11_word 3 (some .int) 1 := ⟨mG 1078 (by decide +kernel) rfl, mG 78 (by decide +kernel) rfl, (by decide +kernel), (by decide +kernel), (by decide +kernel)⟩
theorem iv_X11_word : Cond.instanceMethod yX11_word ∈ lwG ∧ Cond.selects yX11_word.cls yX11_word yX11_word ∈ lwG := ⟨mG 1076 (by decide +kernel) rfl, mG 1077 (by decide +kernel) rfl⟩
theorem mw_X11_unword : MW yX11_unword cX11_unword 2 (some .int) 1 := ⟨mG 1085 (by decide +kernel) rfl, mG 78 (by decide +kernel) rfl, (by decide +kernel), (by decide +kernel), (by decide +kernel)⟩
theorem iv_X11_unword : Cond.instanceMethod yX11_unword ∈ lwG ∧ Cond.selects yX11_unword.cls yX11_unword yX11_unword ∈ lwG := ⟨mG 1083 (by decide +kernel) rfl, mG 1084 (by decide +kernel) rfl⟩
theorem mw_X11_heeds : MW yX11_heeds cX11_heeds 5 (some .int) 3 := ⟨mG 1117 (by decide +kernel) rfl, mG 78 (by decide +kernel) rfl, (by decide +kernel), (by decide +kernel), (by decide +kernel)⟩
theorem iv_X11_heeds : Cond.instanceMethod yX11_heeds ∈ lwG ∧ Cond.selects yX11_heeds.cls yX11_heeds yX11_heeds ∈ lwG := ⟨mG 1116 (by decide +kernel) rfl, mG 35 (by decide +kernel) rfl⟩
theorem mw_X11_turned : MW yX11_turned cX11_turned 4 (some .int) 3 := ⟨mG 1121 (by decide +kernel) rfl, mG 78 (by decide +kernel) rfl, (by decide +kernel), (by decide +kernel), (by decide +kernel)⟩
theorem iv_X11_turned : Cond.instanceMethod yX11_turned ∈ lwG ∧ Cond.selects yX11_turned.cls yX11_turned yX11_turned ∈ lwG := ⟨mG 1120 (by decide +kernel) rfl, mG 36 (by decide +kernel) rfl⟩
theorem mw_X11_sayWord : MW yX11_sayWord cX11_sayWord 5 none 1 := ⟨mG 1113 (by decide +kernel) rfl, mG 78 (by decide +kernel) rfl, (by decide +kernel), (by decide +kernel), (by decide +kernel)⟩
theorem iv_X11_sayWord : Cond.instanceMethod yX11_sayWord ∈ lwG ∧ Cond.selects yX11_sayWord.cls yX11_sayWord yX11_sayWord ∈ lwG := ⟨mG 1112 (by decide +kernel) rfl, mG 34 (by decide +kernel) rfl⟩
theorem mw_X11_thunder : MW yX11_thunder cX11_thunder 2 none 0 := ⟨mG 1125 (by decide +kernel) rfl, mG 78 (by decide +kernel) rfl, (by decide +kernel), (by decide +kernel), (by decide +kernel)⟩
theorem iv_X11_thunder : Cond.instanceMethod yX11_thunder ∈ lwG ∧ Cond.selects yX11_thunder.cls yX11_thunder yX11_thunder ∈ lwG := ⟨mG 1124 (by decide +kernel) rfl, mG 37 (by decide +kernel) rfl⟩
theorem mw_X11_night : MW yX11_night cX11_night 2 none 0 := ⟨mG 1129 (by decide +kernel) rfl, mG 78 (by decide +kernel) rfl, (by decide +kernel), (by decide +kernel), (by decide +kernel)⟩
theorem iv_X11_night : Cond.instanceMethod yX11_night ∈ lwG ∧ Cond.selects yX11_night.cls yX11_night yX11_night ∈ lwG := ⟨mG 1128 (by decide +kernel) rfl, mG 38 (by decide +kernel) rfl⟩
theorem mw_X11_keepNow : MW yX11_keepNow cX11_keepNow 2 none 0 := ⟨mG 1097 (by decide +kernel) rfl, mG 78 (by decide +kernel) rfl, (by decide +kernel), (by decide +kernel), (by decide +kernel)⟩
theorem iv_X11_keepNow : Cond.instanceMethod yX11_keepNow ∈ lwG ∧ Cond.selects yX11_keepNow.cls yX11_keepNow yX11_keepNow ∈ lwG := ⟨mG 1096 (by decide +kernel) rfl, mG 30 (by decide +kernel) rfl⟩
theorem mw_X11_putBack : MW yX11_putBack cX11_putBack 2 none 0 := ⟨mG 1133 (by decide +kernel) rfl, mG 78 (by decide +kernel) rfl, (by decide +kernel), (by decide +kernel), (by decide +kernel)⟩
theorem iv_X11_putBack : Cond.instanceMethod yX11_putBack ∈ lwG ∧ Cond.selects yX11_putBack.cls yX11_putBack yX11_putBack ∈ lwG := ⟨mG 1132 (by decide +kernel) rfl, mG 39 (by decide +kernel) rfl⟩
theorem mw_X11_happen : MW yX11_happen cX11_happen 2 none 1 := ⟨mG 1109 (by decide +kernel) rfl, mG 78 (by decide +kernel) rfl, (by decide +kernel), (by decide +kernel), (by decide +kernel)⟩
theorem iv_X11_happen : Cond.instanceMethod yX11_happen ∈ lwG ∧ Cond.selects yX11_happen.cls yX11_happen yX11_happen ∈ lwG := ⟨mG 1108 (by decide +kernel) rfl, mG 33 (by decide +kernel) rfl⟩
theorem mw_X11_whyNot : MW yX11_whyNot cX11_whyNot 2 (some .int) 1 := ⟨mG 1105 (by decide +kernel) rfl, mG 78 (by decide +kernel) rfl, (by decide +kernel), (by decide +kernel), (by decide +kernel)⟩
theorem iv_X11_whyNot : Cond.instanceMethod yX11_whyNot ∈ lwG ∧ Cond.selects yX11_whyNot.cls yX11_whyNot yX11_whyNot ∈ lwG := ⟨mG 1104 (by decide +kernel) rfl, mG 32 (by decide +kernel) rfl⟩
theorem mw_X11_goEvening : MW yX11_goEvening cX11_goEvening 3 none 0 := ⟨mG 1101 (by decide +kernel) rfl, mG 78 (by decide +kernel) rfl, (by decide +kernel), (by decide +kernel), (by decide +kernel)⟩
theorem iv_X11_goEvening : Cond.instanceMethod yX11_goEvening ∈ lwG ∧ Cond.selects yX11_goEvening.cls yX11_goEvening yX11_goEvening ∈ lwG := ⟨mG 1100 (by decide +kernel) rfl, mG 31 (by decide +kernel) rfl⟩
theorem mw_X11_judge : MW yX11_judge cX11_judge 2 (some .int) 1 := ⟨mG 1093 (by decide +kernel) rfl, mG 78 (by decide +kernel) rfl, (by decide +kernel), (by decide +kernel), (by decide +kernel)⟩
theorem iv_X11_judge : Cond.instanceMethod yX11_judge ∈ lwG ∧ Cond.selects yX11_judge.cls yX11_judge yX11_judge ∈ lwG := ⟨mG 1091 (by decide +kernel) rfl, mG 1092 (by decide +kernel) rfl⟩
theorem mw_X11_behind : MW yX11_behind cX11_behind 4 (some .int) 2 := ⟨mG 1137 (by decide +kernel) rfl, mG 78 (by decide +kernel) rfl, (by decide +kernel), (by decide +kernel), (by decide +kernel)⟩
theorem iv_X11_behind : Cond.instanceMethod yX11_behind ∈ lwG ∧ Cond.selects yX11_behind.cls yX11_behind yX11_behind ∈ lwG := ⟨mG 1135 (by decide +kernel) rfl, mG 1136 (by decide +kernel) rfl⟩
theorem mw_X11_done : MW yX11_done cX11_done 1 (some .int) 0 := ⟨mG 1141 (by decide +kernel) rfl, mG 78 (by decide +kernel) rfl, (by decide +kernel), (by decide +kernel), (by decide +kernel)⟩
theorem iv_X11_done : Cond.instanceMethod yX11_done ∈ lwG ∧ Cond.selects yX11_done.cls yX11_done yX11_done ∈ lwG := ⟨mG 1139 (by decide +kernel) rfl, mG 1140 (by decide +kernel) rfl⟩
theorem mw_X11_state : MW yX11_state cX11_state 3 (some .int) 2 := ⟨mG 1145 (by decide +kernel) rfl, mG 78 (by decide +kernel) rfl, (by decide +kernel), (by decide +kernel), (by decide +kernel)⟩
theorem iv_X11_state : Cond.instanceMethod yX11_state ∈ lwG ∧ Cond.selects yX11_state.cls yX11_state yX11_state ∈ lwG := ⟨mG 1143 (by decide +kernel) rfl, mG 1144 (by decide +kernel) rfl⟩
theorem mw_X11_bare : MW yX11_bare cX11_bare 4 (some .int) 2 := ⟨mG 1149 (by decide +kernel) rfl, mG 78 (by decide +kernel) rfl, (by decide +kernel), (by decide +kernel), (by decide +kernel)⟩
theorem iv_X11_bare : Cond.instanceMethod yX11_bare ∈ lwG ∧ Cond.selects yX11_bare.cls yX11_bare yX11_bare ∈ lwG := ⟨mG 1147 (by decide +kernel) rfl, mG 1148 (by decide +kernel) rfl⟩
theorem mw_X11_all : MW yX11_all cX11_all 1 (some .int) 0 := ⟨mG 1180 (by decide +kernel) rfl, mG 78 (by decide +kernel) rfl, (by decide +kernel), (by decide +kernel), (by decide +kernel)⟩
theorem iv_X11_all : Cond.instanceMethod yX11_all ∈ lwG ∧ Cond.selects yX11_all.cls yX11_all yX11_all ∈ lwG := ⟨mG 1179 (by decide +kernel) rfl, mG 44 (by decide +kernel) rfl⟩
theorem mw_X11_lookNow : MW yX11_lookNow cX11_lookNow 3 (some .int) 0 := ⟨mG 1161 (by decide +kernel) rfl, mG 78 (by decide +kernel) rfl, (by decide +kernel), (by decide +kernel), (by decide +kernel)⟩
theorem iv_X11_lookNow : Cond.instanceMethod yX11_lookNow ∈ lwG ∧ Cond.selects yX11_lookNow.cls yX11_lookNow yX11_lookNow ∈ lwG := ⟨mG 1160 (by decide +kernel) rfl, mG 41 (by decide +kernel) rfl⟩
theorem mw_X11_wayIn : MW yX11_wayIn cX11_wayIn 2 (some .int) 2 := ⟨mG 1168 (by decide +kernel) rfl, mG 78 (by decide +kernel) rfl, (by decide +kernel), (by decide +kernel), (by decide +kernel)⟩
theorem sv_X11_wayIn : Cond.static yX11_wayIn ∈ lwG := mG 1167 (by decide +kernel) rfl
theorem mw_X11_saidTo : MW yX11_saidTo cX11_saidTo 6 (some .int) 2 := ⟨mG 1165 (by decide +kernel) rfl, mG 78 (by decide +kernel) rfl, (by decide +kernel), (by decide +kernel), (by decide +kernel)⟩
theorem iv_X11_saidTo : Cond.instanceMethod yX11_saidTo ∈ lwG ∧ Cond.selects yX11_saidTo.cls yX11_saidTo yX11_saidTo ∈ lwG := ⟨mG 1164 (by decide +kernel) rfl, mG 42 (by decide +kernel) rfl⟩
theorem mw_X11_quartersOf : MW yX11_quartersOf cX11_quartersOf 5 (some .int) 2 := ⟨mG 1205 (by decide +kernel) rfl, mG 78 (by decide +kernel) rfl, (by decide +kernel), (by decide +kernel), (by decide +kernel)⟩
theorem iv_X11_quartersOf : Cond.instanceMethod yX11_quartersOf ∈ lwG ∧ Cond.selects yX11_quartersOf.cls yX11_quartersOf yX11_quartersOf ∈ lwG := ⟨mG 1204 (by decide +kernel) rfl, mG 48 (by decide +kernel) rfl⟩
theorem mw_X11_spread : MW yX11_spread cX11_spread 5 none 1 := ⟨mG 1157 (by decide +kernel) rfl, mG 78 (by decide +kernel) rfl, (by decide +kernel), (by decide +kernel), (by decide +kernel)⟩
theorem iv_X11_spread : Cond.instanceMethod yX11_spread ∈ lwG ∧ Cond.selects yX11_spread.cls yX11_spread yX11_spread ∈ lwG := ⟨mG 1156 (by decide +kernel) rfl, mG 40 (by decide +kernel) rfl⟩
theorem mw_X11_reached : MW yX11_reached cX11_reached 1 (some .int) 0 := ⟨mG 1153 (by decide +kernel) rfl, mG 78 (by decide +kernel) rfl, (by decide +kernel), (by decide +kernel), (by decide +kernel)⟩
theorem iv_X11_reached : Cond.instanceMethod yX11_reached ∈ lwG ∧ Cond.selects yX11_reached.cls yX11_reached yX11_reached ∈ lwG := ⟨mG 1151 (by decide +kernel) rfl, mG 1152 (by decide +kernel) rfl⟩
theorem mw_X11_isNumber : MW yX11_isNumber cX11_isNumber 2 (some .boolean) 1 := ⟨mG 1176 (by decide +kernel) rfl, mG 78 (by decide +kernel) rfl, (by decide +kernel), (by decide +kernel), (by decide +kernel)⟩
theorem iv_X11_isNumber : Cond.instanceMethod yX11_isNumber ∈ lwG ∧ Cond.selects yX11_isNumber.cls yX11_isNumber yX11_isNumber ∈ lwG := ⟨mG 1175 (by decide +kernel) rfl, mG 43 (by decide +kernel) rfl⟩
theorem mw_X11_can : MW yX11_can cX11_can 2 (some .int) 1 := ⟨mG 1172 (by decide +kernel) rfl, mG 78 (by decide +kernel) rfl, (by decide +kernel), (by decide +kernel), (by decide +kernel)⟩
theorem iv_X11_can : Cond.instanceMethod yX11_can ∈ lwG ∧ Cond.selects yX11_can.cls yX11_can yX11_can ∈ lwG := ⟨mG 1170 (by decide +kernel) rfl, mG 1171 (by decide +kernel) rfl⟩
theorem mw_X11_isSet : MW yX11_isSet cX11_isSet 2 (some .boolean) 1 := ⟨mG 1188 (by decide +kernel) rfl, mG 78 (by decide +kernel) rfl, (by decide +kernel), (by decide +kernel), (by decide +kernel)⟩
theorem iv_X11_isSet : Cond.instanceMethod yX11_isSet ∈ lwG ∧ Cond.selects yX11_isSet.cls yX11_isSet yX11_isSet ∈ lwG := ⟨mG 1187 (by decide +kernel) rfl, mG 45 (by decide +kernel) rfl⟩
theorem mw_X11_isSo : MW yX11_isSo cX11_isSo 6 (some .boolean) 3 := ⟨mG 1196 (by decide +kernel) rfl, mG 78 (by decide +kernel) rfl, (by decide +kernel), (by decide +kernel), (by decide +kernel)⟩
theorem iv_X11_isSo : Cond.instanceMethod yX11_isSo ∈ lwG ∧ Cond.selects yX11_isSo.cls yX11_isSo yX11_isSo ∈ lwG := ⟨mG 1195 (by decide +kernel) rfl, mG 47 (by decide +kernel) rfl⟩
theorem mw_X11_firstSo : MW yX11_firstSo cX11_firstSo 5 (some .int) 3 := ⟨mG 1192 (by decide +kernel) rfl, mG 78 (by decide +kernel) rfl, (by decide +kernel), (by decide +kernel), (by decide +kernel)⟩
theorem iv_X11_firstSo : Cond.instanceMethod yX11_firstSo ∈ lwG ∧ Cond.selects yX11_firstSo.cls yX11_firstSo yX11_firstSo ∈ lwG := ⟨mG 1191 (by decide +kernel) rfl, mG 46 (by decide +kernel) rfl⟩
theorem mw_X11_spelled : MW yX11_spelled cX11_spelled 6 (some .int) 3 := ⟨mG 1184 (by decide +kernel) rfl, mG 78 (by decide +kernel) rfl, (by decide +kernel), (by decide +kernel), (by decide +kernel)⟩
theorem iv_X11_spelled : Cond.instanceMethod yX11_spelled ∈ lwG ∧ Cond.selects yX11_spelled.cls yX11_spelled yX11_spelled ∈ lwG := ⟨mG 1182 (by decide +kernel) rfl, mG 1183 (by decide +kernel) rfl⟩
theorem mw_X11_tired : MW yX11_tired cX11_tired 8 (some .int) 2 := ⟨mG 1200 (by decide +kernel) rfl, mG 78 (by decide +kernel) rfl, (by decide +kernel), (by decide +kernel), (by decide +kernel)⟩
theorem iv_X11_tired : Cond.instanceMethod yX11_tired ∈ lwG ∧ Cond.selects yX11_tired.cls yX11_tired yX11_tired ∈ lwG := ⟨mG 1198 (by decide +kernel) rfl, mG 1199 (by decide +kernel) rfl⟩
theorem mw_X11_isAbleBy : MW yX11_isAbleBy cX11_isAbleBy 8 (some .boolean) 4 := ⟨mG 1213 (by decide +kernel) rfl, mG 78 (by decide +kernel) rfl, (by decide +kernel), (by decide +kernel), (by decide +kernel)⟩
theorem iv_X11_isAbleBy : Cond.instanceMethod yX11_isAbleBy ∈ lwG ∧ Cond.selects yX11_isAbleBy.cls yX11_isAbleBy yX11_isAbleBy ∈ lwG := ⟨mG 1212 (by decide +kernel) rfl, mG 49 (by decide +kernel) rfl⟩
theorem mw_X11_able : MW yX11_able cX11_able 6 (some .int) 2 := ⟨mG 1209 (by decide +kernel) rfl, mG 78 (by decide +kernel) rfl, (by decide +kernel), (by decide +kernel), (by decide +kernel)⟩
theorem iv_X11_able : Cond.instanceMethod yX11_able ∈ lwG ∧ Cond.selects yX11_able.cls yX11_able yX11_able ∈ lwG := ⟨mG 1207 (by decide +kernel) rfl, mG 1208 (by decide +kernel) rfl⟩
theorem mw_X11_without : MW yX11_without cX11_without 6 (some .int) 3 := ⟨mG 1217 (by decide +kernel) rfl, mG 78 (by decide +kernel) rfl, (by decide +kernel), (by decide +kernel), (by decide +kernel)⟩
theorem iv_X11_without : Cond.instanceMethod yX11_without ∈ lwG ∧ Cond.selects yX11_without.cls yX11_without yX11_without ∈ lwG := ⟨mG 1215 (by decide +kernel) rfl, mG 1216 (by decide +kernel) rfl⟩
theorem mw_X11_layWanted : MW yX11_layWanted cX11_layWanted 6 (some .boolean) 2 := ⟨mG 1225 (by decide +kernel) rfl, mG 78 (by decide +kernel) rfl, (by decide +kernel), (by decide +kernel), (by decide +kernel)⟩
theorem iv_X11_layWanted : Cond.instanceMethod yX11_layWanted ∈ lwG ∧ Cond.selects yX11_layWanted.cls yX11_layWanted yX11_layWanted ∈ lwG := ⟨mG 1224 (by decide +kernel) rfl, mG 50 (by decide +kernel) rfl⟩
theorem mw_X11_broughtBy : MW yX11_broughtBy cX11_broughtBy 6 (some .int) 3 := ⟨mG 1232 (by decide +kernel) rfl, mG 78 (by decide +kernel) rfl, (by decide +kernel), (by decide +kernel), (by decide +kernel)⟩
theorem iv_X11_broughtBy : Cond.instanceMethod yX11_broughtBy ∈ lwG ∧ Cond.selects yX11_broughtBy.cls yX11_broughtBy yX11_broughtBy ∈ lwG := ⟨mG 1231 (by decide +kernel) rfl, mG 51 (by decide +kernel) rfl⟩
theorem mw_X11_round : MW yX11_round cX11_round 9 (some .int) 2 := ⟨mG 1221 (by decide +kernel) rfl, mG 78 (by decide +kernel) rfl, (by decide +kernel), (by decide +kernel), (by decide +kernel)⟩
theorem iv_X11_round : Cond.instanceMethod yX11_round ∈ lwG ∧ Cond.selects yX11_round.cls yX11_round yX11_round ∈ lwG := ⟨mG 1219 (by decide +kernel) rfl, mG 1220 (by decide +kernel) rfl⟩
theorem mw_X11_after : MW yX11_after cX11_after 4 (some .int) 3 := ⟨mG 1249 (by decide +kernel) rfl, mG 78 (by decide +kernel) rfl, (by decide +kernel), (by decide +kernel), (by decide +kernel)⟩
theorem iv_X11_after : Cond.instanceMethod yX11_after ∈ lwG ∧ Cond.selects yX11_after.cls yX11_after yX11_after ∈ lwG := ⟨mG 1248 (by decide +kernel) rfl, mG 54 (by decide +kernel) rfl⟩
theorem mw_X11_beginTwo : MW yX11_beginTwo cX11_beginTwo 5 none 2 := ⟨mG 1241 (by decide +kernel) rfl, mG 78 (by decide +kernel) rfl, (by decide +kernel), (by decide +kernel), (by decide +kernel)⟩
theorem iv_X11_beginTwo : Cond.instanceMethod yX11_beginTwo ∈ lwG ∧ Cond.selects yX11_beginTwo.cls yX11_beginTwo yX11_beginTwo ∈ lwG := ⟨mG 1240 (by decide +kernel) rfl, mG 52 (by decide +kernel) rfl⟩
theorem mw_X11_settle : MW yX11_settle cX11_settle 11 none 4 := ⟨mG 1245 (by decide +kernel) rfl, mG 78 (by decide +kernel) rfl, (by decide +kernel), (by decide +kernel), (by decide +kernel)⟩
theorem iv_X11_settle : Cond.instanceMethod yX11_settle ∈ lwG ∧ Cond.selects yX11_settle.cls yX11_settle yX11_settle ∈ lwG := ⟨mG 1244 (by decide +kernel) rfl, mG 53 (by decide +kernel) rfl⟩
theorem mw_X11_two : MW yX11_two cX11_two 11 (some .int) 6 := ⟨mG 1236 (by decide +kernel) rfl, mG 78 (by decide +kernel) rfl, (by decide +kernel), (by decide +kernel), (by decide +kernel)⟩
theorem iv_X11_two : Cond.instanceMethod yX11_two ∈ lwG ∧ Cond.selects yX11_two.cls yX11_two yX11_two ∈ lwG := ⟨mG 1234 (by decide +kernel) rfl, mG 1235 (by decide +kernel) rfl⟩
theorem mw_X11_wayTo : MW yX11_wayTo cX11_wayTo 4 (some .int) 2 := ⟨mG 1260 (by decide +kernel) rfl, mG 78 (by decide +kernel) rfl, (by decide +kernel), (by decide +kernel), (by decide +kernel)⟩
theorem sv_X11_wayTo : Cond.static yX11_wayTo ∈ lwG := mG 1259 (by decide +kernel) rfl
theorem mw_X11_distance : MW yX11_distance cX11_distance 5 (some .int) 2 := ⟨mG 1267 (by decide +kernel) rfl, mG 78 (by decide +kernel) rfl, (by decide +kernel), (by decide +kernel), (by decide +kernel)⟩
theorem sv_X11_distance : Cond.static yX11_distance ∈ lwG := mG 1266 (by decide +kernel) rfl
theorem mw_X11_isClear : MW yX11_isClear cX11_isClear 6 (some .boolean) 2 := ⟨mG 1264 (by decide +kernel) rfl, mG 78 (by decide +kernel) rfl, (by decide +kernel), (by decide +kernel), (by decide +kernel)⟩
theorem iv_X11_isClear : Cond.instanceMethod yX11_isClear ∈ lwG ∧ Cond.selects yX11_isClear.cls yX11_isClear yX11_isClear ∈ lwG := ⟨mG 1263 (by decide +kernel) rfl, mG 56 (by decide +kernel) rfl⟩
theorem mw_X11_pairsIn : MW yX11_pairsIn cX11_pairsIn 7 (some .int) 1 := ⟨mG 1257 (by decide +kernel) rfl, mG 78 (by decide +kernel) rfl, (by decide +kernel), (by decide +kernel), (by decide +kernel)⟩
theorem iv_X11_pairsIn : Cond.instanceMethod yX11_pairsIn ∈ lwG ∧ Cond.selects yX11_pairsIn.cls yX11_pairsIn yX11_pairsIn ∈ lwG := ⟨mG 1256 (by decide +kernel) rfl, mG 55 (by decide +kernel) rfl⟩
theorem mw_X11_pairs : MW yX11_pairs cX11_pairs 1 (some .int) 0 := ⟨mG 1253 (by decide +kernel) rfl, mG 78 (by decide +kernel) rfl, (by decide +kernel), (by decide +kernel), (by decide +kernel)⟩
theorem iv_X11_pairs : Cond.instanceMethod yX11_pairs ∈ lwG ∧ Cond.selects yX11_pairs.cls yX11_pairs yX11_pairs ∈ lwG := ⟨mG 1251 (by decide +kernel) rfl, mG 1252 (by decide +kernel) rfl⟩
theorem mw_X11_danced : MW yX11_danced cX11_danced 3 (some .int) 1 := ⟨mG 1271 (by decide +kernel) rfl, mG 78 (by decide +kernel) rfl, (by decide +kernel), (by decide +kernel), (by decide +kernel)⟩
theorem iv_X11_danced : Cond.instanceMethod yX11_danced ∈ lwG ∧ Cond.selects yX11_danced.cls yX11_danced yX11_danced ∈ lwG := ⟨mG 1269 (by decide +kernel) rfl, mG 1270 (by decide +kernel) rfl⟩
theorem mw_X11_lookingIn : MW yX11_lookingIn cX11_lookingIn 5 (some .int) 2 := ⟨mG 1280 (by decide +kernel) rfl, mG 78 (by decide +kernel) rfl, (by decide +kernel), (by decide +kernel), (by decide +kernel)⟩
theorem iv_X11_lookingIn : Cond.instanceMethod yX11_lookingIn ∈ lwG ∧ Cond.selects yX11_lookingIn.cls yX11_lookingIn yX11_lookingIn ∈ lwG := ⟨mG 1279 (by decide +kernel) rfl, mG 57 (by decide +kernel) rfl⟩
theorem mw_X11_elected : MW yX11_elected cX11_elected 3 (some .int) 0 := ⟨mG 1276 (by decide +kernel) rfl, mG 78 (by decide +kernel) rfl, (by decide +kernel), (by decide +kernel), (by decide +kernel)⟩
theorem iv_X11_elected : Cond.instanceMethod yX11_elected ∈ lwG ∧ Cond.selects yX11_elected.cls yX11_elected yX11_elected ∈ lwG := ⟨mG 1274 (by decide +kernel) rfl, mG 1275 (by decide +kernel) rfl⟩
theorem mw_X11_majority : MW yX11_majority cX11_majority 3 (some .int) 1 := ⟨mG 1284 (by decide +kernel) rfl, mG 78 (by decide +kernel) rfl, (by decide +kernel), (by decide +kernel), (by decide +kernel)⟩
theorem iv_X11_majority : Cond.instanceMethod yX11_majority ∈ lwG ∧ Cond.selects yX11_majority.cls yX11_majority yX11_majority ∈ lwG := ⟨mG 1282 (by decide +kernel) rfl, mG 1283 (by decide +kernel) rfl⟩
theorem mw_X11_seen : MW yX11_seen cX11_seen 4 (some .int) 3 := ⟨mG 1288 (by decide +kernel) rfl, mG 78 (by decide +kernel) rfl, (by decide +kernel), (by decide +kernel), (by decide +kernel)⟩
theorem iv_X11_seen : Cond.instanceMethod yX11_seen ∈ lwG ∧ Cond.selects yX11_seen.cls yX11_seen yX11_seen ∈ lwG := ⟨mG 1286 (by decide +kernel) rfl, mG 1287 (by decide +kernel) rfl⟩
theorem mw_X11_forget : MW yX11_forget cX11_forget 2 (some .int) 0 := ⟨mG 1293 (by decide +kernel) rfl, mG 78 (by decide +kernel) rfl, (by decide +kernel), (by decide +kernel), (by decide +kernel)⟩
theorem iv_X11_forget : Cond.instanceMethod yX11_forget ∈ lwG ∧ Cond.selects yX11_forget.cls yX11_forget yX11_forget ∈ lwG := ⟨mG 1291 (by decide +kernel) rfl, mG 1292 (by decide +kernel) rfl⟩
theorem mw_X11_isSeenSo : MW yX11_isSeenSo cX11_isSeenSo 4 (some .boolean) 1 := ⟨mG 1313 (by decide +kernel) rfl, mG 78 (by decide +kernel) rfl, (by decide +kernel), (by decide +kernel), (by decide +kernel)⟩
theorem iv_X11_isSeenSo : Cond.instanceMethod yX11_isSeenSo ∈ lwG ∧ Cond.selects yX11_isSeenSo.cls yX11_isSeenSo yX11_isSeenSo ∈ lwG := ⟨mG 1312 (by decide +kernel) rfl, mG 61 (by decide +kernel) rfl⟩
theorem mw_X11_isTrack : MW yX11_isTrack cX11_isTrack 4 (some .boolean) 1 := ⟨mG 1309 (by decide +kernel) rfl, mG 78 (by decide +kernel) rfl, (by decide +kernel), (by decide +kernel), (by decide +kernel)⟩
theorem iv_X11_isTrack : Cond.instanceMethod yX11_isTrack ∈ lwG ∧ Cond.selects yX11_isTrack.cls yX11_isTrack yX11_isTrack ∈ lwG := ⟨mG 1308 (by decide +kernel) rfl, mG 60 (by decide +kernel) rfl⟩
theorem mw_X11_isUnread : MW yX11_isUnread cX11_isUnread 3 (some .boolean) 0 := ⟨mG 1301 (by decide +kernel) rfl, mG 78 (by decide +kernel) rfl, (by decide +kernel), (by decide +kernel), (by decide +kernel)⟩
theorem iv_X11_isUnread : Cond.instanceMethod yX11_isUnread ∈ lwG ∧ Cond.selects yX11_isUnread.cls yX11_isUnread yX11_isUnread ∈ lwG := ⟨mG 1300 (by decide +kernel) rfl, mG 58 (by decide +kernel) rfl⟩
theorem mw_X11_findTracks : MW yX11_findTracks cX11_findTracks 3 none 0 := ⟨mG 1305 (by decide +kernel) rfl, mG 78 (by decide +kernel) rfl, (by decide +kernel), (by decide +kernel), (by decide +kernel)⟩
theorem iv_X11_findTracks : Cond.instanceMethod yX11_findTracks ∈ lwG ∧ Cond.selects yX11_findTracks.cls yX11_findTracks yX11_findTracks ∈ lwG := ⟨mG 1304 (by decide +kernel) rfl, mG 59 (by decide +kernel) rfl⟩
theorem mw_X11_tracks : MW yX11_tracks cX11_tracks 2 (some .int) 1 := ⟨mG 1297 (by decide +kernel) rfl, mG 78 (by decide +kernel) rfl, (by decide +kernel), (by decide +kernel), (by decide +kernel)⟩
theorem iv_X11_tracks : Cond.instanceMethod yX11_tracks ∈ lwG ∧ Cond.selects yX11_tracks.cls yX11_tracks yX11_tracks ∈ lwG := ⟨mG 1295 (by decide +kernel) rfl, mG 1296 (by decide +kernel) rfl⟩
theorem mw_X11_looked : MW yX11_looked cX11_looked 2 (some .int) 1 := ⟨mG 1317 (by decide +kernel) rfl, mG 78 (by decide +kernel) rfl, (by decide +kernel), (by decide +kernel), (by decide +kernel)⟩
theorem iv_X11_looked : Cond.instanceMethod yX11_looked ∈ lwG ∧ Cond.selects yX11_looked.cls yX11_looked yX11_looked ∈ lwG := ⟨mG 1315 (by decide +kernel) rfl, mG 1316 (by decide +kernel) rfl⟩
theorem mw_X11_lowest : MW yX11_lowest cX11_lowest 11 (some .long) 3 := ⟨mG 1328 (by decide +kernel) rfl, mG 78 (by decide +kernel) rfl, (by decide +kernel), (by decide +kernel), (by decide +kernel)⟩
theorem sv_X11_lowest : Cond.static yX11_lowest ∈ lwG := mG 1327 (by decide +kernel) rfl
theorem mw_X11_storm : MW yX11_storm cX11_storm 15 (some .long) 5 := ⟨mG 1321 (by decide +kernel) rfl, mG 78 (by decide +kernel) rfl, (by decide +kernel), (by decide +kernel), (by decide +kernel)⟩
theorem iv_X11_storm : Cond.instanceMethod yX11_storm ∈ lwG ∧ Cond.selects yX11_storm.cls yX11_storm yX11_storm ∈ lwG := ⟨mG 1319 (by decide +kernel) rfl, mG 1320 (by decide +kernel) rfl⟩
theorem mw_X11_ninety : MW yX11_ninety cX11_ninety 6 (some .int) 3 := ⟨mG 1332 (by decide +kernel) rfl, mG 78 (by decide +kernel) rfl, (by decide +kernel), (by decide +kernel), (by decide +kernel)⟩
theorem iv_X11_ninety : Cond.instanceMethod yX11_ninety ∈ lwG ∧ Cond.selects yX11_ninety.cls yX11_ninety yX11_ninety ∈ lwG := ⟨mG 1330 (by decide +kernel) rfl, mG 1331 (by decide +kernel) rfl⟩
theorem mw_X11_pass : MW yX11_pass cX11_pass 3 (some .int) 1 := ⟨mG 1349 (by decide +kernel) rfl, mG 78 (by decide +kernel) rfl, (by decide +kernel), (by decide +kernel), (by decide +kernel)⟩
theorem iv_X11_pass : Cond.instanceMethod yX11_pass ∈ lwG ∧ Cond.selects yX11_pass.cls yX11_pass yX11_pass ∈ lwG := ⟨mG 1348 (by decide +kernel) rfl, mG 63 (by decide +kernel) rfl⟩
theorem mw_X11_passAll : MW yX11_passAll cX11_passAll 2 none 0 := ⟨mG 1345 (by decide +kernel) rfl, mG 78 (by decide +kernel) rfl, (by decide +kernel), (by decide +kernel), (by decide +kernel)⟩
theorem iv_X11_passAll : Cond.instanceMethod yX11_passAll ∈ lwG ∧ Cond.selects yX11_passAll.cls yX11_passAll yX11_passAll ∈ lwG := ⟨mG 1344 (by decide +kernel) rfl, mG 62 (by decide +kernel) rfl⟩
theorem mw_X11_image : MW yX11_image cX11_image 2 (some .int) 1 := ⟨mG 1341 (by decide +kernel) rfl, mG 78 (by decide +kernel) rfl, (by decide +kernel), (by decide +kernel), (by decide +kernel)⟩
theorem iv_X11_image : Cond.instanceMethod yX11_image ∈ lwG ∧ Cond.selects yX11_image.cls yX11_image yX11_image ∈ lwG := ⟨mG 1339 (by decide +kernel) rfl, mG 1340 (by decide +kernel) rfl⟩
theorem mw_X11_restore : MW yX11_restore cX11_restore 2 (some .int) 1 := ⟨mG 1353 (by decide +kernel) rfl, mG 78 (by decide +kernel) rfl, (by decide +kernel), (by decide +kernel), (by decide +kernel)⟩
theorem iv_X11_restore : Cond.instanceMethod yX11_restore ∈ lwG ∧ Cond.selects yX11_restore.cls yX11_restore yX11_restore ∈ lwG := ⟨mG 1351 (by decide +kernel) rfl, mG 1352 (by decide +kernel) rfl⟩
theorem mw_X11_toldOfHut : MW yX11_toldOfHut cX11_toldOfHut 3 (some .int) 2 := ⟨mG 1364 (by decide +kernel) rfl, mG 78 (by decide +kernel) rfl, (by decide +kernel), (by decide +kernel), (by decide +kernel)⟩
theorem iv_X11_toldOfHut : Cond.instanceMethod yX11_toldOfHut ∈ lwG ∧ Cond.selects yX11_toldOfHut.cls yX11_toldOfHut yX11_toldOfHut ∈ lwG := ⟨mG 1363 (by decide +kernel) rfl, mG 64 (by decide +kernel) rfl⟩
theorem mw_X11_told : MW yX11_told cX11_told 4 (some .int) 1 := ⟨mG 1357 (by decide +kernel) rfl, mG 78 (by decide +kernel) rfl, (by decide +kernel), (by decide +kernel), (by decide +kernel)⟩
theorem iv_X11_told : Cond.instanceMethod yX11_told ∈ lwG ∧ Cond.selects yX11_told.cls yX11_told yX11_told ∈ lwG := ⟨mG 1355 (by decide +kernel) rfl, mG 1356 (by decide +kernel) rfl⟩
theorem mw_J6_numberOfTrailingZeros_0f7a4 : MW yJ6_numberOfTrailingZeros_0f7a4 cJ6_numberOfTrailingZeros_0f7a4 2 (some .int) 1 := ⟨mG 719 (by decide +kernel) rfl, mG 79 (by decide +kernel) rfl, (by decide +kernel), (by decide +kernel), (by decide +kernel)⟩
theorem sv_J6_numberOfTrailingZeros_0f7a4 : Cond.static yJ6_numberOfTrailingZeros_0f7a4 ∈ lwG := mG 718 (by decide +kernel) rfl
theorem mw_J6_bitCount_0f7a4 : MW yJ6_bitCount_0f7a4 cJ6_bitCount_0f7a4 1 (some .int) 1 := ⟨mG 475 (by decide +kernel) rfl, mG 79 (by decide +kernel) rfl, (by decide +kernel), (by decide +kernel), (by decide +kernel)⟩
theorem sv_J6_bitCount_0f7a4 : Cond.static yJ6_bitCount_0f7a4 ∈ lwG := mG 474 (by decide +kernel) rfl
theorem mw_J9_max_7cf53 : MW yJ9_max_7cf53 cJ9_max_7cf53 2 (some .int) 2 := ⟨mG 655 (by decide +kernel) rfl, mG 81 (by decide +kernel) rfl, (by decide +kernel), (by decide +kernel), (by decide +kernel)⟩
theorem sv_J9_max_7cf53 : Cond.static yJ9_max_7cf53 ∈ lwG := mG 654 (by decide +kernel) rfl
theorem mw_J9_max_f86c9 : MW yJ9_max_f86c9 cJ9_max_f86c9 4 (some .long) 2 := ⟨mG 851 (by decide +kernel) rfl, mG 81 (by decide +kernel) rfl, (by decide +kernel), (by decide +kernel), (by decide +kernel)⟩
theorem sv_J9_max_f86c9 : Cond.static yJ9_max_f86c9 ∈ lwG := mG 850 (by decide +kernel) rfl
theorem mw_J9_min_7cf53 : MW yJ9_min_7cf53 cJ9_min_7cf53 2 (some .int) 2 := ⟨mG 581 (by decide +kernel) rfl, mG 81 (by decide +kernel) rfl, (by decide +kernel), (by decide +kernel), (by decide +kernel)⟩
theorem sv_J9_min_7cf53 : Cond.static yJ9_min_7cf53 ∈ lwG := mG 580 (by decide +kernel) rfl
theorem mw_J7_fill_53178 : MW yJ7_fill_53178 cJ7_fill_53178 4 none 2 := ⟨mG 102 (by decide +kernel) rfl, mG 68 (by decide +kernel) rfl, (by decide +kernel), (by decide +kernel), (by decide +kernel)⟩
theorem sv_J7_fill_53178 : Cond.static yJ7_fill_53178 ∈ lwG := mG 101 (by decide +kernel) rfl
theorem cl_L_7 : Cond.classLink RL 7 RX10 ∈ lwG := mG 82 (by decide +kernel) rfl
theorem in_X10 : Cond.instantiable RX10 11 ∈ lwG ∧ Cond.initialized RX10 ∈ lwG := ⟨mG 83 (by decide +kernel) rfl, mG 66 (by decide +kernel) rfl⟩
theorem ml_L_9 : Cond.methodLink RL 9 yX10_init ∈ lwG := mG 84 (by decide +kernel) rfl
theorem oi_X10 : Cond.methodLink RX10 3 objectInit ∈ lwG := mG 87 (by decide +kernel) rfl
theorem cl_X10_9 : Cond.classLink RX10 9 RX9 ∈ lwG := mG 90 (by decide +kernel) rfl
theorem in_X9 : Cond.instantiable RX9 12 ∈ lwG ∧ Cond.initialized RX9 ∈ lwG := ⟨mG 91 (by decide +kernel) rfl, mG 67 (by decide +kernel) rfl⟩
theorem ml_X10_11 : Cond.methodLink RX10 11 yX9_init ∈ lwG := mG 92 (by decide +kernel) rfl
theorem oi_X9 : Cond.methodLink RX9 3 objectInit ∈ lwG := mG 95 (by decide +kernel) rfl
theorem ml_X9_39 : Cond.methodLink RX9 39 yX9_plant ∈ lwG := mG 96 (by decide +kernel) rfl
theorem ml_X9_53 : Cond.methodLink RX9 53 yJ7_fill_53178 ∈ lwG := mG 100 (by decide +kernel) rfl
theorem fl_X9_43 : FL RX9 43 9 0 := FL.mk (q := (RX9, TX9, 12)) 103 rfl (by decide) (by decide +kernel)
theorem fl_X1_25 : FL RX1 25 9 0 := FL.mk (q := (RX9, TX9, 12)) 104 rfl (by decide) (by decide +kernel)
theorem fl_X6_28 : FL RX6 28 9 0 := FL.mk (q := (RX9, TX9, 12)) 105 rfl (by decide) (by decide +kernel)
theorem fl_X8_22 : FL RX8 22 9 0 := FL.mk (q := (RX9, TX9, 12)) 106 rfl (by decide) (by decide +kernel)
theorem fl_X10_80 : FL RX10 80 9 0 := FL.mk (q := (RX9, TX9, 12)) 107 rfl (by decide) (by decide +kernel)
theorem fl_X3_59 : FL RX3 59 9 0 := FL.mk (q := (RX9, TX9, 12)) 108 rfl (by decide) (by decide +kernel)
theorem fl_X7_30 : FL RX7 30 9 0 := FL.mk (q := (RX9, TX9, 12)) 109 rfl (by decide) (by decide +kernel)
theorem fl_X5_67 : FL RX5 67 9 0 := FL.mk (q := (RX9, TX9, 12)) 110 rfl (by decide) (by decide +kernel)
theorem fl_X2_92 : FL RX2 92 9 0 := FL.mk (q := (RX9, TX9, 12)) 111 rfl (by decide) (by decide +kernel)
theorem fl_X9_47 : FL RX9 47 9 1 := FL.mk (q := (RX9, TX9, 12)) 112 rfl (by decide) (by decide +kernel)
theorem fl_X6_33 : FL RX6 33 9 1 := FL.mk (q := (RX9, TX9, 12)) 113 rfl (by decide) (by decide +kernel)
theorem fl_X5_64 : FL RX5 64 9 1 := FL.mk (q := (RX9, TX9, 12)) 114 rfl (by decide) (by decide +kernel)
theorem fl_X10_128 : FL RX10 128 9 1 := FL.mk (q := (RX9, TX9, 12)) 115 rfl (by decide) (by decide +kernel)
theorem fl_X9_50 : FL RX9 50 9 2 := FL.mk (q := (RX9, TX9, 12)) 116 rfl (by decide) (by decide +kernel)
theorem fl_X8_76 : FL RX8 76 9 2 := FL.mk (q := (RX9, TX9, 12)) 117 rfl (by decide) (by decide +kernel)
theorem fl_X10_249 : FL RX10 249 9 2 := FL.mk (q := (RX9, TX9, 12)) 118 rfl (by decide) (by decide +kernel)
theorem fl_X9_9 : FL RX9 9 9 3 := FL.mk (q := (RX9, TX9, 12)) 119 rfl (by decide) (by decide +kernel)
theorem fl_X3_26 : FL RX3 26 9 3 := FL.mk (q := (RX9, TX9, 12)) 120 rfl (by decide) (by decide +kernel)
theorem fl_X2_34 : FL RX2 34 9 3 := FL.mk (q := (RX9, TX9, 12)) 121 rfl (by decide) (by decide +kernel)
theorem fl_X10_168 : FL RX10 168 9 3 := FL.mk (q := (RX9, TX9, 12)) 122 rfl (by decide) (by decide +kernel)
theorem fl_X9_15 : FL RX9 15 9 4 := FL.mk (q := (RX9, TX9, 12)) 123 rfl (by decide) (by decide +kernel)
theorem fl_X3_37 : FL RX3 37 9 4 := FL.mk (q := (RX9, TX9, 12)) 124 rfl (by decide) (by decide +kernel)
theorem fl_X2_43 : FL RX2 43 9 4 := FL.mk (q := (RX9, TX9, 12)) 125 rfl (by decide) (by decide +kernel)
theorem fl_X8_40 : FL RX8 40 9 4 := FL.mk (q := (RX9, TX9, 12)) 126 rfl (by decide) (by decide +kernel)
theorem fl_X10_169 : FL RX10 169 9 4 := FL.mk (q := (RX9, TX9, 12)) 127 rfl (by decide) (by decide +kernel)
theorem fl_X9_18 : FL RX9 18 9 5 := FL.mk (q := (RX9, TX9, 12)) 128 rfl (by decide) (by decide +kernel)
theorem fl_X8_59 : FL RX8 59 9 5 := FL.mk (q := (RX9, TX9, 12)) 129 rfl (by decide) (by decide +kernel)
theorem fl_X2_101 : FL RX2 101 9 5 := FL.mk (q := (RX9, TX9, 12)) 130 rfl (by decide) (by decide +kernel)
theorem fl_X10_310 : FL RX10 310 9 5 := FL.mk (q := (RX9, TX9, 12)) 131 rfl (by decide) (by decide +kernel)
theorem fl_X9_21 : FL RX9 21 9 6 := FL.mk (q := (RX9, TX9, 12)) 132 rfl (by decide) (by decide +kernel)
theorem fl_X10_313 : FL RX10 313 9 6 := FL.mk (q := (RX9, TX9, 12)) 133 rfl (by decide) (by decide +kernel)
theorem fl_X9_24 : FL RX9 24 9 7 := FL.mk (q := (RX9, TX9, 12)) 134 rfl (by decide) (by decide +kernel)
theorem fl_X1_30 : FL RX1 30 9 7 := FL.mk (q := (RX9, TX9, 12)) 135 rfl (by decide) (by decide +kernel)
theorem fl_X10_316 : FL RX10 316 9 7 := FL.mk (q := (RX9, TX9, 12)) 136 rfl (by decide) (by decide +kernel)
theorem fl_X9_27 : FL RX9 27 9 8 := FL.mk (q := (RX9, TX9, 12)) 137 rfl (by decide) (by decide +kernel)
theorem fl_X10_121 : FL RX10 121 9 8 := FL.mk (q := (RX9, TX9, 12)) 138 rfl (by decide) (by decide +kernel)
theorem fl_X9_30 : FL RX9 30 9 9 := FL.mk (q := (RX9, TX9, 12)) 139 rfl (by decide) (by decide +kernel)
theorem fl_X8_79 : FL RX8 79 9 9 := FL.mk (q := (RX9, TX9, 12)) 140 rfl (by decide) (by decide +kernel)
theorem fl_X9_33 : FL RX9 33 9 10 := FL.mk (q := (RX9, TX9, 12)) 141 rfl (by decide) (by decide +kernel)
theorem fl_X8_82 : FL RX8 82 9 10 := FL.mk (q := (RX9, TX9, 12)) 142 rfl (by decide) (by decide +kernel)
theorem fl_X9_36 : FL RX9 36 9 11 := FL.mk (q := (RX9, TX9, 12)) 143 rfl (by decide) (by decide +kernel)
theorem fl_X8_85 : FL RX8 85 9 11 := FL.mk (q := (RX9, TX9, 12)) 144 rfl (by decide) (by decide +kernel)
theorem ac_int : Cond.arrayClass .int ∈ lwG := mG 170 (by decide +kernel) rfl
theorem cl_X10_24 : Cond.classLink RX10 24 RX4 ∈ lwG := mG 172 (by decide +kernel) rfl
theorem in_X4 : Cond.instantiable RX4 2 ∈ lwG ∧ Cond.initialized RX4 ∈ lwG := ⟨mG 173 (by decide +kernel) rfl, mG 69 (by decide +kernel) rfl⟩
theorem mn_X10_26 : Cond.methodLinkNest RX10 26 yX4_init "HenHuts" ∈ lwN := mN 174 (by decide +kernel) rfl
theorem oi_X4 : Cond.methodLink RX4 3 objectInit ∈ lwG := mG 177 (by decide +kernel) rfl
theorem fl_X4_15 : FL RX4 15 4 0 := FL.mk (q := (RX4, TX4, 2)) 178 rfl (by decide) (by decide +kernel)
theorem fl_X2_48 : FL RX2 48 4 0 := FL.mk (q := (RX4, TX4, 2)) 179 rfl (by decide) (by decide +kernel)
theorem fl_X8_47 : FL RX8 47 4 0 := FL.mk (q := (RX4, TX4, 2)) 180 rfl (by decide) (by decide +kernel)
theorem fl_X10_301 : FL RX10 301 4 0 := FL.mk (q := (RX4, TX4, 2)) 181 rfl (by decide) (by decide +kernel)
theorem fl_X4_9 : FL RX4 9 4 1 := FL.mk (q := (RX4, TX4, 2)) 182 rfl (by decide) (by decide +kernel)
theorem fl_X2_53 : FL RX2 53 4 1 := FL.mk (q := (RX4, TX4, 2)) 183 rfl (by decide) (by decide +kernel)
theorem fl_X8_52 : FL RX8 52 4 1 := FL.mk (q := (RX4, TX4, 2)) 184 rfl (by decide) (by decide +kernel)
theorem ac_boolean : Cond.arrayClass .boolean ∈ lwG := mG 190 (by decide +kernel) rfl
theorem cl_X10_31 : Cond.classLink RX10 31 RX2 ∈ lwG := mG 191 (by decide +kernel) rfl
theorem in_X2 : Cond.instantiable RX2 7 ∈ lwG ∧ Cond.initialized RX2 ∈ lwG := ⟨mG 192 (by decide +kernel) rfl, mG 70 (by decide +kernel) rfl⟩
theorem mn_X10_33 : Cond.methodLinkNest RX10 33 yX2_init "HenHuts" ∈ lwN := mN 193 (by decide +kernel) rfl
theorem oi_X2 : Cond.methodLink RX2 3 objectInit ∈ lwG := mG 196 (by decide +kernel) rfl
theorem fl_X2_18 : FL RX2 18 2 0 := FL.mk (q := (RX2, TX2, 7)) 197 rfl (by decide) (by decide +kernel)
theorem fl_X10_149 : FL RX10 149 2 0 := FL.mk (q := (RX2, TX2, 7)) 198 rfl (by decide) (by decide +kernel)
theorem fl_X2_22 : FL RX2 22 2 1 := FL.mk (q := (RX2, TX2, 7)) 199 rfl (by decide) (by decide +kernel)
theorem fl_X10_295 : FL RX10 295 2 1 := FL.mk (q := (RX2, TX2, 7)) 200 rfl (by decide) (by decide +kernel)
theorem fl_X2_25 : FL RX2 25 2 2 := FL.mk (q := (RX2, TX2, 7)) 201 rfl (by decide) (by decide +kernel)
theorem fl_X10_152 : FL RX10 152 2 2 := FL.mk (q := (RX2, TX2, 7)) 202 rfl (by decide) (by decide +kernel)
theorem fl_X2_28 : FL RX2 28 2 3 := FL.mk (q := (RX2, TX2, 7)) 203 rfl (by decide) (by decide +kernel)
theorem fl_X10_146 : FL RX10 146 2 3 := FL.mk (q := (RX2, TX2, 7)) 204 rfl (by decide) (by decide +kernel)
theorem fl_X2_31 : FL RX2 31 2 4 := FL.mk (q := (RX2, TX2, 7)) 205 rfl (by decide) (by decide +kernel)
theorem fl_X10_143 : FL RX10 143 2 4 := FL.mk (q := (RX2, TX2, 7)) 206 rfl (by decide) (by decide +kernel)
theorem fl_X2_9 : FL RX2 9 2 5 := FL.mk (q := (RX2, TX2, 7)) 207 rfl (by decide) (by decide +kernel)
theorem fl_X10_158 : FL RX10 158 2 5 := FL.mk (q := (RX2, TX2, 7)) 208 rfl (by decide) (by decide +kernel)
theorem fl_X2_15 : FL RX2 15 2 6 := FL.mk (q := (RX2, TX2, 7)) 209 rfl (by decide) (by decide +kernel)
theorem fl_X10_161 : FL RX10 161 2 6 := FL.mk (q := (RX2, TX2, 7)) 210 rfl (by decide) (by decide +kernel)
theorem cl_X10_38 : Cond.classLink RX10 38 RX5 ∈ lwG := mG 226 (by decide +kernel) rfl
theorem in_X5 : Cond.instantiable RX5 5 ∈ lwG ∧ Cond.initialized RX5 ∈ lwG := ⟨mG 227 (by decide +kernel) rfl, mG 71 (by decide +kernel) rfl⟩
theorem mn_X10_40 : Cond.methodLinkNest RX10 40 yX5_init "HenHuts" ∈ lwN := mN 228 (by decide +kernel) rfl
theorem oi_X5 : Cond.methodLink RX5 3 objectInit ∈ lwG := mG 231 (by decide +kernel) rfl
theorem cl_X5_9 : Cond.classLink RX5 9 RX7 ∈ lwG := mG 232 (by decide +kernel) rfl
theorem in_X7 : Cond.instantiable RX7 2 ∈ lwG ∧ Cond.initialized RX7 ∈ lwG := ⟨mG 233 (by decide +kernel) rfl, mG 72 (by decide +kernel) rfl⟩
theorem mn_X5_11 : Cond.methodLinkNest RX5 11 yX7_init "HenHuts" ∈ lwN := mN 234 (by decide +kernel) rfl
theorem oi_X7 : Cond.methodLink RX7 3 objectInit ∈ lwG := mG 237 (by decide +kernel) rfl
theorem fl_X7_9 : FL RX7 9 7 0 := FL.mk (q := (RX7, TX7, 2)) 238 rfl (by decide) (by decide +kernel)
theorem fl_X7_15 : FL RX7 15 7 1 := FL.mk (q := (RX7, TX7, 2)) 239 rfl (by decide) (by decide +kernel)
theorem fl_X5_44 : FL RX5 44 5 0 := FL.mk (q := (RX5, TX5, 5)) 245 rfl (by decide) (by decide +kernel)
theorem fl_X10_176 : FL RX10 176 5 0 := FL.mk (q := (RX5, TX5, 5)) 246 rfl (by decide) (by decide +kernel)
theorem fl_X5_12 : FL RX5 12 5 1 := FL.mk (q := (RX5, TX5, 5)) 247 rfl (by decide) (by decide +kernel)
theorem fl_X10_210 : FL RX10 210 5 1 := FL.mk (q := (RX5, TX5, 5)) 248 rfl (by decide) (by decide +kernel)
theorem fl_X5_18 : FL RX5 18 5 2 := FL.mk (q := (RX5, TX5, 5)) 249 rfl (by decide) (by decide +kernel)
theorem fl_X10_240 : FL RX10 240 5 2 := FL.mk (q := (RX5, TX5, 5)) 250 rfl (by decide) (by decide +kernel)
theorem fl_X5_22 : FL RX5 22 5 3 := FL.mk (q := (RX5, TX5, 5)) 251 rfl (by decide) (by decide +kernel)
theorem fl_X10_182 : FL RX10 182 5 3 := FL.mk (q := (RX5, TX5, 5)) 252 rfl (by decide) (by decide +kernel)
theorem fl_X5_25 : FL RX5 25 5 4 := FL.mk (q := (RX5, TX5, 5)) 253 rfl (by decide) (by decide +kernel)
theorem cl_X10_45 : Cond.classLink RX10 45 RX3 ∈ lwG := mG 265 (by decide +kernel) rfl
theorem in_X3 : Cond.instantiable RX3 4 ∈ lwG ∧ Cond.initialized RX3 ∈ lwG := ⟨mG 266 (by decide +kernel) rfl, mG 73 (by decide +kernel) rfl⟩
theorem mn_X10_47 : Cond.methodLinkNest RX10 47 yX3_init "HenHuts" ∈ lwN := mN 267 (by decide +kernel) rfl
theorem oi_X3 : Cond.methodLink RX3 3 objectInit ∈ lwG := mG 270 (by decide +kernel) rfl
theorem cl_X3_9 : Cond.classLink RX3 9 "[[I" ∈ lwG := mG 271 (by decide +kernel) rfl
theorem fl_X3_19 : FL RX3 19 3 0 := FL.mk (q := (RX3, TX3, 4)) 273 rfl (by decide) (by decide +kernel)
theorem fl_X3_23 : FL RX3 23 3 1 := FL.mk (q := (RX3, TX3, 4)) 274 rfl (by decide) (by decide +kernel)
theorem fl_X3_11 : FL RX3 11 3 2 := FL.mk (q := (RX3, TX3, 4)) 275 rfl (by decide) (by decide +kernel)
theorem fl_X3_16 : FL RX3 16 3 3 := FL.mk (q := (RX3, TX3, 4)) 276 rfl (by decide) (by decide +kernel)
theorem cl_X10_52 : Cond.classLink RX10 52 RX6 ∈ lwG := mG 286 (by decide +kernel) rfl
theorem in_X6 : Cond.instantiable RX6 5 ∈ lwG ∧ Cond.initialized RX6 ∈ lwG := ⟨mG 287 (by decide +kernel) rfl, mG 74 (by decide +kernel) rfl⟩
theorem mn_X10_54 : Cond.methodLinkNest RX10 54 yX6_init "HenHuts" ∈ lwN := mN 288 (by decide +kernel) rfl
theorem oi_X6 : Cond.methodLink RX6 3 objectInit ∈ lwG := mG 291 (by decide +kernel) rfl
theorem fl_X6_21 : FL RX6 21 6 0 := FL.mk (q := (RX6, TX6, 5)) 292 rfl (by decide) (by decide +kernel)
theorem fl_X6_25 : FL RX6 25 6 1 := FL.mk (q := (RX6, TX6, 5)) 293 rfl (by decide) (by decide +kernel)
theorem fl_X6_9 : FL RX6 9 6 2 := FL.mk (q := (RX6, TX6, 5)) 294 rfl (by decide) (by decide +kernel)
theorem fl_X6_15 : FL RX6 15 6 3 := FL.mk (q := (RX6, TX6, 5)) 295 rfl (by decide) (by decide +kernel)
theorem fl_X6_18 : FL RX6 18 6 4 := FL.mk (q := (RX6, TX6, 5)) 296 rfl (by decide) (by decide +kernel)
theorem cl_X10_59 : Cond.classLink RX10 59 RX0 ∈ lwG := mG 308 (by decide +kernel) rfl
theorem in_X0 : Cond.instantiable RX0 2 ∈ lwG ∧ Cond.initialized RX0 ∈ lwG := ⟨mG 309 (by decide +kernel) rfl, mG 75 (by decide +kernel) rfl⟩
theorem mn_X10_61 : Cond.methodLinkNest RX10 61 yX0_init "HenHuts" ∈ lwN := mN 310 (by decide +kernel) rfl
theorem oi_X0 : Cond.methodLink RX0 3 objectInit ∈ lwG := mG 313 (by decide +kernel) rfl
theorem fl_X0_9 : FL RX0 9 0 0 := FL.mk (q := (RX0, TX0, 2)) 314 rfl (by decide) (by decide +kernel)
theorem fl_X10_225 : FL RX10 225 0 0 := FL.mk (q := (RX0, TX0, 2)) 315 rfl (by decide) (by decide +kernel)
theorem fl_X0_15 : FL RX0 15 0 1 := FL.mk (q := (RX0, TX0, 2)) 316 rfl (by decide) (by decide +kernel)
theorem fl_X10_228 : FL RX10 228 0 1 := FL.mk (q := (RX0, TX0, 2)) 317 rfl (by decide) (by decide +kernel)
theorem cl_X10_66 : Cond.classLink RX10 66 RX1 ∈ lwG := mG 323 (by decide +kernel) rfl
theorem in_X1 : Cond.instantiable RX1 4 ∈ lwG ∧ Cond.initialized RX1 ∈ lwG := ⟨mG 324 (by decide +kernel) rfl, mG 76 (by decide +kernel) rfl⟩
theorem mn_X10_68 : Cond.methodLinkNest RX10 68 yX1_init "HenHuts" ∈ lwN := mN 325 (by decide +kernel) rfl
theorem oi_X1 : Cond.methodLink RX1 3 objectInit ∈ lwG := mG 328 (by decide +kernel) rfl
theorem fl_X1_21 : FL RX1 21 1 0 := FL.mk (q := (RX1, TX1, 4)) 329 rfl (by decide) (by decide +kernel)
theorem fl_X1_9 : FL RX1 9 1 1 := FL.mk (q := (RX1, TX1, 4)) 330 rfl (by decide) (by decide +kernel)
theorem fl_X1_15 : FL RX1 15 1 2 := FL.mk (q := (RX1, TX1, 4)) 331 rfl (by decide) (by decide +kernel)
theorem fl_X1_18 : FL RX1 18 1 3 := FL.mk (q := (RX1, TX1, 4)) 332 rfl (by decide) (by decide +kernel)
theorem cl_X10_73 : Cond.classLink RX10 73 RX8 ∈ lwG := mG 342 (by decide +kernel) rfl
theorem in_X8 : Cond.instantiable RX8 3 ∈ lwG ∧ Cond.initialized RX8 ∈ lwG := ⟨mG 343 (by decide +kernel) rfl, mG 77 (by decide +kernel) rfl⟩
theorem mn_X10_75 : Cond.methodLinkNest RX10 75 yX8_init "HenHuts" ∈ lwN := mN 344 (by decide +kernel) rfl
theorem oi_X8 : Cond.methodLink RX8 3 objectInit ∈ lwG := mG 347 (by decide +kernel) rfl
theorem fl_X8_15 : FL RX8 15 8 0 := FL.mk (q := (RX8, TX8, 3)) 348 rfl (by decide) (by decide +kernel)
theorem fl_X10_259 : FL RX10 259 8 0 := FL.mk (q := (RX8, TX8, 3)) 349 rfl (by decide) (by decide +kernel)
theorem fl_X8_19 : FL RX8 19 8 1 := FL.mk (q := (RX8, TX8, 3)) 350 rfl (by decide) (by decide +kernel)
theorem fl_X10_262 : FL RX10 262 8 1 := FL.mk (q := (RX8, TX8, 3)) 351 rfl (by decide) (by decide +kernel)
theorem fl_X8_9 : FL RX8 9 8 2 := FL.mk (q := (RX8, TX8, 3)) 352 rfl (by decide) (by decide +kernel)
theorem fl_X10_265 : FL RX10 265 8 2 := FL.mk (q := (RX8, TX8, 3)) 353 rfl (by decide) (by decide +kernel)
theorem fl_X10_12 : FL RX10 12 10 0 := FL.mk (q := (RX10, TX10, 11)) 361 rfl (by decide) (by decide +kernel)
theorem fl_X10_16 : FL RX10 16 10 1 := FL.mk (q := (RX10, TX10, 11)) 362 rfl (by decide) (by decide +kernel)
theorem fl_X10_20 : FL RX10 20 10 2 := FL.mk (q := (RX10, TX10, 11)) 363 rfl (by decide) (by decide +kernel)
theorem fl_X10_27 : FL RX10 27 10 3 := FL.mk (q := (RX10, TX10, 11)) 364 rfl (by decide) (by decide +kernel)
theorem fl_X10_34 : FL RX10 34 10 4 := FL.mk (q := (RX10, TX10, 11)) 365 rfl (by decide) (by decide +kernel)
theorem fl_X10_41 : FL RX10 41 10 5 := FL.mk (q := (RX10, TX10, 11)) 366 rfl (by decide) (by decide +kernel)
theorem fl_X10_48 : FL RX10 48 10 6 := FL.mk (q := (RX10, TX10, 11)) 367 rfl (by decide) (by decide +kernel)
theorem fl_X10_55 : FL RX10 55 10 7 := FL.mk (q := (RX10, TX10, 11)) 368 rfl (by decide) (by decide +kernel)
theorem fl_X10_62 : FL RX10 62 10 8 := FL.mk (q := (RX10, TX10, 11)) 369 rfl (by decide) (by decide +kernel)
theorem fl_X10_69 : FL RX10 69 10 9 := FL.mk (q := (RX10, TX10, 11)) 370 rfl (by decide) (by decide +kernel)
theorem fl_X10_76 : FL RX10 76 10 10 := FL.mk (q := (RX10, TX10, 11)) 371 rfl (by decide) (by decide +kernel)
theorem ml_L_13 : Cond.methodLink RL 13 yX10_huts ∈ lwG := mG 395 (by decide +kernel) rfl
theorem ml_X10_84 : Cond.methodLink RX10 84 yX9_plant ∈ lwG := mG 399 (by decide +kernel) rfl
theorem ml_L_18 : Cond.methodLink RL 18 yX10_hut ∈ lwG := mG 400 (by decide +kernel) rfl
theorem ml_X10_88 : Cond.methodLink RX10 88 yX9_hasHut ∈ lwG := mG 404 (by decide +kernel) rfl
theorem mn_X9_65 : Cond.methodLinkNest RX9 65 yX10_isWithin "HenHuts" ∈ lwN := mN 408 (by decide +kernel) rfl
theorem ml_X10_92 : Cond.methodLink RX10 92 yX10_isWithin ∈ lwG := mG 411 (by decide +kernel) rfl
theorem ml_X10_96 : Cond.methodLink RX10 96 yX10_mostOf ∈ lwG := mG 412 (by decide +kernel) rfl
theorem ml_X10_100 : Cond.methodLink RX10 100 yX9_isTaken ∈ lwG := mG 415 (by decide +kernel) rfl
theorem ml_X10_104 : Cond.methodLink RX10 104 yX9_alter ∈ lwG := mG 419 (by decide +kernel) rfl
theorem ml_X9_73 : Cond.methodLink RX9 73 yX9_rowOf ∈ lwG := mG 423 (by decide +kernel) rfl
theorem ml_L_23 : Cond.methodLink RL 23 yX10_say ∈ lwG := mG 427 (by decide +kernel) rfl
theorem ml_X10_108 : Cond.methodLink RX10 108 yX4_add ∈ lwG := mG 431 (by decide +kernel) rfl
theorem ml_L_27 : Cond.methodLink RL 27 yX10_wipe ∈ lwG := mG 435 (by decide +kernel) rfl
theorem ml_X10_111 : Cond.methodLink RX10 111 yX4_clear ∈ lwG := mG 439 (by decide +kernel) rfl
theorem ml_L_32 : Cond.methodLink RL 32 yX10_fault ∈ lwG := mG 443 (by decide +kernel) rfl
theorem ml_X10_115 : Cond.methodLink RX10 115 yX4_spellFault ∈ lwG := mG 447 (by decide +kernel) rfl
theorem mn_X4_19 : Cond.methodLinkNest RX4 19 yX10_isWithin "HenHuts" ∈ lwN := mN 451 (by decide +kernel) rfl
theorem ml_X10_118 : Cond.methodLink RX10 118 yX4_eveningFault ∈ lwG := mG 452 (by decide +kernel) rfl
theorem mn_X4_23 : Cond.methodLinkNest RX4 23 yX10_wayOf "HenHuts" ∈ lwN := mN 456 (by decide +kernel) rfl
theorem mn_X4_27 : Cond.methodLinkNest RX4 27 yX10_isDigit "HenHuts" ∈ lwN := mN 459 (by decide +kernel) rfl
theorem mn_X4_31 : Cond.methodLinkNest RX4 31 yX10_isLetter "HenHuts" ∈ lwN := mN 462 (by decide +kernel) rfl
theorem ml_L_36 : Cond.methodLink RL 36 yX10_word ∈ lwG := mG 465 (by decide +kernel) rfl
theorem ml_X10_125 : Cond.methodLink RX10 125 yX4_signAt ∈ lwG := mG 469 (by decide +kernel) rfl
theorem ml_X10_131 : Cond.methodLink RX10 131 yJ6_bitCount_0f7a4 ∈ lwG := mG 473 (by decide +kernel) rfl
theorem kc_J6_265 : Cond.constant RJ6 265 (1431655765) ∈ lwG := mG 476 (by decide +kernel) rfl
theorem kc_J6_266 : Cond.constant RJ6 266 (858993459) ∈ lwG := mG 477 (by decide +kernel) rfl
theorem kc_J6_267 : Cond.constant RJ6 267 (252645135) ∈ lwG := mG 478 (by decide +kernel) rfl
theorem ml_L_40 : Cond.methodLink RL 40 yX10_unword ∈ lwG := mG 479 (by decide +kernel) rfl
theorem ml_X10_136 : Cond.methodLink RX10 136 yX9_knows ∈ lwG := mG 483 (by decide +kernel) rfl
theorem mn_X9_69 : Cond.methodLinkNest RX9 69 yX10_isIn "HenHuts" ∈ lwN := mN 487 (by decide +kernel) rfl
theorem ml_L_44 : Cond.methodLink RL 44 yX10_judge ∈ lwG := mG 490 (by decide +kernel) rfl
theorem ml_X10_139 : Cond.methodLink RX10 139 yX2_play ∈ lwG := mG 494 (by decide +kernel) rfl
theorem ml_X2_44 : Cond.methodLink RX2 44 yX2_begin ∈ lwG := mG 498 (by decide +kernel) rfl
theorem cp_X2_37 : cpL 37 RX2 := ⟨mG 502 (by decide +kernel) rfl, mG 504 (by decide +kernel) rfl, mG 503 (by decide +kernel) rfl, mG 80 (by decide +kernel) rfl⟩
theorem mn_X2_56 : Cond.methodLinkNest RX2 56 yX10_isDigit "HenHuts" ∈ lwN := mN 505 (by decide +kernel) rfl
theorem ml_X2_60 : Cond.methodLink RX2 60 yX4_signAt ∈ lwG := mG 506 (by decide +kernel) rfl
theorem mn_X2_64 : Cond.methodLinkNest RX2 64 yX10_wayOf "HenHuts" ∈ lwN := mN 507 (by decide +kernel) rfl
theorem ml_X2_67 : Cond.methodLink RX2 67 yX2_knock ∈ lwG := mG 508 (by decide +kernel) rfl
theorem ml_X2_89 : Cond.methodLink RX2 89 yX9_hasHut ∈ lwG := mG 512 (by decide +kernel) rfl
theorem ml_X2_71 : Cond.methodLink RX2 71 yX2_happen ∈ lwG := mG 513 (by decide +kernel) rfl
theorem ml_X2_83 : Cond.methodLink RX2 83 yX2_thunder ∈ lwG := mG 517 (by decide +kernel) rfl
theorem ml_X2_86 : Cond.methodLink RX2 86 yX2_rest ∈ lwG := mG 521 (by decide +kernel) rfl
theorem ml_X2_76 : Cond.methodLink RX2 76 yX9_knows ∈ lwG := mG 525 (by decide +kernel) rfl
theorem ml_X2_79 : Cond.methodLink RX2 79 yX2_hear ∈ lwG := mG 526 (by decide +kernel) rfl
theorem ml_X2_95 : Cond.methodLink RX2 95 yX9_quarters ∈ lwG := mG 530 (by decide +kernel) rfl
theorem ml_X2_98 : Cond.methodLink RX2 98 yX9_turned ∈ lwG := mG 534 (by decide +kernel) rfl
theorem ml_L_48 : Cond.methodLink RL 48 yX10_behind ∈ lwG := mG 538 (by decide +kernel) rfl
theorem ml_X10_155 : Cond.methodLink RX10 155 yX10_playWhole ∈ lwG := mG 542 (by decide +kernel) rfl
theorem ml_L_53 : Cond.methodLink RL 53 yX10_done ∈ lwG := mG 546 (by decide +kernel) rfl
theorem ml_X10_164 : Cond.methodLink RX10 164 yX2_leaveTo ∈ lwG := mG 550 (by decide +kernel) rfl
theorem ml_L_57 : Cond.methodLink RL 57 yX10_state ∈ lwG := mG 554 (by decide +kernel) rfl
theorem ml_L_61 : Cond.methodLink RL 61 yX10_bare ∈ lwG := mG 558 (by decide +kernel) rfl
theorem ml_X10_170 : Cond.methodLink RX10 170 yX9_quarters ∈ lwG := mG 562 (by decide +kernel) rfl
theorem ml_L_65 : Cond.methodLink RL 65 yX10_reached ∈ lwG := mG 563 (by decide +kernel) rfl
theorem ml_X10_172 : Cond.methodLink RX10 172 yX5_explore ∈ lwG := mG 567 (by decide +kernel) rfl
theorem ml_X5_28 : Cond.methodLink RX5 28 yX7_tabulate ∈ lwG := mG 571 (by decide +kernel) rfl
theorem mn_X7_18 : Cond.methodLinkNest RX7 18 yX10_isIn "HenHuts" ∈ lwN := mN 575 (by decide +kernel) rfl
theorem ml_X7_22 : Cond.methodLink RX7 22 yX7_fill ∈ lwG := mG 576 (by decide +kernel) rfl
theorem ml_X7_36 : Cond.methodLink RX7 36 yJ9_min_7cf53 ∈ lwG := mG 579 (by decide +kernel) rfl
theorem ml_X7_41 : Cond.methodLink RX7 41 yX9_quarters ∈ lwG := mG 582 (by decide +kernel) rfl
theorem ml_X7_45 : Cond.methodLink RX7 45 yX9_turned ∈ lwG := mG 583 (by decide +kernel) rfl
theorem ml_X5_32 : Cond.methodLink RX5 32 yJ7_fill_53178 ∈ lwG := mG 584 (by decide +kernel) rfl
theorem ml_X5_38 : Cond.methodLink RX5 38 yX9_number ∈ lwG := mG 585 (by decide +kernel) rfl
theorem mn_X9_77 : Cond.methodLinkNest RX9 77 yX10_numberOf "HenHuts" ∈ lwN := mN 589 (by decide +kernel) rfl
theorem mn_X5_48 : Cond.methodLinkNest RX5 48 yX10_isIn "HenHuts" ∈ lwN := mN 592 (by decide +kernel) rfl
theorem ml_X5_52 : Cond.methodLink RX5 52 yX5_reach ∈ lwG := mG 593 (by decide +kernel) rfl
theorem ml_X5_56 : Cond.methodLink RX5 56 yX7_looksBehind ∈ lwG := mG 597 (by decide +kernel) rfl
theorem ml_X7_26 : Cond.methodLink RX7 26 yX7_step ∈ lwG := mG 601 (by decide +kernel) rfl
theorem ml_L_69 : Cond.methodLink RL 69 yX10_can ∈ lwG := mG 605 (by decide +kernel) rfl
theorem ml_X10_179 : Cond.methodLink RX10 179 yX9_hasLooks ∈ lwG := mG 609 (by decide +kernel) rfl
theorem ml_L_73 : Cond.methodLink RL 73 yX10_spelled ∈ lwG := mG 613 (by decide +kernel) rfl
theorem ml_X10_185 : Cond.methodLink RX10 185 yX10_isAim ∈ lwG := mG 617 (by decide +kernel) rfl
theorem ml_X10_204 : Cond.methodLink RX10 204 yX9_hasSet ∈ lwG := mG 621 (by decide +kernel) rfl
theorem ml_X10_188 : Cond.methodLink RX10 188 yX5_firstLooking ∈ lwG := mG 625 (by decide +kernel) rfl
theorem mn_X5_60 : Cond.methodLinkNest RX5 60 yX10_maskOf "HenHuts" ∈ lwN := mN 629 (by decide +kernel) rfl
theorem ml_X10_326 : Cond.methodLink RX10 326 yX10_isIn ∈ lwG := mG 632 (by decide +kernel) rfl
theorem ml_X10_192 : Cond.methodLink RX10 192 yX5_wordOfRow ∈ lwG := mG 633 (by decide +kernel) rfl
theorem ml_L_77 : Cond.methodLink RL 77 yX10_tired ∈ lwG := mG 637 (by decide +kernel) rfl
theorem ml_X10_195 : Cond.methodLink RX10 195 yX5_leastQuarters ∈ lwG := mG 641 (by decide +kernel) rfl
theorem ml_X5_70 : Cond.methodLink RX5 70 yX5_cheapen ∈ lwG := mG 645 (by decide +kernel) rfl
theorem ml_X5_78 : Cond.methodLink RX5 78 yX7_quartersOf ∈ lwG := mG 649 (by decide +kernel) rfl
theorem ml_X5_73 : Cond.methodLink RX5 73 yJ9_max_7cf53 ∈ lwG := mG 653 (by decide +kernel) rfl
theorem ml_L_81 : Cond.methodLink RL 81 yX10_able ∈ lwG := mG 656 (by decide +kernel) rfl
theorem ml_X10_199 : Cond.methodLink RX10 199 yX3_fewestWords ∈ lwG := mG 660 (by decide +kernel) rfl
theorem cp_X3_31 : cpL 31 RX3 := ⟨mG 664 (by decide +kernel) rfl, mG 504 (by decide +kernel) rfl, mG 503 (by decide +kernel) rfl, mG 80 (by decide +kernel) rfl⟩
theorem ml_X3_39 : Cond.methodLink RX3 39 yX9_number ∈ lwG := mG 665 (by decide +kernel) rfl
theorem mn_X3_43 : Cond.methodLinkNest RX3 43 yX10_maskOf "HenHuts" ∈ lwN := mN 666 (by decide +kernel) rfl
theorem ml_X3_47 : Cond.methodLink RX3 47 yX3_isMet ∈ lwG := mG 667 (by decide +kernel) rfl
theorem ml_X3_51 : Cond.methodLink RX3 51 yX9_knows ∈ lwG := mG 670 (by decide +kernel) rfl
theorem ml_X3_55 : Cond.methodLink RX3 55 yX3_hear ∈ lwG := mG 671 (by decide +kernel) rfl
theorem mn_X3_62 : Cond.methodLinkNest RX3 62 yX10_isIn "HenHuts" ∈ lwN := mN 675 (by decide +kernel) rfl
theorem ml_X3_66 : Cond.methodLink RX3 66 yX9_quarters ∈ lwG := mG 676 (by decide +kernel) rfl
theorem ml_X3_70 : Cond.methodLink RX3 70 yX9_turned ∈ lwG := mG 677 (by decide +kernel) rfl
theorem mn_X3_73 : Cond.methodLinkNest RX3 73 yX10_lookIn "HenHuts" ∈ lwN := mN 678 (by decide +kernel) rfl
theorem ml_L_85 : Cond.methodLink RL 85 yX10_without ∈ lwG := mG 681 (by decide +kernel) rfl
theorem ml_X10_202 : Cond.methodLink RX10 202 yX10_fewestWords ∈ lwG := mG 685 (by decide +kernel) rfl
theorem ml_L_89 : Cond.methodLink RL 89 yX10_round ∈ lwG := mG 689 (by decide +kernel) rfl
theorem ml_X10_207 : Cond.methodLink RX10 207 yX10_looksOfSides ∈ lwG := mG 693 (by decide +kernel) rfl
theorem ml_X10_214 : Cond.methodLink RX10 214 yX6_fewestMinutes ∈ lwG := mG 697 (by decide +kernel) rfl
theorem ml_X6_36 : Cond.methodLink RX6 36 yX7_tabulate ∈ lwG := mG 701 (by decide +kernel) rfl
theorem ml_X6_42 : Cond.methodLink RX6 42 yJ7_fill_53178 ∈ lwG := mG 702 (by decide +kernel) rfl
theorem ml_X6_48 : Cond.methodLink RX6 48 yX9_number ∈ lwG := mG 703 (by decide +kernel) rfl
theorem ml_X6_52 : Cond.methodLink RX6 52 yX6_knockAll ∈ lwG := mG 704 (by decide +kernel) rfl
theorem ml_X6_78 : Cond.methodLink RX6 78 yX6_doorsAt ∈ lwG := mG 708 (by decide +kernel) rfl
theorem mn_X6_70 : Cond.methodLinkNest RX6 70 yX10_isIn "HenHuts" ∈ lwN := mN 712 (by decide +kernel) rfl
theorem mn_X6_84 : Cond.methodLinkNest RX6 84 yX10_lookIn "HenHuts" ∈ lwN := mN 713 (by decide +kernel) rfl
theorem ml_X6_81 : Cond.methodLink RX6 81 yX6_withDoors ∈ lwG := mG 714 (by decide +kernel) rfl
theorem ml_X6_87 : Cond.methodLink RX6 87 yJ6_numberOfTrailingZeros_0f7a4 ∈ lwG := mG 717 (by decide +kernel) rfl
theorem kc_J6_264 : Cond.constant RJ6 264 (65536) ∈ lwG := mG 720 (by decide +kernel) rfl
theorem kc_X6_56 : Cond.constant RX6 56 (32768) ∈ lwG := mG 721 (by decide +kernel) rfl
theorem ml_X6_57 : Cond.methodLink RX6 57 yX6_isServed ∈ lwG := mG 722 (by decide +kernel) rfl
theorem ml_X6_60 : Cond.methodLink RX6 60 yJ6_bitCount_0f7a4 ∈ lwG := mG 726 (by decide +kernel) rfl
theorem ml_X6_66 : Cond.methodLink RX6 66 yX6_hear ∈ lwG := mG 727 (by decide +kernel) rfl
theorem ml_X6_74 : Cond.methodLink RX6 74 yX7_looksBehind ∈ lwG := mG 731 (by decide +kernel) rfl
theorem ml_L_93 : Cond.methodLink RL 93 yX10_two ∈ lwG := mG 732 (by decide +kernel) rfl
theorem ml_X10_218 : Cond.methodLink RX10 218 yX9_knowsAll ∈ lwG := mG 736 (by decide +kernel) rfl
theorem ml_X10_221 : Cond.methodLink RX10 221 yX0_settle ∈ lwG := mG 740 (by decide +kernel) rfl
theorem ml_X0_18 : Cond.methodLink RX0 18 yX0_settlePlace ∈ lwG := mG 744 (by decide +kernel) rfl
theorem mn_X0_22 : Cond.methodLinkNest RX0 22 yX10_isIn "HenHuts" ∈ lwN := mN 748 (by decide +kernel) rfl
theorem ml_X0_26 : Cond.methodLink RX0 26 yX9_quarters ∈ lwG := mG 749 (by decide +kernel) rfl
theorem ml_X0_32 : Cond.methodLink RX0 32 yX9_turned ∈ lwG := mG 750 (by decide +kernel) rfl
theorem ml_L_98 : Cond.methodLink RL 98 yX10_pairs ∈ lwG := mG 751 (by decide +kernel) rfl
theorem ml_X10_231 : Cond.methodLink RX10 231 yX1_survey ∈ lwG := mG 755 (by decide +kernel) rfl
theorem ml_X1_33 : Cond.methodLink RX1 33 yX1_wayBetween ∈ lwG := mG 759 (by decide +kernel) rfl
theorem ml_X1_37 : Cond.methodLink RX1 37 yX1_isFree ∈ lwG := mG 762 (by decide +kernel) rfl
theorem ml_X10_234 : Cond.methodLink RX10 234 yX9_number ∈ lwG := mG 765 (by decide +kernel) rfl
theorem ml_X10_237 : Cond.methodLink RX10 237 yX1_pairsIn ∈ lwG := mG 766 (by decide +kernel) rfl
theorem mn_X1_41 : Cond.methodLinkNest RX1 41 yX10_lookIn "HenHuts" ∈ lwN := mN 770 (by decide +kernel) rfl
theorem ml_L_102 : Cond.methodLink RL 102 yX10_danced ∈ lwG := mG 771 (by decide +kernel) rfl
theorem ml_L_106 : Cond.methodLink RL 106 yX10_elected ∈ lwG := mG 775 (by decide +kernel) rfl
theorem ml_X10_243 : Cond.methodLink RX10 243 yX10_votes ∈ lwG := mG 779 (by decide +kernel) rfl
theorem ml_X10_323 : Cond.methodLink RX10 323 yX10_lookIn ∈ lwG := mG 783 (by decide +kernel) rfl
theorem ml_L_110 : Cond.methodLink RL 110 yX10_majority ∈ lwG := mG 784 (by decide +kernel) rfl
theorem ml_L_114 : Cond.methodLink RL 114 yX10_seen ∈ lwG := mG 788 (by decide +kernel) rfl
theorem ml_X10_246 : Cond.methodLink RX10 246 yX9_addSight ∈ lwG := mG 792 (by decide +kernel) rfl
theorem ml_L_118 : Cond.methodLink RL 118 yX10_forget ∈ lwG := mG 796 (by decide +kernel) rfl
theorem ml_L_122 : Cond.methodLink RL 122 yX10_tracks ∈ lwG := mG 800 (by decide +kernel) rfl
theorem ml_X10_252 : Cond.methodLink RX10 252 yX10_isTrackable ∈ lwG := mG 804 (by decide +kernel) rfl
theorem ml_X10_319 : Cond.methodLink RX10 319 yX4_hasOnlyWords ∈ lwG := mG 808 (by decide +kernel) rfl
theorem ml_X4_34 : Cond.methodLink RX4 34 yX9_knows ∈ lwG := mG 812 (by decide +kernel) rfl
theorem ml_X10_256 : Cond.methodLink RX10 256 yX8_follow ∈ lwG := mG 813 (by decide +kernel) rfl
theorem ml_X8_27 : Cond.methodLink RX8 27 yX8_fits ∈ lwG := mG 817 (by decide +kernel) rfl
theorem ml_X8_43 : Cond.methodLink RX8 43 yX8_isSo ∈ lwG := mG 820 (by decide +kernel) rfl
theorem mn_X8_55 : Cond.methodLinkNest RX8 55 yX10_isDigit "HenHuts" ∈ lwN := mN 823 (by decide +kernel) rfl
theorem ml_X8_62 : Cond.methodLink RX8 62 yX9_knows ∈ lwG := mG 824 (by decide +kernel) rfl
theorem ml_X8_65 : Cond.methodLink RX8 65 yX9_quarters ∈ lwG := mG 825 (by decide +kernel) rfl
theorem ml_X8_69 : Cond.methodLink RX8 69 yX9_turned ∈ lwG := mG 826 (by decide +kernel) rfl
theorem ml_X8_72 : Cond.methodLink RX8 72 yX8_isSeenLater ∈ lwG := mG 827 (by decide +kernel) rfl
theorem ml_X8_31 : Cond.methodLink RX8 31 yJ6_bitCount_0f7a4 ∈ lwG := mG 830 (by decide +kernel) rfl
theorem ml_X8_37 : Cond.methodLink RX8 37 yJ6_numberOfTrailingZeros_0f7a4 ∈ lwG := mG 831 (by decide +kernel) rfl
theorem ml_L_126 : Cond.methodLink RL 126 yX10_looked ∈ lwG := mG 832 (by decide +kernel) rfl
theorem ml_L_130 : Cond.methodLink RL 130 yX10_storm ∈ lwG := mG 836 (by decide +kernel) rfl
theorem kl_X10_268 : Cond.constantLong RX10 268 (-1000000000000000001) ∈ lwG := mG 840 (by decide +kernel) rfl
theorem kl_X10_270 : Cond.constantLong RX10 270 (-1000000000000000002) ∈ lwG := mG 841 (by decide +kernel) rfl
theorem ml_X10_272 : Cond.methodLink RX10 272 yX10_stormUpper ∈ lwG := mG 842 (by decide +kernel) rfl
theorem kl_X10_276 : Cond.constantLong RX10 276 (10) ∈ lwG := mG 845 (by decide +kernel) rfl
theorem ml_X10_278 : Cond.methodLink RX10 278 yX10_commonDivisor ∈ lwG := mG 846 (by decide +kernel) rfl
theorem ml_X10_282 : Cond.methodLink RX10 282 yJ9_max_f86c9 ∈ lwG := mG 849 (by decide +kernel) rfl
theorem ml_L_135 : Cond.methodLink RL 135 yX10_ninety ∈ lwG := mG 852 (by decide +kernel) rfl
theorem ml_X10_287 : Cond.methodLink RX10 287 yX2_playDraws ∈ lwG := mG 856 (by decide +kernel) rfl
theorem kc_X2_75 : Cond.constant RX2 75 (65537) ∈ lwG := mG 860 (by decide +kernel) rfl
theorem ml_X10_291 : Cond.methodLink RX10 291 yX10_numberOf ∈ lwG := mG 861 (by decide +kernel) rfl
theorem ml_L_139 : Cond.methodLink RL 139 yX10_image ∈ lwG := mG 862 (by decide +kernel) rfl
theorem ml_X10_298 : Cond.methodLink RX10 298 yX9_copyFrom ∈ lwG := mG 866 (by decide +kernel) rfl
theorem cp_X9_59 : cpL 59 RX9 := ⟨mG 870 (by decide +kernel) rfl, mG 504 (by decide +kernel) rfl, mG 503 (by decide +kernel) rfl, mG 80 (by decide +kernel) rfl⟩
theorem ml_L_143 : Cond.methodLink RL 143 yX10_restore ∈ lwG := mG 871 (by decide +kernel) rfl
theorem ml_L_147 : Cond.methodLink RL 147 yX10_told ∈ lwG := mG 875 (by decide +kernel) rfl
theorem ml_X10_304 : Cond.methodLink RX10 304 yX10_toldOfHut ∈ lwG := mG 879 (by decide +kernel) rfl
theorem ml_X10_307 : Cond.methodLink RX10 307 yX10_toldOfWord ∈ lwG := mG 883 (by decide +kernel) rfl
theorem cl_L_10 : Cond.classLink RL 10 RX11 ∈ lwG := mG 887 (by decide +kernel) rfl
theorem in_X11 : Cond.instantiable RX11 41 ∈ lwG ∧ Cond.initialized RX11 ∈ lwG := ⟨mG 888 (by decide +kernel) rfl, mG 78 (by decide +kernel) rfl⟩
theorem ml_L_12 : Cond.methodLink RL 12 yX11_init ∈ lwG := mG 889 (by decide +kernel) rfl
theorem oi_X11 : Cond.methodLink RX11 1 objectInit ∈ lwG := mG 892 (by decide +kernel) rfl
theorem kc_X11_64 : Cond.constant RX11 64 (32768) ∈ lwG := mG 893 (by decide +kernel) rfl
theorem ml_X11_90 : Cond.methodLink RX11 90 yX11_begin ∈ lwG := mG 894 (by decide +kernel) rfl
theorem fl_X11_94 : FL RX11 94 11 0 := FL.mk (q := (RX11, TX11, 41)) 898 rfl (by decide) (by decide +kernel)
theorem fl_X11_7 : FL RX11 7 11 1 := FL.mk (q := (RX11, TX11, 41)) 899 rfl (by decide) (by decide +kernel)
theorem fl_X11_13 : FL RX11 13 11 2 := FL.mk (q := (RX11, TX11, 41)) 900 rfl (by decide) (by decide +kernel)
theorem fl_X11_16 : FL RX11 16 11 3 := FL.mk (q := (RX11, TX11, 41)) 901 rfl (by decide) (by decide +kernel)
theorem fl_X11_19 : FL RX11 19 11 4 := FL.mk (q := (RX11, TX11, 41)) 902 rfl (by decide) (by decide +kernel)
theorem fl_X11_22 : FL RX11 22 11 5 := FL.mk (q := (RX11, TX11, 41)) 903 rfl (by decide) (by decide +kernel)
theorem fl_X11_98 : FL RX11 98 11 6 := FL.mk (q := (RX11, TX11, 41)) 904 rfl (by decide) (by decide +kernel)
theorem fl_X11_25 : FL RX11 25 11 7 := FL.mk (q := (RX11, TX11, 41)) 905 rfl (by decide) (by decide +kernel)
theorem fl_X11_28 : FL RX11 28 11 8 := FL.mk (q := (RX11, TX11, 41)) 906 rfl (by decide) (by decide +kernel)
theorem fl_X11_31 : FL RX11 31 11 9 := FL.mk (q := (RX11, TX11, 41)) 907 rfl (by decide) (by decide +kernel)
theorem fl_X11_34 : FL RX11 34 11 10 := FL.mk (q := (RX11, TX11, 41)) 908 rfl (by decide) (by decide +kernel)
theorem fl_X11_101 : FL RX11 101 11 11 := FL.mk (q := (RX11, TX11, 41)) 909 rfl (by decide) (by decide +kernel)
theorem fl_X11_37 : FL RX11 37 11 12 := FL.mk (q := (RX11, TX11, 41)) 910 rfl (by decide) (by decide +kernel)
theorem fl_X11_128 : FL RX11 128 11 13 := FL.mk (q := (RX11, TX11, 41)) 911 rfl (by decide) (by decide +kernel)
theorem fl_X11_40 : FL RX11 40 11 14 := FL.mk (q := (RX11, TX11, 41)) 912 rfl (by decide) (by decide +kernel)
theorem fl_X11_135 : FL RX11 135 11 15 := FL.mk (q := (RX11, TX11, 41)) 913 rfl (by decide) (by decide +kernel)
theorem fl_X11_165 : FL RX11 165 11 16 := FL.mk (q := (RX11, TX11, 41)) 914 rfl (by decide) (by decide +kernel)
theorem fl_X11_180 : FL RX11 180 11 17 := FL.mk (q := (RX11, TX11, 41)) 915 rfl (by decide) (by decide +kernel)
theorem fl_X11_162 : FL RX11 162 11 18 := FL.mk (q := (RX11, TX11, 41)) 916 rfl (by decide) (by decide +kernel)
theorem fl_X11_43 : FL RX11 43 11 19 := FL.mk (q := (RX11, TX11, 41)) 917 rfl (by decide) (by decide +kernel)
theorem fl_X11_46 : FL RX11 46 11 20 := FL.mk (q := (RX11, TX11, 41)) 918 rfl (by decide) (by decide +kernel)
theorem fl_X11_183 : FL RX11 183 11 21 := FL.mk (q := (RX11, TX11, 41)) 919 rfl (by decide) (by decide +kernel)
theorem fl_X11_186 : FL RX11 186 11 22 := FL.mk (q := (RX11, TX11, 41)) 920 rfl (by decide) (by decide +kernel)
theorem fl_X11_49 : FL RX11 49 11 23 := FL.mk (q := (RX11, TX11, 41)) 921 rfl (by decide) (by decide +kernel)
theorem fl_X11_208 : FL RX11 208 11 24 := FL.mk (q := (RX11, TX11, 41)) 922 rfl (by decide) (by decide +kernel)
theorem fl_X11_52 : FL RX11 52 11 25 := FL.mk (q := (RX11, TX11, 41)) 923 rfl (by decide) (by decide +kernel)
theorem fl_X11_55 : FL RX11 55 11 26 := FL.mk (q := (RX11, TX11, 41)) 924 rfl (by decide) (by decide +kernel)
theorem fl_X11_58 : FL RX11 58 11 27 := FL.mk (q := (RX11, TX11, 41)) 925 rfl (by decide) (by decide +kernel)
theorem fl_X11_61 : FL RX11 61 11 28 := FL.mk (q := (RX11, TX11, 41)) 926 rfl (by decide) (by decide +kernel)
theorem fl_X11_65 : FL RX11 65 11 29 := FL.mk (q := (RX11, TX11, 41)) 927 rfl (by decide) (by decide +kernel)
theorem fl_X11_68 : FL RX11 68 11 30 := FL.mk (q := (RX11, TX11, 41)) 928 rfl (by decide) (by decide +kernel)
theorem fl_X11_71 : FL RX11 71 11 31 := FL.mk (q := (RX11, TX11, 41)) 929 rfl (by decide) (by decide +kernel)
theorem fl_X11_74 : FL RX11 74 11 32 := FL.mk (q := (RX11, TX11, 41)) 930 rfl (by decide) (by decide +kernel)
theorem fl_X11_77 : FL RX11 77 11 33 := FL.mk (q := (RX11, TX11, 41)) 931 rfl (by decide) (by decide +kernel)
theorem fl_X11_288 : FL RX11 288 11 34 := FL.mk (q := (RX11, TX11, 41)) 932 rfl (by decide) (by decide +kernel)
theorem fl_X11_291 : FL RX11 291 11 35 := FL.mk (q := (RX11, TX11, 41)) 933 rfl (by decide) (by decide +kernel)
theorem fl_X11_80 : FL RX11 80 11 36 := FL.mk (q := (RX11, TX11, 41)) 934 rfl (by decide) (by decide +kernel)
theorem fl_X11_83 : FL RX11 83 11 37 := FL.mk (q := (RX11, TX11, 41)) 935 rfl (by decide) (by decide +kernel)
theorem fl_X11_86 : FL RX11 86 11 38 := FL.mk (q := (RX11, TX11, 41)) 936 rfl (by decide) (by decide +kernel)
theorem fl_X11_330 : FL RX11 330 11 39 := FL.mk (q := (RX11, TX11, 41)) 937 rfl (by decide) (by decide +kernel)
theorem fl_X11_326 : FL RX11 326 11 40 := FL.mk (q := (RX11, TX11, 41)) 938 rfl (by decide) (by decide +kernel)
theorem ml_L_17 : Cond.methodLink RL 17 yX11_huts ∈ lwG := mG 1022 (by decide +kernel) rfl
theorem kl_X11_110 : Cond.constantLong RX11 110 (5) ∈ lwG := mG 1026 (by decide +kernel) rfl
theorem ml_X11_104 : Cond.methodLink RX11 104 yX11_in ∈ lwG := mG 1027 (by decide +kernel) rfl
theorem ml_L_22 : Cond.methodLink RL 22 yX11_hut ∈ lwG := mG 1030 (by decide +kernel) rfl
theorem ml_X11_112 : Cond.methodLink RX11 112 yX11_isHut ∈ lwG := mG 1034 (by decide +kernel) rfl
theorem kl_X11_108 : Cond.constantLong RX11 108 (3) ∈ lwG := mG 1038 (by decide +kernel) rfl
theorem ml_X11_116 : Cond.methodLink RX11 116 yX11_greatest ∈ lwG := mG 1039 (by decide +kernel) rfl
theorem ml_X11_120 : Cond.methodLink RX11 120 yX11_isTaken ∈ lwG := mG 1042 (by decide +kernel) rfl
theorem ml_L_26 : Cond.methodLink RL 26 yX11_say ∈ lwG := mG 1046 (by decide +kernel) rfl
theorem kl_X11_124 : Cond.constantLong RX11 124 (33) ∈ lwG := mG 1050 (by decide +kernel) rfl
theorem kl_X11_126 : Cond.constantLong RX11 126 (126) ∈ lwG := mG 1051 (by decide +kernel) rfl
theorem ml_L_31 : Cond.methodLink RL 31 yX11_wipe ∈ lwG := mG 1052 (by decide +kernel) rfl
theorem ml_L_35 : Cond.methodLink RL 35 yX11_fault ∈ lwG := mG 1056 (by decide +kernel) rfl
theorem ml_X11_145 : Cond.methodLink RX11 145 yX11_faultOfSpell ∈ lwG := mG 1060 (by decide +kernel) rfl
theorem kl_X11_131 : Cond.constantLong RX11 131 (48) ∈ lwG := mG 1064 (by decide +kernel) rfl
theorem kl_X11_133 : Cond.constantLong RX11 133 (51) ∈ lwG := mG 1065 (by decide +kernel) rfl
theorem ml_X11_149 : Cond.methodLink RX11 149 yX11_faultOfEvening ∈ lwG := mG 1066 (by decide +kernel) rfl
theorem ml_X11_138 : Cond.methodLink RX11 138 yX11_wayOf ∈ lwG := mG 1070 (by decide +kernel) rfl
theorem kl_X11_141 : Cond.constantLong RX11 141 (97) ∈ lwG := mG 1073 (by decide +kernel) rfl
theorem kl_X11_143 : Cond.constantLong RX11 143 (102) ∈ lwG := mG 1074 (by decide +kernel) rfl
theorem ml_L_39 : Cond.methodLink RL 39 yX11_word ∈ lwG := mG 1075 (by decide +kernel) rfl
theorem ml_X11_152 : Cond.methodLink RX11 152 yX11_ones ∈ lwG := mG 1079 (by decide +kernel) rfl
theorem ml_L_43 : Cond.methodLink RL 43 yX11_unword ∈ lwG := mG 1082 (by decide +kernel) rfl
theorem ml_X11_155 : Cond.methodLink RX11 155 yX11_isKnown ∈ lwG := mG 1086 (by decide +kernel) rfl
theorem ml_L_47 : Cond.methodLink RL 47 yX11_judge ∈ lwG := mG 1090 (by decide +kernel) rfl
theorem ml_X11_195 : Cond.methodLink RX11 195 yX11_keepNow ∈ lwG := mG 1094 (by decide +kernel) rfl
theorem ml_X11_198 : Cond.methodLink RX11 198 yX11_goEvening ∈ lwG := mG 1098 (by decide +kernel) rfl
theorem ml_X11_189 : Cond.methodLink RX11 189 yX11_whyNot ∈ lwG := mG 1102 (by decide +kernel) rfl
theorem ml_X11_192 : Cond.methodLink RX11 192 yX11_happen ∈ lwG := mG 1106 (by decide +kernel) rfl
theorem ml_X11_171 : Cond.methodLink RX11 171 yX11_sayWord ∈ lwG := mG 1110 (by decide +kernel) rfl
theorem ml_X11_158 : Cond.methodLink RX11 158 yX11_heeds ∈ lwG := mG 1114 (by decide +kernel) rfl
theorem ml_X11_168 : Cond.methodLink RX11 168 yX11_turned ∈ lwG := mG 1118 (by decide +kernel) rfl
theorem ml_X11_174 : Cond.methodLink RX11 174 yX11_thunder ∈ lwG := mG 1122 (by decide +kernel) rfl
theorem ml_X11_177 : Cond.methodLink RX11 177 yX11_night ∈ lwG := mG 1126 (by decide +kernel) rfl
theorem ml_X11_201 : Cond.methodLink RX11 201 yX11_putBack ∈ lwG := mG 1130 (by decide +kernel) rfl
theorem ml_L_52 : Cond.methodLink RL 52 yX11_behind ∈ lwG := mG 1134 (by decide +kernel) rfl
theorem ml_L_56 : Cond.methodLink RL 56 yX11_done ∈ lwG := mG 1138 (by decide +kernel) rfl
theorem ml_L_60 : Cond.methodLink RL 60 yX11_state ∈ lwG := mG 1142 (by decide +kernel) rfl
theorem ml_L_64 : Cond.methodLink RL 64 yX11_bare ∈ lwG := mG 1146 (by decide +kernel) rfl
theorem ml_L_68 : Cond.methodLink RL 68 yX11_reached ∈ lwG := mG 1150 (by decide +kernel) rfl
theorem ml_X11_217 : Cond.methodLink RX11 217 yX11_spread ∈ lwG := mG 1154 (by decide +kernel) rfl
theorem ml_X11_211 : Cond.methodLink RX11 211 yX11_lookNow ∈ lwG := mG 1158 (by decide +kernel) rfl
theorem ml_X11_214 : Cond.methodLink RX11 214 yX11_saidTo ∈ lwG := mG 1162 (by decide +kernel) rfl
theorem ml_X11_204 : Cond.methodLink RX11 204 yX11_wayIn ∈ lwG := mG 1166 (by decide +kernel) rfl
theorem ml_L_72 : Cond.methodLink RL 72 yX11_can ∈ lwG := mG 1169 (by decide +kernel) rfl
theorem ml_X11_223 : Cond.methodLink RX11 223 yX11_isNumber ∈ lwG := mG 1173 (by decide +kernel) rfl
theorem ml_X11_220 : Cond.methodLink RX11 220 yX11_all ∈ lwG := mG 1177 (by decide +kernel) rfl
theorem ml_L_76 : Cond.methodLink RL 76 yX11_spelled ∈ lwG := mG 1181 (by decide +kernel) rfl
theorem ml_X11_230 : Cond.methodLink RX11 230 yX11_isSet ∈ lwG := mG 1185 (by decide +kernel) rfl
theorem ml_X11_233 : Cond.methodLink RX11 233 yX11_firstSo ∈ lwG := mG 1189 (by decide +kernel) rfl
theorem ml_X11_226 : Cond.methodLink RX11 226 yX11_isSo ∈ lwG := mG 1193 (by decide +kernel) rfl
theorem ml_L_80 : Cond.methodLink RL 80 yX11_tired ∈ lwG := mG 1197 (by decide +kernel) rfl
theorem kc_X11_236 : Cond.constant RX11 236 (1000000) ∈ lwG := mG 1201 (by decide +kernel) rfl
theorem ml_X11_237 : Cond.methodLink RX11 237 yX11_quartersOf ∈ lwG := mG 1202 (by decide +kernel) rfl
theorem ml_L_84 : Cond.methodLink RL 84 yX11_able ∈ lwG := mG 1206 (by decide +kernel) rfl
theorem ml_X11_240 : Cond.methodLink RX11 240 yX11_isAbleBy ∈ lwG := mG 1210 (by decide +kernel) rfl
theorem ml_L_88 : Cond.methodLink RL 88 yX11_without ∈ lwG := mG 1214 (by decide +kernel) rfl
theorem ml_L_92 : Cond.methodLink RL 92 yX11_round ∈ lwG := mG 1218 (by decide +kernel) rfl
theorem ml_X11_247 : Cond.methodLink RX11 247 yX11_layWanted ∈ lwG := mG 1222 (by decide +kernel) rfl
theorem ml_X11_244 : Cond.methodLink RX11 244 yX11_isWay ∈ lwG := mG 1226 (by decide +kernel) rfl
theorem ml_X11_250 : Cond.methodLink RX11 250 yX11_broughtBy ∈ lwG := mG 1229 (by decide +kernel) rfl
theorem ml_L_97 : Cond.methodLink RL 97 yX11_two ∈ lwG := mG 1233 (by decide +kernel) rfl
theorem kl_X11_256 : Cond.constantLong RX11 256 (63) ∈ lwG := mG 1237 (by decide +kernel) rfl
theorem ml_X11_258 : Cond.methodLink RX11 258 yX11_beginTwo ∈ lwG := mG 1238 (by decide +kernel) rfl
theorem ml_X11_262 : Cond.methodLink RX11 262 yX11_settle ∈ lwG := mG 1242 (by decide +kernel) rfl
theorem ml_X11_253 : Cond.methodLink RX11 253 yX11_after ∈ lwG := mG 1246 (by decide +kernel) rfl
theorem ml_L_101 : Cond.methodLink RL 101 yX11_pairs ∈ lwG := mG 1250 (by decide +kernel) rfl
theorem ml_X11_275 : Cond.methodLink RX11 275 yX11_pairsIn ∈ lwG := mG 1254 (by decide +kernel) rfl
theorem ml_X11_266 : Cond.methodLink RX11 266 yX11_wayTo ∈ lwG := mG 1258 (by decide +kernel) rfl
theorem ml_X11_272 : Cond.methodLink RX11 272 yX11_isClear ∈ lwG := mG 1261 (by decide +kernel) rfl
theorem ml_X11_269 : Cond.methodLink RX11 269 yX11_distance ∈ lwG := mG 1265 (by decide +kernel) rfl
theorem ml_L_105 : Cond.methodLink RL 105 yX11_danced ∈ lwG := mG 1268 (by decide +kernel) rfl
theorem kl_X11_278 : Cond.constantLong RX11 278 (2) ∈ lwG := mG 1272 (by decide +kernel) rfl
theorem ml_L_109 : Cond.methodLink RL 109 yX11_elected ∈ lwG := mG 1273 (by decide +kernel) rfl
theorem ml_X11_280 : Cond.methodLink RX11 280 yX11_lookingIn ∈ lwG := mG 1277 (by decide +kernel) rfl
theorem ml_L_113 : Cond.methodLink RL 113 yX11_majority ∈ lwG := mG 1281 (by decide +kernel) rfl
theorem ml_L_117 : Cond.methodLink RL 117 yX11_seen ∈ lwG := mG 1285 (by decide +kernel) rfl
theorem kl_X11_283 : Cond.constantLong RX11 283 (30) ∈ lwG := mG 1289 (by decide +kernel) rfl
theorem ml_L_121 : Cond.methodLink RL 121 yX11_forget ∈ lwG := mG 1290 (by decide +kernel) rfl
theorem ml_L_125 : Cond.methodLink RL 125 yX11_tracks ∈ lwG := mG 1294 (by decide +kernel) rfl
theorem ml_X11_297 : Cond.methodLink RX11 297 yX11_isUnread ∈ lwG := mG 1298 (by decide +kernel) rfl
theorem ml_X11_301 : Cond.methodLink RX11 301 yX11_findTracks ∈ lwG := mG 1302 (by decide +kernel) rfl
theorem ml_X11_294 : Cond.methodLink RX11 294 yX11_isTrack ∈ lwG := mG 1306 (by decide +kernel) rfl
theorem ml_X11_285 : Cond.methodLink RX11 285 yX11_isSeenSo ∈ lwG := mG 1310 (by decide +kernel) rfl
theorem ml_L_129 : Cond.methodLink RL 129 yX11_looked ∈ lwG := mG 1314 (by decide +kernel) rfl
theorem ml_L_134 : Cond.methodLink RL 134 yX11_storm ∈ lwG := mG 1318 (by decide +kernel) rfl
theorem kl_X11_304 : Cond.constantLong RX11 304 (-1000000000000000001) ∈ lwG := mG 1322 (by decide +kernel) rfl
theorem kl_X11_306 : Cond.constantLong RX11 306 (10) ∈ lwG := mG 1323 (by decide +kernel) rfl
theorem kl_X11_308 : Cond.constantLong RX11 308 (15) ∈ lwG := mG 1324 (by decide +kernel) rfl
theorem kl_X11_310 : Cond.constantLong RX11 310 (-1000000000000000002) ∈ lwG := mG 1325 (by decide +kernel) rfl
theorem ml_X11_312 : Cond.methodLink RX11 312 yX11_lowest ∈ lwG := mG 1326 (by decide +kernel) rfl
theorem ml_L_138 : Cond.methodLink RL 138 yX11_ninety ∈ lwG := mG 1329 (by decide +kernel) rfl
theorem kl_X11_316 : Cond.constantLong RX11 316 (9999) ∈ lwG := mG 1333 (by decide +kernel) rfl
theorem kl_X11_318 : Cond.constantLong RX11 318 (99) ∈ lwG := mG 1334 (by decide +kernel) rfl
theorem kl_X11_320 : Cond.constantLong RX11 320 (75) ∈ lwG := mG 1335 (by decide +kernel) rfl
theorem kl_X11_322 : Cond.constantLong RX11 322 (74) ∈ lwG := mG 1336 (by decide +kernel) rfl
theorem kl_X11_324 : Cond.constantLong RX11 324 (65537) ∈ lwG := mG 1337 (by decide +kernel) rfl
theorem ml_L_142 : Cond.methodLink RL 142 yX11_image ∈ lwG := mG 1338 (by decide +kernel) rfl
theorem ml_X11_336 : Cond.methodLink RX11 336 yX11_passAll ∈ lwG := mG 1342 (by decide +kernel) rfl
theorem ml_X11_333 : Cond.methodLink RX11 333 yX11_pass ∈ lwG := mG 1346 (by decide +kernel) rfl
theorem ml_L_146 : Cond.methodLink RL 146 yX11_restore ∈ lwG := mG 1350 (by decide +kernel) rfl
theorem ml_L_150 : Cond.methodLink RL 150 yX11_told ∈ lwG := mG 1354 (by decide +kernel) rfl
theorem kl_X11_339 : Cond.constantLong RX11 339 (100) ∈ lwG := mG 1358 (by decide +kernel) rfl
theorem kl_X11_341 : Cond.constantLong RX11 341 (699) ∈ lwG := mG 1359 (by decide +kernel) rfl
theorem kl_X11_343 : Cond.constantLong RX11 343 (59) ∈ lwG := mG 1360 (by decide +kernel) rfl
theorem ml_X11_345 : Cond.methodLink RX11 345 yX11_toldOfHut ∈ lwG := mG 1361 (by decide +kernel) rfl
theorem oi_inst : Cond.instanceMethod objectInit ∈ lwG := mG 88 (by decide +kernel) rfl
theorem oi_code : Cond.code objectInit ⟨#[0xb1]⟩ 1 none ∈ lwG := mG 89 (by decide +kernel) rfl
