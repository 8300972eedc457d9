/-! THE LAW over V -/
theorem mb_X5_feed : MB yX5_feed cX5_feed 2 (some .int) 1 := ⟨(tT 204 (by decide +kernel) rfl), (tT 1 (by decide +kernel) rfl), by decide, by decide, by decide +kernel⟩
theorem mv_X5_feed : MV yX5_feed 5 := ⟨(tT 202 (by decide +kernel) rfl), (tT 203 (by decide +kernel) rfl), by decide, _, rfl, rfl⟩
theorem mb_X6_feed : MB yX6_feed cX6_feed 2 (some .int) 1 := ⟨(tT 832 (by decide +kernel) rfl), (tT 7 (by decide +kernel) rfl), by decide, by decide, by decide +kernel⟩
theorem mv_X6_feed : MV yX6_feed 6 := ⟨(tT 830 (by decide +kernel) rfl), (tT 831 (by decide +kernel) rfl), by decide, _, rfl, rfl⟩
theorem mb_X5_end : MB yX5_end cX5_end 3 (some .int) 1 := ⟨(tT 212 (by decide +kernel) rfl), (tT 1 (by decide +kernel) rfl), by decide, by decide, by decide +kernel⟩
theorem mv_X5_end : MV yX5_end 5 := ⟨(tT 210 (by decide +kernel) rfl), (tT 211 (by decide +kernel) rfl), by decide, _, rfl, rfl⟩
theorem mb_X6_end : MB yX6_end cX6_end 3 (some .int) 1 := ⟨(tT 840 (by decide +kernel) rfl), (tT 7 (by decide +kernel) rfl), by decide, by decide, by decide +kernel⟩
theorem mv_X6_end : MV yX6_end 6 := ⟨(tT 838 (by decide +kernel) rfl), (tT 839 (by decide +kernel) rfl), by decide, _, rfl, rfl⟩
theorem mb_X5_text : MB yX5_text cX5_text 2 (some .int) 0 := ⟨(tT 216 (by decide +kernel) rfl), (tT 1 (by decide +kernel) rfl), by decide, by decide, by decide +kernel⟩
theorem mv_X5_text : MV yX5_text 5 := ⟨(tT 214 (by decide +kernel) rfl), (tT 215 (by decide +kernel) rfl), by decide, _, rfl, rfl⟩
theorem mb_X6_text : MB yX6_text cX6_text 3 (some .int) 0 := ⟨(tT 844 (by decide +kernel) rfl), (tT 7 (by decide +kernel) rfl), by decide, by decide, by decide +kernel⟩
theorem mv_X6_text : MV yX6_text 6 := ⟨(tT 842 (by decide +kernel) rfl), (tT 843 (by decide +kernel) rfl), by decide, _, rfl, rfl⟩
theorem mb_X5_fault : MB yX5_fault cX5_fault 1 (some .int) 0 := ⟨(tT 356 (by decide +kernel) rfl), (tT 1 (by decide +kernel) rfl), by decide, by decide, by decide +kernel⟩
theorem mv_X5_fault : MV yX5_fault 5 := ⟨(tT 354 (by decide +kernel) rfl), (tT 355 (by decide +kernel) rfl), by decide, _, rfl, rfl⟩
theorem mb_X6_fault : MB yX6_fault cX6_fault 1 (some .int) 0 := ⟨(tT 895 (by decide +kernel) rfl), (tT 7 (by decide +kernel) rfl), by decide, by decide, by decide +kernel⟩
theorem mv_X6_fault : MV yX6_fault 6 := ⟨(tT 893 (by decide +kernel) rfl), (tT 894 (by decide +kernel) rfl), by decide, _, rfl, rfl⟩
theorem mb_X5_rule : MB yX5_rule cX5_rule 2 (some .int) 1 := ⟨(tT 360 (by decide +kernel) rfl), (tT 1 (by decide +kernel) rfl), by decide, by decide, by decide +kernel⟩
theorem mv_X5_rule : MV yX5_rule 5 := ⟨(tT 358 (by decide +kernel) rfl), (tT 359 (by decide +kernel) rfl), by decide, _, rfl, rfl⟩
theorem mb_X6_rule : MB yX6_rule cX6_rule 2 (some .int) 1 := ⟨(tT 899 (by decide +kernel) rfl), (tT 7 (by decide +kernel) rfl), by decide, by decide, by decide +kernel⟩
theorem mv_X6_rule : MV yX6_rule 6 := ⟨(tT 897 (by decide +kernel) rfl), (tT 898 (by decide +kernel) rfl), by decide, _, rfl, rfl⟩
theorem mb_X5_cell : MB yX5_cell cX5_cell 4 (some .int) 3 := ⟨(tT 446 (by decide +kernel) rfl), (tT 1 (by decide +kernel) rfl), by decide, by decide, by decide +kernel⟩
theorem mv_X5_cell : MV yX5_cell 5 := ⟨(tT 444 (by decide +kernel) rfl), (tT 445 (by decide +kernel) rfl), by decide, _, rfl, rfl⟩
theorem mb_X6_cell : MB yX6_cell cX6_cell 4 (some .int) 3 := ⟨(tT 994 (by decide +kernel) rfl), (tT 7 (by decide +kernel) rfl), by decide, by decide, by decide +kernel⟩
theorem mv_X6_cell : MV yX6_cell 6 := ⟨(tT 992 (by decide +kernel) rfl), (tT 993 (by decide +kernel) rfl), by decide, _, rfl, rfl⟩
theorem mb_X5_rank : MB yX5_rank cX5_rank 2 (some .int) 1 := ⟨(tT 452 (by decide +kernel) rfl), (tT 1 (by decide +kernel) rfl), by decide, by decide, by decide +kernel⟩
theorem mv_X5_rank : MV yX5_rank 5 := ⟨(tT 450 (by decide +kernel) rfl), (tT 451 (by decide +kernel) rfl), by decide, _, rfl, rfl⟩
theorem mb_X6_rank : MB yX6_rank cX6_rank 2 (some .int) 1 := ⟨(tT 1006 (by decide +kernel) rfl), (tT 7 (by decide +kernel) rfl), by decide, by decide, by decide +kernel⟩
theorem mv_X6_rank : MV yX6_rank 6 := ⟨(tT 1004 (by decide +kernel) rfl), (tT 1005 (by decide +kernel) rfl), by decide, _, rfl, rfl⟩
theorem mb_X5_nulls : MB yX5_nulls cX5_nulls 2 (some .int) 1 := ⟨(tT 464 (by decide +kernel) rfl), (tT 1 (by decide +kernel) rfl), by decide, by decide, by decide +kernel⟩
theorem mv_X5_nulls : MV yX5_nulls 5 := ⟨(tT 462 (by decide +kernel) rfl), (tT 463 (by decide +kernel) rfl), by decide, _, rfl, rfl⟩
theorem mb_X6_nulls : MB yX6_nulls cX6_nulls 2 (some .int) 1 := ⟨(tT 1014 (by decide +kernel) rfl), (tT 7 (by decide +kernel) rfl), by decide, by decide, by decide +kernel⟩
theorem mv_X6_nulls : MV yX6_nulls 6 := ⟨(tT 1012 (by decide +kernel) rfl), (tT 1013 (by decide +kernel) rfl), by decide, _, rfl, rfl⟩
theorem mb_X5_col : MB yX5_col cX5_col 2 (some .int) 1 := ⟨(tT 472 (by decide +kernel) rfl), (tT 1 (by decide +kernel) rfl), by decide, by decide, by decide +kernel⟩
theorem mv_X5_col : MV yX5_col 5 := ⟨(tT 470 (by decide +kernel) rfl), (tT 471 (by decide +kernel) rfl), by decide, _, rfl, rfl⟩
theorem mb_X6_col : MB yX6_col cX6_col 2 (some .int) 1 := ⟨(tT 1019 (by decide +kernel) rfl), (tT 7 (by decide +kernel) rfl), by decide, by decide, by decide +kernel⟩
theorem mv_X6_col : MV yX6_col 6 := ⟨(tT 1017 (by decide +kernel) rfl), (tT 1018 (by decide +kernel) rfl), by decide, _, rfl, rfl⟩
theorem mb_X5_row : MB yX5_row cX5_row 2 (some .int) 1 := ⟨(tT 483 (by decide +kernel) rfl), (tT 1 (by decide +kernel) rfl), by decide, by decide, by decide +kernel⟩
theorem mv_X5_row : MV yX5_row 5 := ⟨(tT 481 (by decide +kernel) rfl), (tT 482 (by decide +kernel) rfl), by decide, _, rfl, rfl⟩
theorem mb_X6_row : MB yX6_row cX6_row 2 (some .int) 1 := ⟨(tT 1026 (by decide +kernel) rfl), (tT 7 (by decide +kernel) rfl), by decide, by decide, by decide +kernel⟩
theorem mv_X6_row : MV yX6_row 6 := ⟨(tT 1024 (by decide +kernel) rfl), (tT 1025 (by decide +kernel) rfl), by decide, _, rfl, rfl⟩
theorem mb_X5_chains : MB yX5_chains cX5_chains 3 (some .int) 2 := ⟨(tT 491 (by decide +kernel) rfl), (tT 1 (by decide +kernel) rfl), by decide, by decide, by decide +kernel⟩
theorem mv_X5_chains : MV yX5_chains 5 := ⟨(tT 489 (by decide +kernel) rfl), (tT 490 (by decide +kernel) rfl), by decide, _, rfl, rfl⟩
theorem mb_X6_chains : MB yX6_chains cX6_chains 3 (some .int) 2 := ⟨(tT 1030 (by decide +kernel) rfl), (tT 7 (by decide +kernel) rfl), by decide, by decide, by decide +kernel⟩
theorem mv_X6_chains : MV yX6_chains 6 := ⟨(tT 1028 (by decide +kernel) rfl), (tT 1029 (by decide +kernel) rfl), by decide, _, rfl, rfl⟩
theorem mb_X5_length : MB yX5_length cX5_length 3 (some .int) 2 := ⟨(tT 496 (by decide +kernel) rfl), (tT 1 (by decide +kernel) rfl), by decide, by decide, by decide +kernel⟩
theorem mv_X5_length : MV yX5_length 5 := ⟨(tT 494 (by decide +kernel) rfl), (tT 495 (by decide +kernel) rfl), by decide, _, rfl, rfl⟩
theorem mb_X6_length : MB yX6_length cX6_length 4 (some .int) 2 := ⟨(tT 1034 (by decide +kernel) rfl), (tT 7 (by decide +kernel) rfl), by decide, by decide, by decide +kernel⟩
theorem mv_X6_length : MV yX6_length 6 := ⟨(tT 1032 (by decide +kernel) rfl), (tT 1033 (by decide +kernel) rfl), by decide, _, rfl, rfl⟩
theorem mb_X5_steps : MB yX5_steps cX5_steps 3 (some .int) 2 := ⟨(tT 504 (by decide +kernel) rfl), (tT 1 (by decide +kernel) rfl), by decide, by decide, by decide +kernel⟩
theorem mv_X5_steps : MV yX5_steps 5 := ⟨(tT 502 (by decide +kernel) rfl), (tT 503 (by decide +kernel) rfl), by decide, _, rfl, rfl⟩
theorem mb_X6_steps : MB yX6_steps cX6_steps 4 (some .int) 2 := ⟨(tT 1045 (by decide +kernel) rfl), (tT 7 (by decide +kernel) rfl), by decide, by decide, by decide +kernel⟩
theorem mv_X6_steps : MV yX6_steps 6 := ⟨(tT 1043 (by decide +kernel) rfl), (tT 1044 (by decide +kernel) rfl), by decide, _, rfl, rfl⟩
theorem mb_X5_go : MB yX5_go cX5_go 3 (some .int) 2 := ⟨(tT 520 (by decide +kernel) rfl), (tT 1 (by decide +kernel) rfl), by decide, by decide, by decide +kernel⟩
theorem mv_X5_go : MV yX5_go 5 := ⟨(tT 518 (by decide +kernel) rfl), (tT 519 (by decide +kernel) rfl), by decide, _, rfl, rfl⟩
theorem mb_X6_go : MB yX6_go cX6_go 6 (some .int) 2 := ⟨(tT 1056 (by decide +kernel) rfl), (tT 7 (by decide +kernel) rfl), by decide, by decide, by decide +kernel⟩
theorem mv_X6_go : MV yX6_go 6 := ⟨(tT 1054 (by decide +kernel) rfl), (tT 1055 (by decide +kernel) rfl), by decide, _, rfl, rfl⟩
theorem mb_X5_set : MB yX5_set cX5_set 6 (some .int) 4 := ⟨(tT 536 (by decide +kernel) rfl), (tT 1 (by decide +kernel) rfl), by decide, by decide, by decide +kernel⟩
theorem mv_X5_set : MV yX5_set 5 := ⟨(tT 534 (by decide +kernel) rfl), (tT 535 (by decide +kernel) rfl), by decide, _, rfl, rfl⟩
theorem mb_X5_open : MB yX5_open cX5_open 2 (some .int) 1 := ⟨(tT 545 (by decide +kernel) rfl), (tT 1 (by decide +kernel) rfl), by decide, by decide, by decide +kernel⟩
theorem mv_X5_open : MV yX5_open 5 := ⟨(tT 543 (by decide +kernel) rfl), (tT 544 (by decide +kernel) rfl), by decide, _, rfl, rfl⟩
theorem mb_X6_open : MB yX6_open cX6_open 5 (some .int) 1 := ⟨(tT 1076 (by decide +kernel) rfl), (tT 7 (by decide +kernel) rfl), by decide, by decide, by decide +kernel⟩
theorem mv_X6_open : MV yX6_open 6 := ⟨(tT 1074 (by decide +kernel) rfl), (tT 1075 (by decide +kernel) rfl), by decide, _, rfl, rfl⟩
theorem mb_X5_cut : MB yX5_cut cX5_cut 4 (some .int) 2 := ⟨(tT 558 (by decide +kernel) rfl), (tT 1 (by decide +kernel) rfl), by decide, by decide, by decide +kernel⟩
theorem mv_X5_cut : MV yX5_cut 5 := ⟨(tT 556 (by decide +kernel) rfl), (tT 557 (by decide +kernel) rfl), by decide, _, rfl, rfl⟩
theorem mb_X6_cut : MB yX6_cut cX6_cut 4 (some .int) 2 := ⟨(tT 1080 (by decide +kernel) rfl), (tT 7 (by decide +kernel) rfl), by decide, by decide, by decide +kernel⟩
theorem mv_X6_cut : MV yX6_cut 6 := ⟨(tT 1078 (by decide +kernel) rfl), (tT 1079 (by decide +kernel) rfl), by decide, _, rfl, rfl⟩
theorem mb_X5_mix : MB yX5_mix cX5_mix 5 (some .int) 4 := ⟨(tT 571 (by decide +kernel) rfl), (tT 1 (by decide +kernel) rfl), by decide, by decide, by decide +kernel⟩
theorem mv_X5_mix : MV yX5_mix 5 := ⟨(tT 569 (by decide +kernel) rfl), (tT 570 (by decide +kernel) rfl), by decide, _, rfl, rfl⟩
theorem mb_X5_times : MB yX5_times cX5_times 4 (some .int) 3 := ⟨(tT 603 (by decide +kernel) rfl), (tT 1 (by decide +kernel) rfl), by decide, by decide, by decide +kernel⟩
theorem mv_X5_times : MV yX5_times 5 := ⟨(tT 601 (by decide +kernel) rfl), (tT 602 (by decide +kernel) rfl), by decide, _, rfl, rfl⟩
theorem mb_X6_times : MB yX6_times cX6_times 6 (some .int) 3 := ⟨(tT 1108 (by decide +kernel) rfl), (tT 7 (by decide +kernel) rfl), by decide, by decide, by decide +kernel⟩
theorem mv_X6_times : MV yX6_times 6 := ⟨(tT 1106 (by decide +kernel) rfl), (tT 1107 (by decide +kernel) rfl), by decide, _, rfl, rfl⟩
theorem mb_X5_swap : MB yX5_swap cX5_swap 4 (some .int) 3 := ⟨(tT 611 (by decide +kernel) rfl), (tT 1 (by decide +kernel) rfl), by decide, by decide, by decide +kernel⟩
theorem mv_X5_swap : MV yX5_swap 5 := ⟨(tT 609 (by decide +kernel) rfl), (tT 610 (by decide +kernel) rfl), by decide, _, rfl, rfl⟩
theorem mb_X6_swap : MB yX6_swap cX6_swap 7 (some .int) 3 := ⟨(tT 1112 (by decide +kernel) rfl), (tT 7 (by decide +kernel) rfl), by decide, by decide, by decide +kernel⟩
theorem mv_X6_swap : MV yX6_swap 6 := ⟨(tT 1110 (by decide +kernel) rfl), (tT 1111 (by decide +kernel) rfl), by decide, _, rfl, rfl⟩
theorem mb_X5_scramble : MB yX5_scramble cX5_scramble 6 (some .int) 2 := ⟨(tT 619 (by decide +kernel) rfl), (tT 1 (by decide +kernel) rfl), by decide, by decide, by decide +kernel⟩
theorem mv_X5_scramble : MV yX5_scramble 5 := ⟨(tT 617 (by decide +kernel) rfl), (tT 618 (by decide +kernel) rfl), by decide, _, rfl, rfl⟩
theorem mb_X6_scramble : MB yX6_scramble cX6_scramble 9 (some .int) 2 := ⟨(tT 1116 (by decide +kernel) rfl), (tT 7 (by decide +kernel) rfl), by decide, by decide, by decide +kernel⟩
theorem mv_X6_scramble : MV yX6_scramble 6 := ⟨(tT 1114 (by decide +kernel) rfl), (tT 1115 (by decide +kernel) rfl), by decide, _, rfl, rfl⟩
theorem mb_X5_turn : MB yX5_turn cX5_turn 2 (some .int) 1 := ⟨(tT 629 (by decide +kernel) rfl), (tT 1 (by decide +kernel) rfl), by decide, by decide, by decide +kernel⟩
theorem mv_X5_turn : MV yX5_turn 5 := ⟨(tT 627 (by decide +kernel) rfl), (tT 628 (by decide +kernel) rfl), by decide, _, rfl, rfl⟩
theorem mb_X6_turn : MB yX6_turn cX6_turn 6 (some .int) 1 := ⟨(tT 1123 (by decide +kernel) rfl), (tT 7 (by decide +kernel) rfl), by decide, by decide, by decide +kernel⟩
theorem mv_X6_turn : MV yX6_turn 6 := ⟨(tT 1121 (by decide +kernel) rfl), (tT 1122 (by decide +kernel) rfl), by decide, _, rfl, rfl⟩
theorem mb_X5_keep : MB yX5_keep cX5_keep 3 (some .int) 1 := ⟨(tT 642 (by decide +kernel) rfl), (tT 1 (by decide +kernel) rfl), by decide, by decide, by decide +kernel⟩
theorem mv_X5_keep : MV yX5_keep 5 := ⟨(tT 640 (by decide +kernel) rfl), (tT 641 (by decide +kernel) rfl), by decide, _, rfl, rfl⟩
theorem mb_X6_keep : MB yX6_keep cX6_keep 4 (some .int) 1 := ⟨(tT 1132 (by decide +kernel) rfl), (tT 7 (by decide +kernel) rfl), by decide, by decide, by decide +kernel⟩
theorem mv_X6_keep : MV yX6_keep 6 := ⟨(tT 1130 (by decide +kernel) rfl), (tT 1131 (by decide +kernel) rfl), by decide, _, rfl, rfl⟩
theorem mb_X5_back : MB yX5_back cX5_back 2 (some .int) 1 := ⟨(tT 649 (by decide +kernel) rfl), (tT 1 (by decide +kernel) rfl), by decide, by decide, by decide +kernel⟩
theorem mv_X5_back : MV yX5_back 5 := ⟨(tT 647 (by decide +kernel) rfl), (tT 648 (by decide +kernel) rfl), by decide, _, rfl, rfl⟩
theorem mb_X6_back : MB yX6_back cX6_back 2 (some .int) 1 := ⟨(tT 1136 (by decide +kernel) rfl), (tT 7 (by decide +kernel) rfl), by decide, by decide, by decide +kernel⟩
theorem mv_X6_back : MV yX6_back 6 := ⟨(tT 1134 (by decide +kernel) rfl), (tT 1135 (by decide +kernel) rfl), by decide, _, rfl, rfl⟩
theorem mb_X5_alike : MB yX5_alike cX5_alike 3 (some .int) 1 := ⟨(tT 653 (by decide +kernel) rfl), (tT 1 (by decide +kernel) rfl), by decide, by decide, by decide +kernel⟩
theorem mv_X5_alike : MV yX5_alike 5 := ⟨(tT 651 (by decide +kernel) rfl), (tT 652 (by decide +kernel) rfl), by decide, _, rfl, rfl⟩
theorem mb_X6_alike : MB yX6_alike cX6_alike 4 (some .int) 1 := ⟨(tT 1144 (by decide +kernel) rfl), (tT 7 (by decide +kernel) rfl), by decide, by decide, by decide +kernel⟩
theorem mv_X6_alike : MV yX6_alike 6 := ⟨(tT 1142 (by decide +kernel) rfl), (tT 1143 (by decide +kernel) rfl), by decide, _, rfl, rfl⟩
theorem mb_X5_sheet : MB yX5_sheet cX5_sheet 4 (some .int) 3 := ⟨(tT 665 (by decide +kernel) rfl), (tT 1 (by decide +kernel) rfl), by decide, by decide, by decide +kernel⟩
theorem mv_X5_sheet : MV yX5_sheet 5 := ⟨(tT 663 (by decide +kernel) rfl), (tT 664 (by decide +kernel) rfl), by decide, _, rfl, rfl⟩
theorem mb_X6_sheet : MB yX6_sheet cX6_sheet 5 (some .int) 3 := ⟨(tT 1152 (by decide +kernel) rfl), (tT 7 (by decide +kernel) rfl), by decide, by decide, by decide +kernel⟩
theorem mv_X6_sheet : MV yX6_sheet 6 := ⟨(tT 1150 (by decide +kernel) rfl), (tT 1151 (by decide +kernel) rfl), by decide, _, rfl, rfl⟩
theorem mb_X5_lay : MB yX5_lay cX5_lay 5 (some .int) 3 := ⟨(tT 681 (by decide +kernel) rfl), (tT 1 (by decide +kernel) rfl), by decide, by decide, by decide +kernel⟩
theorem mv_X5_lay : MV yX5_lay 5 := ⟨(tT 679 (by decide +kernel) rfl), (tT 680 (by decide +kernel) rfl), by decide, _, rfl, rfl⟩
theorem mb_X6_lay : MB yX6_lay cX6_lay 4 (some .int) 3 := ⟨(tT 1160 (by decide +kernel) rfl), (tT 7 (by decide +kernel) rfl), by decide, by decide, by decide +kernel⟩
theorem mv_X6_lay : MV yX6_lay 6 := ⟨(tT 1158 (by decide +kernel) rfl), (tT 1159 (by decide +kernel) rfl), by decide, _, rfl, rfl⟩
theorem mb_X5_read : MB yX5_read cX5_read 10 (some .int) 4 := ⟨(tT 698 (by decide +kernel) rfl), (tT 1 (by decide +kernel) rfl), by decide, by decide, by decide +kernel⟩
theorem mv_X5_read : MV yX5_read 5 := ⟨(tT 696 (by decide +kernel) rfl), (tT 697 (by decide +kernel) rfl), by decide, _, rfl, rfl⟩
theorem mb_X6_read : MB yX6_read cX6_read 11 (some .int) 4 := ⟨(tT 1164 (by decide +kernel) rfl), (tT 7 (by decide +kernel) rfl), by decide, by decide, by decide +kernel⟩
theorem mv_X6_read : MV yX6_read 6 := ⟨(tT 1162 (by decide +kernel) rfl), (tT 1163 (by decide +kernel) rfl), by decide, _, rfl, rfl⟩
theorem mb_X5_torn : MB yX5_torn cX5_torn 1 (some .int) 0 := ⟨(tT 718 (by decide +kernel) rfl), (tT 1 (by decide +kernel) rfl), by decide, by decide, by decide +kernel⟩
theorem mv_X5_torn : MV yX5_torn 5 := ⟨(tT 716 (by decide +kernel) rfl), (tT 717 (by decide +kernel) rfl), by decide, _, rfl, rfl⟩
theorem mb_X6_torn : MB yX6_torn cX6_torn 1 (some .int) 0 := ⟨(tT 1170 (by decide +kernel) rfl), (tT 7 (by decide +kernel) rfl), by decide, by decide, by decide +kernel⟩
theorem mv_X6_torn : MV yX6_torn 6 := ⟨(tT 1168 (by decide +kernel) rfl), (tT 1169 (by decide +kernel) rfl), by decide, _, rfl, rfl⟩
theorem mb_X5_count : MB yX5_count cX5_count 2 (some .int) 1 := ⟨(tT 722 (by decide +kernel) rfl), (tT 1 (by decide +kernel) rfl), by decide, by decide, by decide +kernel⟩
theorem mv_X5_count : MV yX5_count 5 := ⟨(tT 720 (by decide +kernel) rfl), (tT 721 (by decide +kernel) rfl), by decide, _, rfl, rfl⟩
theorem mb_X6_count : MB yX6_count cX6_count 2 (some .int) 1 := ⟨(tT 1174 (by decide +kernel) rfl), (tT 7 (by decide +kernel) rfl), by decide, by decide, by decide +kernel⟩
theorem mv_X6_count : MV yX6_count 6 := ⟨(tT 1172 (by decide +kernel) rfl), (tT 1173 (by decide +kernel) rfl), by decide, _, rfl, rfl⟩
/-- what is owed of the functions: from memories that agree, both answer, the same, and agree again -/
def Op_feed (Rel : Mem → Prop) : Prop := (∀ (M : Mem) (a0 : Int32), Rel M → ∃ (r : Int32) (M1 M2 : Mem), Pf_feed a0 M = some (r, M1) ∧ Mo_feed a0 M1 = some (r, M2) ∧ Rel M2)
def Op_end (Rel : Mem → Prop) : Prop := (∀ (M : Mem) (a0 : Int32), Rel M → ∃ (r : Int32) (M1 M2 : Mem), Pf_end a0 M = some (r, M1) ∧ Mo_end a0 M1 = some (r, M2) ∧ Rel M2)
def Op_text (Rel : Mem → Prop) : Prop := (∀ (M : Mem), Rel M → ∃ (r : Int32) (M1 M2 : Mem), Pf_text M = some (r, M1) ∧ Mo_text M1 = some (r, M2) ∧ Rel M2)
def Op_fault (Rel : Mem → Prop) : Prop := (∀ (M : Mem), Rel M → ∃ (r : Int32) (M1 M2 : Mem), Pf_fault M = some (r, M1) ∧ Mo_fault M1 = some (r, M2) ∧ Rel M2)
def Op_rule (Rel : Mem → Prop) : Prop := (∀ (M : Mem) (a0 : Int32), Rel M → ∃ (r : Int32) (M1 M2 : Mem), Pf_rule a0 M = some (r, M1) ∧ Mo_rule a0 M1 = some (r, M2) ∧ Rel M2)
def Op_cell (Rel : Mem → Prop) : Prop := (∀ (M : Mem) (a0 a1 a2 : Int32), Rel M → ∃ (r : Int32) (M1 M2 : Mem), Pf_cell a0 a1 a2 M = some (r, M1) ∧ Mo_cell a0 a1 a2 M1 = some (r, M2) ∧ Rel M2)
def Op_rank (Rel : Mem → Prop) : Prop := (∀ (M : Mem) (a0 : Int32), Rel M → ∃ (r : Int32) (M1 M2 : Mem), Pf_rank a0 M = some (r, M1) ∧ Mo_rank a0 M1 = some (r, M2) ∧ Rel M2)
def Op_nulls (Rel : Mem → Prop) : Prop := (∀ (M : Mem) (a0 : Int32), Rel M → ∃ (r : Int32) (M1 M2 : Mem), Pf_nulls a0 M = some (r, M1) ∧ Mo_nulls a0 M1 = some (r, M2) ∧ Rel M2)
def Op_col (Rel : Mem → Prop) : Prop := (∀ (M : Mem) (a0 : Int32), Rel M → ∃ (r : Int32) (M1 M2 : Mem), Pf_col a0 M = some (r, M1) ∧ Mo_col a0 M1 = some (r, M2) ∧ Rel M2)
def Op_row (Rel : Mem → Prop) : Prop := (∀ (M : Mem) (a0 : Int32), Rel M → ∃ (r : Int32) (M1 M2 : Mem), Pf_row a0 M = some (r, M1) ∧ Mo_row a0 M1 = some (r, M2) ∧ Rel M2)
def Op_chains (Rel : Mem → Prop) : Prop := (∀ (M : Mem) (a0 a1 : Int32), Rel M → ∃ (r : Int32) (M1 M2 : Mem), Pf_chains a0 a1 M = some (r, M1) ∧ Mo_chains a0 a1 M1 = some (r, M2) ∧ Rel M2)
def Op_length (Rel : Mem → Prop) : Prop := (∀ (M : Mem) (a0 a1 : Int32), Rel M → ∃ (r : Int32) (M1 M2 : Mem), Pf_length a0 a1 M = some (r, M1) ∧ Mo_length a0 a1 M1 = some (r, M2) ∧ Rel M2)
def Op_steps (Rel : Mem → Prop) : Prop := (∀ (M : Mem) (a0 a1 : Int32), Rel M → ∃ (r : Int32) (M1 M2 : Mem), Pf_steps a0 a1 M = some (r, M1) ∧ Mo_steps a0 a1 M1 = some (r, M2) ∧ Rel M2)
def Op_go (Rel : Mem → Prop) : Prop := (∀ (M : Mem) (a0 a1 : Int32), Rel M → ∃ (r : Int32) (M1 M2 : Mem), Pf_go a0 a1 M = some (r, M1) ∧ Mo_go a0 a1 M1 = some (r, M2) ∧ Rel M2)
def Op_set (Rel : Mem → Prop) : Prop := (∀ (M : Mem) (a0 a1 a2 a3 : Int32), Rel M → ∃ (r : Int32) (M1 M2 : Mem), Pf_set a0 a1 a2 a3 M = some (r, M1) ∧ Mo_set a0 a1 a2 a3 M1 = some (r, M2) ∧ Rel M2)
def Op_open (Rel : Mem → Prop) : Prop := (∀ (M : Mem) (a0 : Int32), Rel M → ∃ (r : Int32) (M1 M2 : Mem), Pf_open a0 M = some (r, M1) ∧ Mo_open a0 M1 = some (r, M2) ∧ Rel M2)
def Op_cut (Rel : Mem → Prop) : Prop := (∀ (M : Mem) (a0 a1 : Int32), Rel M → ∃ (r : Int32) (M1 M2 : Mem), Pf_cut a0 a1 M = some (r, M1) ∧ Mo_cut a0 a1 M1 = some (r, M2) ∧ Rel M2)
def Op_mix (Rel : Mem → Prop) : Prop := (∀ (M : Mem) (a0 a1 a2 a3 : Int32), Rel M → ∃ (r : Int32) (M1 M2 : Mem), Pf_mix a0 a1 a2 a3 M = some (r, M1) ∧ Mo_mix a0 a1 a2 a3 M1 = some (r, M2) ∧ Rel M2)
def Op_times (Rel : Mem → Prop) : Prop := (∀ (M : Mem) (a0 a1 a2 : Int32), Rel M → ∃ (r : Int32) (M1 M2 : Mem), Pf_times a0 a1 a2 M = some (r, M1) ∧ Mo_times a0 a1 a2 M1 = some (r, M2) ∧ Rel M2)
def Op_swap (Rel : Mem → Prop) : Prop := (∀ (M : Mem) (a0 a1 a2 : Int32), Rel M → ∃ (r : Int32) (M1 M2 : Mem), Pf_swap a0 a1 a2 M = some (r, M1) ∧ Mo_swap a0 a1 a2 M1 = some (r, M2) ∧ Rel M2)
def Op_scramble (Rel : Mem → Prop) : Prop := (∀ (M : Mem) (a0 a1 : Int32), Rel M → ∃ (r : Int32) (M1 M2 : Mem), Pf_scramble a0 a1 M = some (r, M1) ∧ Mo_scramble a0 a1 M1 = some (r, M2) ∧ Rel M2)
def Op_turn (Rel : Mem → Prop) : Prop := (∀ (M : Mem) (a0 : Int32), Rel M → ∃ (r : Int32) (M1 M2 : Mem), Pf_turn a0 M = some (r, M1) ∧ Mo_turn a0 M1 = some (r, M2) ∧ Rel M2)
def Op_keep (Rel : Mem → Prop) : Prop := (∀ (M : Mem) (a0 : Int32), Rel M → ∃ (r : Int32) (M1 M2 : Mem), Pf_keep a0 M = some (r, M1) ∧ Mo_keep a0 M1 = some (r, M2) ∧ Rel M2)
def Op_back (Rel : Mem → Prop) : Prop := (∀ (M : Mem) (a0 : Int32), Rel M → ∃ (r : Int32) (M1 M2 : Mem), Pf_back a0 M = some (r, M1) ∧ Mo_back a0 M1 = some (r, M2) ∧ Rel M2)
def Op_alike (Rel : Mem → Prop) : Prop := (∀ (M : Mem) (a0 : Int32), Rel M → ∃ (r : Int32) (M1 M2 : Mem), Pf_alike a0 M = some (r, M1) ∧ Mo_alike a0 M1 = some (r, M2) ∧ Rel M2)
def Op_sheet (Rel : Mem → Prop) : Prop := (∀ (M : Mem) (a0 a1 a2 : Int32), Rel M → ∃ (r : Int32) (M1 M2 : Mem), Pf_sheet a0 a1 a2 M = some (r, M1) ∧ Mo_sheet a0 a1 a2 M1 = some (r, M2) ∧ Rel M2)
def Op_lay (Rel : Mem → Prop) : Prop := (∀ (M : Mem) (a0 a1 a2 : Int32), Rel M → ∃ (r : Int32) (M1 M2 : Mem), Pf_lay a0 a1 a2 M = some (r, M1) ∧ Mo_lay a0 a1 a2 M1 = some (r, M2) ∧ Rel M2)
def Op_read (Rel : Mem → Prop) : Prop := (∀ (M : Mem) (a0 a1 a2 a3 : Int32), Rel M → ∃ (r : Int32) (M1 M2 : Mem), Pf_read a0 a1 a2 a3 M = some (r, M1) ∧ Mo_read a0 a1 a2 a3 M1 = some (r, M2) ∧ Rel M2)
def Op_torn (Rel : Mem → Prop) : Prop := (∀ (M : Mem), Rel M → ∃ (r : Int32) (M1 M2 : Mem), Pf_torn M = some (r, M1) ∧ Mo_torn M1 = some (r, M2) ∧ Rel M2)
def Op_count (Rel : Mem → Prop) : Prop := (∀ (M : Mem) (a0 : Int32), Rel M → ∃ (r : Int32) (M1 M2 : Mem), Pf_count a0 M = some (r, M1) ∧ Mo_count a0 M1 = some (r, M2) ∧ Rel M2)
def Ops (Rel : Mem → Prop) : Prop := Op_feed Rel ∧ Op_end Rel ∧ Op_text Rel ∧ Op_fault Rel ∧ Op_rule Rel ∧ Op_cell Rel ∧ Op_rank Rel ∧ Op_nulls Rel ∧ Op_col Rel ∧ Op_row Rel ∧ Op_chains Rel ∧ Op_length Rel ∧ Op_steps Rel ∧ Op_go Rel ∧ Op_set Rel ∧ Op_open Rel ∧ Op_cut Rel ∧ Op_mix Rel ∧ Op_times Rel ∧ Op_swap Rel ∧ Op_scramble Rel ∧ Op_turn Rel ∧ Op_keep Rel ∧ Op_back Rel ∧ Op_alike Rel ∧ Op_sheet Rel ∧ Op_lay Rel ∧ Op_read Rel ∧ Op_torn Rel ∧ Op_count Rel
theorem tsw30 {x : Int32} (h0 : ¬ x = 0) (h1 : ¬ x = 1) (h2 : ¬ x = 2) (h3 : ¬ x = 3) (h4 : ¬ x = 4) (h5 : ¬ x = 5) (h6 : ¬ x = 6) (h7 : ¬ x = 7) (h8 : ¬ x = 8) (h9 : ¬ x = 9) (h10 : ¬ x = 10) (h11 : ¬ x = 11) (h12 : ¬ x = 12) (h13 : ¬ x = 13) (h14 : ¬ x = 14) (h15 : ¬ x = 15) (h16 : ¬ x = 16) (h17 : ¬ x = 17) (h18 : ¬ x = 18) (h19 : ¬ x = 19) (h20 : ¬ x = 20) (h21 : ¬ x = 21) (h22 : ¬ x = 22) (h23 : ¬ x = 23) (h24 : ¬ x = 24) (h25 : ¬ x = 25) (h26 : ¬ x = 26) (h27 : ¬ x = 27) (h28 : ¬ x = 28) (h29 : ¬ x = 29) : x.toInt < 0 ∨ 29 < x.toInt := by
  have b := tsw8 h0 h1 h2 h3 h4 h5 h6 h7
  have a8 : x.toInt ≠ 8 := ti_ne h8
  have a9 : x.toInt ≠ 9 := ti_ne h9
  have a10 : x.toInt ≠ 10 := ti_ne h10
  have a11 : x.toInt ≠ 11 := ti_ne h11
  have a12 : x.toInt ≠ 12 := ti_ne h12
  have a13 : x.toInt ≠ 13 := ti_ne h13
  have a14 : x.toInt ≠ 14 := ti_ne h14
  have a15 : x.toInt ≠ 15 := ti_ne h15
  have a16 : x.toInt ≠ 16 := ti_ne h16
  have a17 : x.toInt ≠ 17 := ti_ne h17
  have a18 : x.toInt ≠ 18 := ti_ne h18
  have a19 : x.toInt ≠ 19 := ti_ne h19
  have a20 : x.toInt ≠ 20 := ti_ne h20
  have a21 : x.toInt ≠ 21 := ti_ne h21
  have a22 : x.toInt ≠ 22 := ti_ne h22
  have a23 : x.toInt ≠ 23 := ti_ne h23
  have a24 : x.toInt ≠ 24 := ti_ne h24
  have a25 : x.toInt ≠ 25 := ti_ne h25
  have a26 : x.toInt ≠ 26 := ti_ne h26
  have a27 : x.toInt ≠ 27 := ti_ne h27
  have a28 : x.toInt ≠ 28 := ti_ne h28
  have a29 : x.toInt ≠ 29 := ti_ne h29
  omega
section VL
variable {X : XX} {G : GG} {M M' : Mem} {cc : ByteArray} {nL pc fr lo : Nat} {own : String} {ret : Option FieldType} {lv : List (Option Value)} {st : List Value} {b L : Nat} {sc : Nat → Int32}
theorem v_sld (C : Cx X G cc nL own fr lo ret) (hX : va_X b L sc (xs X) (xs X).heap) (hbl : b < (xs X).heap.size) (hbA : ¬ AG G b) {i : Int32} (hin : vp_in i L) (hd : decode cc pc = .ok (.iaload, 1)) (K : V X G nL M (pc + 1) lv (.int (sc (ix i)) :: st)) : V X G nL M pc lv (.int i :: .ref b :: st) := fun H locs ls hP hS h => va_sld C.1 C.2.1 hX hbl hbA hS hin hd (K H locs ls hP hS h)
theorem v_slen0 (C : Cx X G cc nL own fr lo ret) (hX : va_X b L sc (xs X) (xs X).heap) (hbl : b < (xs X).heap.size) (hbA : ¬ AG G b) (hd : decode cc pc = .ok (.arraylength, 1)) (K : V X G nL M (pc + 1) lv (.int (nI L) :: st)) : V X G nL M pc lv (.ref b :: st) := fun H locs ls hP hS h => va_slen C.1 C.2.1 hX hbl hbA hS hd (K H locs ls hP hS h)
end VL
theorem sx0 {t L : Nat} (h : t + 5 ≤ L) (hL : L ≤ 2560) : vp_in (nI t) L := vp_in_nI (by omega) (by omega)
theorem sx1 {t L : Nat} (h : t + 5 ≤ L) (hL : L ≤ 2560) : vp_in (nI t + 1) L := by
  rw [show nI t + 1 = nI (t + 1) from nI_add t 1]
  exact vp_in_nI (by omega) (by omega)
theorem sx2 {t L : Nat} (h : t + 5 ≤ L) (hL : L ≤ 2560) : vp_in (nI t + 2) L := by
  rw [show nI t + 2 = nI (t + 2) from nI_add t 2]
  exact vp_in_nI (by omega) (by omega)
theorem sx3 {t L : Nat} (h : t + 5 ≤ L) (hL : L ≤ 2560) : vp_in (nI t + 3) L := by
  rw [show nI t + 3 = nI (t + 3) from nI_add t 3]
  exact vp_in_nI (by omega) (by omega)
theorem sx4 {t L : Nat} (h : t + 5 ≤ L) (hL : L ≤ 2560) : vp_in (nI t + 4) L := by
  rw [show nI t + 4 = nI (t + 4) from nI_add t 4]
  exact vp_in_nI (by omega) (by omega)
set_option maxRecDepth 100000 in
theorem law_c0 {X : XX} {G : GG} (C : Cx X G cL_law 4 RL 12 466 (some .boolean)) {b L : Nat} {sc : Nat → Int32} (hX : va_X b L sc (xs X) (xs X).heap) (hbl : b < (xs X).heap.size) (hbA : ¬ AG G b) (hL : L ≤ 2560) {t : Nat} (ht : t + 5 ≤ L) {Rel : Mem → Prop} (O : Op_feed Rel) {M : Mem} (hR : Rel M) (K : ∀ M2, Rel M2 → V X G 4 M2 1078 [some (.ref b), some (.ref (G.2.1 0)), some (.ref (G.2.1 32)), some (.int (nI t))] []) : V X G 4 M 168 [some (.ref b), some (.ref (G.2.1 0)), some (.ref (G.2.1 32)), some (.int (nI t))] [] := by
  obtain ⟨r, M1, M2, c1, c2, hR2⟩ := O M (sc (ix (nI t + 1))) hR
  refine v_aload_n C dL_law_168 rfl ?_
  refine v_aload_n C dL_law_169 rfl ?_
  refine v_iload_n C dL_law_170 rfl ?_
  refine v_iconst (v := 1) C dL_law_171 (by decide) ?_
  refine v_iadd C dL_law_172 ?_
  refine v_sld C hX hbl hbA (sx1 ht hL) dL_law_173 ?_
  refine v_callVi C (Pf_feed_ok (xl X) C.ig c1) (Or.inl (tT 201 (by decide +kernel) rfl)) mb_X5_feed mv_X5_feed rfl rfl rfl (Nat.le_of_ble_eq_true rfl) (by decide) (by decide) dL_law_174 ?_
  refine v_aload_n C dL_law_177 rfl ?_
  refine v_aload_n C dL_law_178 rfl ?_
  refine v_iload_n C dL_law_179 rfl ?_
  refine v_iconst (v := 1) C dL_law_180 (by decide) ?_
  refine v_iadd C dL_law_181 ?_
  refine v_sld C hX hbl hbA (sx1 ht hL) dL_law_182 ?_
  refine v_callVi C (Mo_feed_ok (xl X) C.ig c2) (Or.inl (tT 829 (by decide +kernel) rfl)) mb_X6_feed mv_X6_feed rfl rfl rfl (Nat.le_of_ble_eq_true rfl) (by decide) (by decide) dL_law_183 ?_
  exact v_icmp_eq (tgt := 1078) C dL_law_186 (by decide) (fun _ => K M2 hR2) (fun q => absurd rfl q)
set_option maxRecDepth 100000 in
theorem law_c1 {X : XX} {G : GG} (C : Cx X G cL_law 4 RL 12 466 (some .boolean)) {b L : Nat} {sc : Nat → Int32} (hX : va_X b L sc (xs X) (xs X).heap) (hbl : b < (xs X).heap.size) (hbA : ¬ AG G b) (hL : L ≤ 2560) {t : Nat} (ht : t + 5 ≤ L) {Rel : Mem → Prop} (O : Op_end Rel) {M : Mem} (hR : Rel M) (K : ∀ M2, Rel M2 → V X G 4 M2 1078 [some (.ref b), some (.ref (G.2.1 0)), some (.ref (G.2.1 32)), some (.int (nI t))] []) : V X G 4 M 191 [some (.ref b), some (.ref (G.2.1 0)), some (.ref (G.2.1 32)), some (.int (nI t))] [] := by
  obtain ⟨r, M1, M2, c1, c2, hR2⟩ := O M (sc (ix (nI t + 1))) hR
  refine v_aload_n C dL_law_191 rfl ?_
  refine v_aload_n C dL_law_192 rfl ?_
  refine v_iload_n C dL_law_193 rfl ?_
  refine v_iconst (v := 1) C dL_law_194 (by decide) ?_
  refine v_iadd C dL_law_195 ?_
  refine v_sld C hX hbl hbA (sx1 ht hL) dL_law_196 ?_
  refine v_callVi C (Pf_end_ok (xl X) C.ig c1) (Or.inl (tT 209 (by decide +kernel) rfl)) mb_X5_end mv_X5_end rfl rfl rfl (Nat.le_of_ble_eq_true rfl) (by decide) (by decide) dL_law_197 ?_
  refine v_aload_n C dL_law_200 rfl ?_
  refine v_aload_n C dL_law_201 rfl ?_
  refine v_iload_n C dL_law_202 rfl ?_
  refine v_iconst (v := 1) C dL_law_203 (by decide) ?_
  refine v_iadd C dL_law_204 ?_
  refine v_sld C hX hbl hbA (sx1 ht hL) dL_law_205 ?_
  refine v_callVi C (Mo_end_ok (xl X) C.ig c2) (Or.inl (tT 837 (by decide +kernel) rfl)) mb_X6_end mv_X6_end rfl rfl rfl (Nat.le_of_ble_eq_true rfl) (by decide) (by decide) dL_law_206 ?_
  exact v_icmp_eq (tgt := 1078) C dL_law_209 (by decide) (fun _ => K M2 hR2) (fun q => absurd rfl q)
set_option maxRecDepth 100000 in
theorem law_c2 {X : XX} {G : GG} (C : Cx X G cL_law 4 RL 12 466 (some .boolean)) {b L : Nat} {sc : Nat → Int32} (hX : va_X b L sc (xs X) (xs X).heap) (hbl : b < (xs X).heap.size) (hbA : ¬ AG G b) (hL : L ≤ 2560) {t : Nat} (ht : t + 5 ≤ L) {Rel : Mem → Prop} (O : Op_text Rel) {M : Mem} (hR : Rel M) (K : ∀ M2, Rel M2 → V X G 4 M2 1078 [some (.ref b), some (.ref (G.2.1 0)), some (.ref (G.2.1 32)), some (.int (nI t))] []) : V X G 4 M 214 [some (.ref b), some (.ref (G.2.1 0)), some (.ref (G.2.1 32)), some (.int (nI t))] [] := by
  obtain ⟨r, M1, M2, c1, c2, hR2⟩ := O M  hR
  refine v_aload_n C dL_law_214 rfl ?_
  refine v_callVi C (Pf_text_ok (xl X) C.ig c1) (Or.inl (tT 213 (by decide +kernel) rfl)) mb_X5_text mv_X5_text rfl rfl rfl (Nat.le_of_ble_eq_true rfl) (by decide) (by decide) dL_law_215 ?_
  refine v_aload_n C dL_law_218 rfl ?_
  refine v_callVi C (Mo_text_ok (xl X) C.ig c2) (Or.inl (tT 841 (by decide +kernel) rfl)) mb_X6_text mv_X6_text rfl rfl rfl (Nat.le_of_ble_eq_true rfl) (by decide) (by decide) dL_law_219 ?_
  exact v_icmp_eq (tgt := 1078) C dL_law_222 (by decide) (fun _ => K M2 hR2) (fun q => absurd rfl q)
set_option maxRecDepth 100000 in
theorem law_c3 {X : XX} {G : GG} (C : Cx X G cL_law 4 RL 12 466 (some .boolean)) {b L : Nat} {sc : Nat → Int32} (hX : va_X b L sc (xs X) (xs X).heap) (hbl : b < (xs X).heap.size) (hbA : ¬ AG G b) (hL : L ≤ 2560) {t : Nat} (ht : t + 5 ≤ L) {Rel : Mem → Prop} (O : Op_fault Rel) {M : Mem} (hR : Rel M) (K : ∀ M2, Rel M2 → V X G 4 M2 1078 [some (.ref b), some (.ref (G.2.1 0)), some (.ref (G.2.1 32)), some (.int (nI t))] []) : V X G 4 M 227 [some (.ref b), some (.ref (G.2.1 0)), some (.ref (G.2.1 32)), some (.int (nI t))] [] := by
  obtain ⟨r, M1, M2, c1, c2, hR2⟩ := O M  hR
  refine v_aload_n C dL_law_227 rfl ?_
  refine v_callVi C (Pf_fault_ok (xl X) C.ig c1) (Or.inl (tT 353 (by decide +kernel) rfl)) mb_X5_fault mv_X5_fault rfl rfl rfl (Nat.le_of_ble_eq_true rfl) (by decide) (by decide) dL_law_228 ?_
  refine v_aload_n C dL_law_231 rfl ?_
  refine v_callVi C (Mo_fault_ok (xl X) C.ig c2) (Or.inl (tT 892 (by decide +kernel) rfl)) mb_X6_fault mv_X6_fault rfl rfl rfl (Nat.le_of_ble_eq_true rfl) (by decide) (by decide) dL_law_232 ?_
  exact v_icmp_eq (tgt := 1078) C dL_law_235 (by decide) (fun _ => K M2 hR2) (fun q => absurd rfl q)
set_option maxRecDepth 100000 in
theorem law_c4 {X : XX} {G : GG} (C : Cx X G cL_law 4 RL 12 466 (some .boolean)) {b L : Nat} {sc : Nat → Int32} (hX : va_X b L sc (xs X) (xs X).heap) (hbl : b < (xs X).heap.size) (hbA : ¬ AG G b) (hL : L ≤ 2560) {t : Nat} (ht : t + 5 ≤ L) {Rel : Mem → Prop} (O : Op_rule Rel) {M : Mem} (hR : Rel M) (K : ∀ M2, Rel M2 → V X G 4 M2 1078 [some (.ref b), some (.ref (G.2.1 0)), some (.ref (G.2.1 32)), some (.int (nI t))] []) : V X G 4 M 240 [some (.ref b), some (.ref (G.2.1 0)), some (.ref (G.2.1 32)), some (.int (nI t))] [] := by
  obtain ⟨r, M1, M2, c1, c2, hR2⟩ := O M (sc (ix (nI t + 1))) hR
  refine v_aload_n C dL_law_240 rfl ?_
  refine v_aload_n C dL_law_241 rfl ?_
  refine v_iload_n C dL_law_242 rfl ?_
  refine v_iconst (v := 1) C dL_law_243 (by decide) ?_
  refine v_iadd C dL_law_244 ?_
  refine v_sld C hX hbl hbA (sx1 ht hL) dL_law_245 ?_
  refine v_callVi C (Pf_rule_ok (xl X) C.ig c1) (Or.inl (tT 357 (by decide +kernel) rfl)) mb_X5_rule mv_X5_rule rfl rfl rfl (Nat.le_of_ble_eq_true rfl) (by decide) (by decide) dL_law_246 ?_
  refine v_aload_n C dL_law_249 rfl ?_
  refine v_aload_n C dL_law_250 rfl ?_
  refine v_iload_n C dL_law_251 rfl ?_
  refine v_iconst (v := 1) C dL_law_252 (by decide) ?_
  refine v_iadd C dL_law_253 ?_
  refine v_sld C hX hbl hbA (sx1 ht hL) dL_law_254 ?_
  refine v_callVi C (Mo_rule_ok (xl X) C.ig c2) (Or.inl (tT 896 (by decide +kernel) rfl)) mb_X6_rule mv_X6_rule rfl rfl rfl (Nat.le_of_ble_eq_true rfl) (by decide) (by decide) dL_law_255 ?_
  exact v_icmp_eq (tgt := 1078) C dL_law_258 (by decide) (fun _ => K M2 hR2) (fun q => absurd rfl q)
set_option maxRecDepth 100000 in
theorem law_c5 {X : XX} {G : GG} (C : Cx X G cL_law 4 RL 12 466 (some .boolean)) {b L : Nat} {sc : Nat → Int32} (hX : va_X b L sc (xs X) (xs X).heap) (hbl : b < (xs X).heap.size) (hbA : ¬ AG G b) (hL : L ≤ 2560) {t : Nat} (ht : t + 5 ≤ L) {Rel : Mem → Prop} (O : Op_cell Rel) {M : Mem} (hR : Rel M) (K : ∀ M2, Rel M2 → V X G 4 M2 1078 [some (.ref b), some (.ref (G.2.1 0)), some (.ref (G.2.1 32)), some (.int (nI t))] []) : V X G 4 M 263 [some (.ref b), some (.ref (G.2.1 0)), some (.ref (G.2.1 32)), some (.int (nI t))] [] := by
  obtain ⟨r, M1, M2, c1, c2, hR2⟩ := O M (sc (ix (nI t + 1))) (sc (ix (nI t + 2))) (sc (ix (nI t + 3))) hR
  refine v_aload_n C dL_law_263 rfl ?_
  refine v_aload_n C dL_law_264 rfl ?_
  refine v_iload_n C dL_law_265 rfl ?_
  refine v_iconst (v := 1) C dL_law_266 (by decide) ?_
  refine v_iadd C dL_law_267 ?_
  refine v_sld C hX hbl hbA (sx1 ht hL) dL_law_268 ?_
  refine v_aload_n C dL_law_269 rfl ?_
  refine v_iload_n C dL_law_270 rfl ?_
  refine v_iconst (v := 2) C dL_law_271 (by decide) ?_
  refine v_iadd C dL_law_272 ?_
  refine v_sld C hX hbl hbA (sx2 ht hL) dL_law_273 ?_
  refine v_aload_n C dL_law_274 rfl ?_
  refine v_iload_n C dL_law_275 rfl ?_
  refine v_iconst (v := 3) C dL_law_276 (by decide) ?_
  refine v_iadd C dL_law_277 ?_
  refine v_sld C hX hbl hbA (sx3 ht hL) dL_law_278 ?_
  refine v_callVi C (Pf_cell_ok (xl X) C.ig c1) (Or.inl (tT 443 (by decide +kernel) rfl)) mb_X5_cell mv_X5_cell rfl rfl rfl (Nat.le_of_ble_eq_true rfl) (by decide) (by decide) dL_law_279 ?_
  refine v_aload_n C dL_law_282 rfl ?_
  refine v_aload_n C dL_law_283 rfl ?_
  refine v_iload_n C dL_law_284 rfl ?_
  refine v_iconst (v := 1) C dL_law_285 (by decide) ?_
  refine v_iadd C dL_law_286 ?_
  refine v_sld C hX hbl hbA (sx1 ht hL) dL_law_287 ?_
  refine v_aload_n C dL_law_288 rfl ?_
  refine v_iload_n C dL_law_289 rfl ?_
  refine v_iconst (v := 2) C dL_law_290 (by decide) ?_
  refine v_iadd C dL_law_291 ?_
  refine v_sld C hX hbl hbA (sx2 ht hL) dL_law_292 ?_
  refine v_aload_n C dL_law_293 rfl ?_
  refine v_iload_n C dL_law_294 rfl ?_
  refine v_iconst (v := 3) C dL_law_295 (by decide) ?_
  refine v_iadd C dL_law_296 ?_
  refine v_sld C hX hbl hbA (sx3 ht hL) dL_law_297 ?_
  refine v_callVi C (Mo_cell_ok (xl X) C.ig c2) (Or.inl (tT 991 (by decide +kernel) rfl)) mb_X6_cell mv_X6_cell rfl rfl rfl (Nat.le_of_ble_eq_true rfl) (by decide) (by decide) dL_law_298 ?_
  exact v_icmp_eq (tgt := 1078) C dL_law_301 (by decide) (fun _ => K M2 hR2) (fun q => absurd rfl q)
set_option maxRecDepth 100000 in
theorem law_c6 {X : XX} {G : GG} (C : Cx X G cL_law 4 RL 12 466 (some .boolean)) {b L : Nat} {sc : Nat → Int32} (hX : va_X b L sc (xs X) (xs X).heap) (hbl : b < (xs X).heap.size) (hbA : ¬ AG G b) (hL : L ≤ 2560) {t : Nat} (ht : t + 5 ≤ L) {Rel : Mem → Prop} (O : Op_rank Rel) {M : Mem} (hR : Rel M) (K : ∀ M2, Rel M2 → V X G 4 M2 1078 [some (.ref b), some (.ref (G.2.1 0)), some (.ref (G.2.1 32)), some (.int (nI t))] []) : V X G 4 M 306 [some (.ref b), some (.ref (G.2.1 0)), some (.ref (G.2.1 32)), some (.int (nI t))] [] := by
  obtain ⟨r, M1, M2, c1, c2, hR2⟩ := O M (sc (ix (nI t + 1))) hR
  refine v_aload_n C dL_law_306 rfl ?_
  refine v_aload_n C dL_law_307 rfl ?_
  refine v_iload_n C dL_law_308 rfl ?_
  refine v_iconst (v := 1) C dL_law_309 (by decide) ?_
  refine v_iadd C dL_law_310 ?_
  refine v_sld C hX hbl hbA (sx1 ht hL) dL_law_311 ?_
  refine v_callVi C (Pf_rank_ok (xl X) C.ig c1) (Or.inl (tT 449 (by decide +kernel) rfl)) mb_X5_rank mv_X5_rank rfl rfl rfl (Nat.le_of_ble_eq_true rfl) (by decide) (by decide) dL_law_312 ?_
  refine v_aload_n C dL_law_315 rfl ?_
  refine v_aload_n C dL_law_316 rfl ?_
  refine v_iload_n C dL_law_317 rfl ?_
  refine v_iconst (v := 1) C dL_law_318 (by decide) ?_
  refine v_iadd C dL_law_319 ?_
  refine v_sld C hX hbl hbA (sx1 ht hL) dL_law_320 ?_
  refine v_callVi C (Mo_rank_ok (xl X) C.ig c2) (Or.inl (tT 1003 (by decide +kernel) rfl)) mb_X6_rank mv_X6_rank rfl rfl rfl (Nat.le_of_ble_eq_true rfl) (by decide) (by decide) dL_law_321 ?_
  exact v_icmp_eq (tgt := 1078) C dL_law_324 (by decide) (fun _ => K M2 hR2) (fun q => absurd rfl q)
set_option maxRecDepth 100000 in
theorem law_c7 {X : XX} {G : GG} (C : Cx X G cL_law 4 RL 12 466 (some .boolean)) {b L : Nat} {sc : Nat → Int32} (hX : va_X b L sc (xs X) (xs X).heap) (hbl : b < (xs X).heap.size) (hbA : ¬ AG G b) (hL : L ≤ 2560) {t : Nat} (ht : t + 5 ≤ L) {Rel : Mem → Prop} (O : Op_nulls Rel) {M : Mem} (hR : Rel M) (K : ∀ M2, Rel M2 → V X G 4 M2 1078 [some (.ref b), some (.ref (G.2.1 0)), some (.ref (G.2.1 32)), some (.int (nI t))] []) : V X G 4 M 329 [some (.ref b), some (.ref (G.2.1 0)), some (.ref (G.2.1 32)), some (.int (nI t))] [] := by
  obtain ⟨r, M1, M2, c1, c2, hR2⟩ := O M (sc (ix (nI t + 1))) hR
  refine v_aload_n C dL_law_329 rfl ?_
  refine v_aload_n C dL_law_330 rfl ?_
  refine v_iload_n C dL_law_331 rfl ?_
  refine v_iconst (v := 1) C dL_law_332 (by decide) ?_
  refine v_iadd C dL_law_333 ?_
  refine v_sld C hX hbl hbA (sx1 ht hL) dL_law_334 ?_
  refine v_callVi C (Pf_nulls_ok (xl X) C.ig c1) (Or.inl (tT 461 (by decide +kernel) rfl)) mb_X5_nulls mv_X5_nulls rfl rfl rfl (Nat.le_of_ble_eq_true rfl) (by decide) (by decide) dL_law_335 ?_
  refine v_aload_n C dL_law_338 rfl ?_
  refine v_aload_n C dL_law_339 rfl ?_
  refine v_iload_n C dL_law_340 rfl ?_
  refine v_iconst (v := 1) C dL_law_341 (by decide) ?_
  refine v_iadd C dL_law_342 ?_
  refine v_sld C hX hbl hbA (sx1 ht hL) dL_law_343 ?_
  refine v_callVi C (Mo_nulls_ok (xl X) C.ig c2) (Or.inl (tT 1011 (by decide +kernel) rfl)) mb_X6_nulls mv_X6_nulls rfl rfl rfl (Nat.le_of_ble_eq_true rfl) (by decide) (by decide) dL_law_344 ?_
  exact v_icmp_eq (tgt := 1078) C dL_law_347 (by decide) (fun _ => K M2 hR2) (fun q => absurd rfl q)
set_option maxRecDepth 100000 in
theorem law_c8 {X : XX} {G : GG} (C : Cx X G cL_law 4 RL 12 466 (some .boolean)) {b L : Nat} {sc : Nat → Int32} (hX : va_X b L sc (xs X) (xs X).heap) (hbl : b < (xs X).heap.size) (hbA : ¬ AG G b) (hL : L ≤ 2560) {t : Nat} (ht : t + 5 ≤ L) {Rel : Mem → Prop} (O : Op_col Rel) {M : Mem} (hR : Rel M) (K : ∀ M2, Rel M2 → V X G 4 M2 1078 [some (.ref b), some (.ref (G.2.1 0)), some (.ref (G.2.1 32)), some (.int (nI t))] []) : V X G 4 M 352 [some (.ref b), some (.ref (G.2.1 0)), some (.ref (G.2.1 32)), some (.int (nI t))] [] := by
  obtain ⟨r, M1, M2, c1, c2, hR2⟩ := O M (sc (ix (nI t + 1))) hR
  refine v_aload_n C dL_law_352 rfl ?_
  refine v_aload_n C dL_law_353 rfl ?_
  refine v_iload_n C dL_law_354 rfl ?_
  refine v_iconst (v := 1) C dL_law_355 (by decide) ?_
  refine v_iadd C dL_law_356 ?_
  refine v_sld C hX hbl hbA (sx1 ht hL) dL_law_357 ?_
  refine v_callVi C (Pf_col_ok (xl X) C.ig c1) (Or.inl (tT 469 (by decide +kernel) rfl)) mb_X5_col mv_X5_col rfl rfl rfl (Nat.le_of_ble_eq_true rfl) (by decide) (by decide) dL_law_358 ?_
  refine v_aload_n C dL_law_361 rfl ?_
  refine v_aload_n C dL_law_362 rfl ?_
  refine v_iload_n C dL_law_363 rfl ?_
  refine v_iconst (v := 1) C dL_law_364 (by decide) ?_
  refine v_iadd C dL_law_365 ?_
  refine v_sld C hX hbl hbA (sx1 ht hL) dL_law_366 ?_
  refine v_callVi C (Mo_col_ok (xl X) C.ig c2) (Or.inl (tT 1016 (by decide +kernel) rfl)) mb_X6_col mv_X6_col rfl rfl rfl (Nat.le_of_ble_eq_true rfl) (by decide) (by decide) dL_law_367 ?_
  exact v_icmp_eq (tgt := 1078) C dL_law_370 (by decide) (fun _ => K M2 hR2) (fun q => absurd rfl q)
set_option maxRecDepth 100000 in
theorem law_c9 {X : XX} {G : GG} (C : Cx X G cL_law 4 RL 12 466 (some .boolean)) {b L : Nat} {sc : Nat → Int32} (hX : va_X b L sc (xs X) (xs X).heap) (hbl : b < (xs X).heap.size) (hbA : ¬ AG G b) (hL : L ≤ 2560) {t : Nat} (ht : t + 5 ≤ L) {Rel : Mem → Prop} (O : Op_row Rel) {M : Mem} (hR : Rel M) (K : ∀ M2, Rel M2 → V X G 4 M2 1078 [some (.ref b), some (.ref (G.2.1 0)), some (.ref (G.2.1 32)), some (.int (nI t))] []) : V X G 4 M 375 [some (.ref b), some (.ref (G.2.1 0)), some (.ref (G.2.1 32)), some (.int (nI t))] [] := by
  obtain ⟨r, M1, M2, c1, c2, hR2⟩ := O M (sc (ix (nI t + 1))) hR
  refine v_aload_n C dL_law_375 rfl ?_
  refine v_aload_n C dL_law_376 rfl ?_
  refine v_iload_n C dL_law_377 rfl ?_
  refine v_iconst (v := 1) C dL_law_378 (by decide) ?_
  refine v_iadd C dL_law_379 ?_
  refine v_sld C hX hbl hbA (sx1 ht hL) dL_law_380 ?_
  refine v_callVi C (Pf_row_ok (xl X) C.ig c1) (Or.inl (tT 480 (by decide +kernel) rfl)) mb_X5_row mv_X5_row rfl rfl rfl (Nat.le_of_ble_eq_true rfl) (by decide) (by decide) dL_law_381 ?_
  refine v_aload_n C dL_law_384 rfl ?_
  refine v_aload_n C dL_law_385 rfl ?_
  refine v_iload_n C dL_law_386 rfl ?_
  refine v_iconst (v := 1) C dL_law_387 (by decide) ?_
  refine v_iadd C dL_law_388 ?_
  refine v_sld C hX hbl hbA (sx1 ht hL) dL_law_389 ?_
  refine v_callVi C (Mo_row_ok (xl X) C.ig c2) (Or.inl (tT 1023 (by decide +kernel) rfl)) mb_X6_row mv_X6_row rfl rfl rfl (Nat.le_of_ble_eq_true rfl) (by decide) (by decide) dL_law_390 ?_
  exact v_icmp_eq (tgt := 1078) C dL_law_393 (by decide) (fun _ => K M2 hR2) (fun q => absurd rfl q)
set_option maxRecDepth 100000 in
theorem law_c10 {X : XX} {G : GG} (C : Cx X G cL_law 4 RL 12 466 (some .boolean)) {b L : Nat} {sc : Nat → Int32} (hX : va_X b L sc (xs X) (xs X).heap) (hbl : b < (xs X).heap.size) (hbA : ¬ AG G b) (hL : L ≤ 2560) {t : Nat} (ht : t + 5 ≤ L) {Rel : Mem → Prop} (O : Op_chains Rel) {M : Mem} (hR : Rel M) (K : ∀ M2, Rel M2 → V X G 4 M2 1078 [some (.ref b), some (.ref (G.2.1 0)), some (.ref (G.2.1 32)), some (.int (nI t))] []) : V X G 4 M 398 [some (.ref b), some (.ref (G.2.1 0)), some (.ref (G.2.1 32)), some (.int (nI t))] [] := by
  obtain ⟨r, M1, M2, c1, c2, hR2⟩ := O M (sc (ix (nI t + 1))) (sc (ix (nI t + 2))) hR
  refine v_aload_n C dL_law_398 rfl ?_
  refine v_aload_n C dL_law_399 rfl ?_
  refine v_iload_n C dL_law_400 rfl ?_
  refine v_iconst (v := 1) C dL_law_401 (by decide) ?_
  refine v_iadd C dL_law_402 ?_
  refine v_sld C hX hbl hbA (sx1 ht hL) dL_law_403 ?_
  refine v_aload_n C dL_law_404 rfl ?_
  refine v_iload_n C dL_law_405 rfl ?_
  refine v_iconst (v := 2) C dL_law_406 (by decide) ?_
  refine v_iadd C dL_law_407 ?_
  refine v_sld C hX hbl hbA (sx2 ht hL) dL_law_408 ?_
  refine v_callVi C (Pf_chains_ok (xl X) C.ig c1) (Or.inl (tT 488 (by decide +kernel) rfl)) mb_X5_chains mv_X5_chains rfl rfl rfl (Nat.le_of_ble_eq_true rfl) (by decide) (by decide) dL_law_409 ?_
  refine v_aload_n C dL_law_412 rfl ?_
  refine v_aload_n C dL_law_413 rfl ?_
  refine v_iload_n C dL_law_414 rfl ?_
  refine v_iconst (v := 1) C dL_law_415 (by decide) ?_
  refine v_iadd C dL_law_416 ?_
  refine v_sld C hX hbl hbA (sx1 ht hL) dL_law_417 ?_
  refine v_aload_n C dL_law_418 rfl ?_
  refine v_iload_n C dL_law_419 rfl ?_
  refine v_iconst (v := 2) C dL_law_420 (by decide) ?_
  refine v_iadd C dL_law_421 ?_
  refine v_sld C hX hbl hbA (sx2 ht hL) dL_law_422 ?_
  refine v_callVi C (Mo_chains_ok (xl X) C.ig c2) (Or.inl (tT 1027 (by decide +kernel) rfl)) mb_X6_chains mv_X6_chains rfl rfl rfl (Nat.le_of_ble_eq_true rfl) (by decide) (by decide) dL_law_423 ?_
  exact v_icmp_eq (tgt := 1078) C dL_law_426 (by decide) (fun _ => K M2 hR2) (fun q => absurd rfl q)
set_option maxRecDepth 100000 in
theorem law_c11 {X : XX} {G : GG} (C : Cx X G cL_law 4 RL 12 466 (some .boolean)) {b L : Nat} {sc : Nat → Int32} (hX : va_X b L sc (xs X) (xs X).heap) (hbl : b < (xs X).heap.size) (hbA : ¬ AG G b) (hL : L ≤ 2560) {t : Nat} (ht : t + 5 ≤ L) {Rel : Mem → Prop} (O : Op_length Rel) {M : Mem} (hR : Rel M) (K : ∀ M2, Rel M2 → V X G 4 M2 1078 [some (.ref b), some (.ref (G.2.1 0)), some (.ref (G.2.1 32)), some (.int (nI t))] []) : V X G 4 M 431 [some (.ref b), some (.ref (G.2.1 0)), some (.ref (G.2.1 32)), some (.int (nI t))] [] := by
  obtain ⟨r, M1, M2, c1, c2, hR2⟩ := O M (sc (ix (nI t + 1))) (sc (ix (nI t + 2))) hR
  refine v_aload_n C dL_law_431 rfl ?_
  refine v_aload_n C dL_law_432 rfl ?_
  refine v_iload_n C dL_law_433 rfl ?_
  refine v_iconst (v := 1) C dL_law_434 (by decide) ?_
  refine v_iadd C dL_law_435 ?_
  refine v_sld C hX hbl hbA (sx1 ht hL) dL_law_436 ?_
  refine v_aload_n C dL_law_437 rfl ?_
  refine v_iload_n C dL_law_438 rfl ?_
  refine v_iconst (v := 2) C dL_law_439 (by decide) ?_
  refine v_iadd C dL_law_440 ?_
  refine v_sld C hX hbl hbA (sx2 ht hL) dL_law_441 ?_
  refine v_callVi C (Pf_length_ok (xl X) C.ig c1) (Or.inl (tT 493 (by decide +kernel) rfl)) mb_X5_length mv_X5_length rfl rfl rfl (Nat.le_of_ble_eq_true rfl) (by decide) (by decide) dL_law_442 ?_
  refine v_aload_n C dL_law_445 rfl ?_
  refine v_aload_n C dL_law_446 rfl ?_
  refine v_iload_n C dL_law_447 rfl ?_
  refine v_iconst (v := 1) C dL_law_448 (by decide) ?_
  refine v_iadd C dL_law_449 ?_
  refine v_sld C hX hbl hbA (sx1 ht hL) dL_law_450 ?_
  refine v_aload_n C dL_law_451 rfl ?_
  refine v_iload_n C dL_law_452 rfl ?_
  refine v_iconst (v := 2) C dL_law_453 (by decide) ?_
  refine v_iadd C dL_law_454 ?_
  refine v_sld C hX hbl hbA (sx2 ht hL) dL_law_455 ?_
  refine v_callVi C (Mo_length_ok (xl X) C.ig c2) (Or.inl (tT 1031 (by decide +kernel) rfl)) mb_X6_length mv_X6_length rfl rfl rfl (Nat.le_of_ble_eq_true rfl) (by decide) (by decide) dL_law_456 ?_
  exact v_icmp_eq (tgt := 1078) C dL_law_459 (by decide) (fun _ => K M2 hR2) (fun q => absurd rfl q)
set_option maxRecDepth 100000 in
theorem law_c12 {X : XX} {G : GG} (C : Cx X G cL_law 4 RL 12 466 (some .boolean)) {b L : Nat} {sc : Nat → Int32} (hX : va_X b L sc (xs X) (xs X).heap) (hbl : b < (xs X).heap.size) (hbA : ¬ AG G b) (hL : L ≤ 2560) {t : Nat} (ht : t + 5 ≤ L) {Rel : Mem → Prop} (O : Op_steps Rel) {M : Mem} (hR : Rel M) (K : ∀ M2, Rel M2 → V X G 4 M2 1078 [some (.ref b), some (.ref (G.2.1 0)), some (.ref (G.2.1 32)), some (.int (nI t))] []) : V X G 4 M 464 [some (.ref b), some (.ref (G.2.1 0)), some (.ref (G.2.1 32)), some (.int (nI t))] [] := by
  obtain ⟨r, M1, M2, c1, c2, hR2⟩ := O M (sc (ix (nI t + 1))) (sc (ix (nI t + 2))) hR
  refine v_aload_n C dL_law_464 rfl ?_
  refine v_aload_n C dL_law_465 rfl ?_
  refine v_iload_n C dL_law_466 rfl ?_
  refine v_iconst (v := 1) C dL_law_467 (by decide) ?_
  refine v_iadd C dL_law_468 ?_
  refine v_sld C hX hbl hbA (sx1 ht hL) dL_law_469 ?_
  refine v_aload_n C dL_law_470 rfl ?_
  refine v_iload_n C dL_law_471 rfl ?_
  refine v_iconst (v := 2) C dL_law_472 (by decide) ?_
  refine v_iadd C dL_law_473 ?_
  refine v_sld C hX hbl hbA (sx2 ht hL) dL_law_474 ?_
  refine v_callVi C (Pf_steps_ok (xl X) C.ig c1) (Or.inl (tT 501 (by decide +kernel) rfl)) mb_X5_steps mv_X5_steps rfl rfl rfl (Nat.le_of_ble_eq_true rfl) (by decide) (by decide) dL_law_475 ?_
  refine v_aload_n C dL_law_478 rfl ?_
  refine v_aload_n C dL_law_479 rfl ?_
  refine v_iload_n C dL_law_480 rfl ?_
  refine v_iconst (v := 1) C dL_law_481 (by decide) ?_
  refine v_iadd C dL_law_482 ?_
  refine v_sld C hX hbl hbA (sx1 ht hL) dL_law_483 ?_
  refine v_aload_n C dL_law_484 rfl ?_
  refine v_iload_n C dL_law_485 rfl ?_
  refine v_iconst (v := 2) C dL_law_486 (by decide) ?_
  refine v_iadd C dL_law_487 ?_
  refine v_sld C hX hbl hbA (sx2 ht hL) dL_law_488 ?_
  refine v_callVi C (Mo_steps_ok (xl X) C.ig c2) (Or.inl (tT 1042 (by decide +kernel) rfl)) mb_X6_steps mv_X6_steps rfl rfl rfl (Nat.le_of_ble_eq_true rfl) (by decide) (by decide) dL_law_489 ?_
  exact v_icmp_eq (tgt := 1078) C dL_law_492 (by decide) (fun _ => K M2 hR2) (fun q => absurd rfl q)
set_option maxRecDepth 100000 in
theorem law_c13 {X : XX} {G : GG} (C : Cx X G cL_law 4 RL 12 466 (some .boolean)) {b L : Nat} {sc : Nat → Int32} (hX : va_X b L sc (xs X) (xs X).heap) (hbl : b < (xs X).heap.size) (hbA : ¬ AG G b) (hL : L ≤ 2560) {t : Nat} (ht : t + 5 ≤ L) {Rel : Mem → Prop} (O : Op_go Rel) {M : Mem} (hR : Rel M) (K : ∀ M2, Rel M2 → V X G 4 M2 1078 [some (.ref b), some (.ref (G.2.1 0)), some (.ref (G.2.1 32)), some (.int (nI t))] []) : V X G 4 M 497 [some (.ref b), some (.ref (G.2.1 0)), some (.ref (G.2.1 32)), some (.int (nI t))] [] := by
  obtain ⟨r, M1, M2, c1, c2, hR2⟩ := O M (sc (ix (nI t + 1))) (sc (ix (nI t + 2))) hR
  refine v_aload_n C dL_law_497 rfl ?_
  refine v_aload_n C dL_law_498 rfl ?_
  refine v_iload_n C dL_law_499 rfl ?_
  refine v_iconst (v := 1) C dL_law_500 (by decide) ?_
  refine v_iadd C dL_law_501 ?_
  refine v_sld C hX hbl hbA (sx1 ht hL) dL_law_502 ?_
  refine v_aload_n C dL_law_503 rfl ?_
  refine v_iload_n C dL_law_504 rfl ?_
  refine v_iconst (v := 2) C dL_law_505 (by decide) ?_
  refine v_iadd C dL_law_506 ?_
  refine v_sld C hX hbl hbA (sx2 ht hL) dL_law_507 ?_
  refine v_callVi C (Pf_go_ok (xl X) C.ig c1) (Or.inl (tT 517 (by decide +kernel) rfl)) mb_X5_go mv_X5_go rfl rfl rfl (Nat.le_of_ble_eq_true rfl) (by decide) (by decide) dL_law_508 ?_
  refine v_aload_n C dL_law_511 rfl ?_
  refine v_aload_n C dL_law_512 rfl ?_
  refine v_iload_n C dL_law_513 rfl ?_
  refine v_iconst (v := 1) C dL_law_514 (by decide) ?_
  refine v_iadd C dL_law_515 ?_
  refine v_sld C hX hbl hbA (sx1 ht hL) dL_law_516 ?_
  refine v_aload_n C dL_law_517 rfl ?_
  refine v_iload_n C dL_law_518 rfl ?_
  refine v_iconst (v := 2) C dL_law_519 (by decide) ?_
  refine v_iadd C dL_law_520 ?_
  refine v_sld C hX hbl hbA (sx2 ht hL) dL_law_521 ?_
  refine v_callVi C (Mo_go_ok (xl X) C.ig c2) (Or.inl (tT 1053 (by decide +kernel) rfl)) mb_X6_go mv_X6_go rfl rfl rfl (Nat.le_of_ble_eq_true rfl) (by decide) (by decide) dL_law_522 ?_
  exact v_icmp_eq (tgt := 1078) C dL_law_525 (by decide) (fun _ => K M2 hR2) (fun q => absurd rfl q)
set_option maxRecDepth 100000 in
theorem law_c14 {X : XX} {G : GG} (C : Cx X G cL_law 4 RL 12 466 (some .boolean)) {b L : Nat} {sc : Nat → Int32} (hX : va_X b L sc (xs X) (xs X).heap) (hbl : b < (xs X).heap.size) (hbA : ¬ AG G b) (hL : L ≤ 2560) {t : Nat} (ht : t + 5 ≤ L) {Rel : Mem → Prop} (O : Op_set Rel) {M : Mem} (hR : Rel M) (K : ∀ M2, Rel M2 → V X G 4 M2 1078 [some (.ref b), some (.ref (G.2.1 0)), some (.ref (G.2.1 32)), some (.int (nI t))] []) : V X G 4 M 530 [some (.ref b), some (.ref (G.2.1 0)), some (.ref (G.2.1 32)), some (.int (nI t))] [] := by
  obtain ⟨r, M1, M2, c1, c2, hR2⟩ := O M (sc (ix (nI t + 1))) (sc (ix (nI t + 2))) (sc (ix (nI t + 3))) (sc (ix (nI t + 4))) hR
  refine v_aload_n C dL_law_530 rfl ?_
  refine v_aload_n C dL_law_531 rfl ?_
  refine v_iload_n C dL_law_532 rfl ?_
  refine v_iconst (v := 1) C dL_law_533 (by decide) ?_
  refine v_iadd C dL_law_534 ?_
  refine v_sld C hX hbl hbA (sx1 ht hL) dL_law_535 ?_
  refine v_aload_n C dL_law_536 rfl ?_
  refine v_iload_n C dL_law_537 rfl ?_
  refine v_iconst (v := 2) C dL_law_538 (by decide) ?_
  refine v_iadd C dL_law_539 ?_
  refine v_sld C hX hbl hbA (sx2 ht hL) dL_law_540 ?_
  refine v_aload_n C dL_law_541 rfl ?_
  refine v_iload_n C dL_law_542 rfl ?_
  refine v_iconst (v := 3) C dL_law_543 (by decide) ?_
  refine v_iadd C dL_law_544 ?_
  refine v_sld C hX hbl hbA (sx3 ht hL) dL_law_545 ?_
  refine v_aload_n C dL_law_546 rfl ?_
  refine v_iload_n C dL_law_547 rfl ?_
  refine v_iconst (v := 4) C dL_law_548 (by decide) ?_
  refine v_iadd C dL_law_549 ?_
  refine v_sld C hX hbl hbA (sx4 ht hL) dL_law_550 ?_
  refine v_callVi C (Pf_set_ok (xl X) C.ig c1) (Or.inl (tT 533 (by decide +kernel) rfl)) mb_X5_set mv_X5_set rfl rfl rfl (Nat.le_of_ble_eq_true rfl) (by decide) (by decide) dL_law_551 ?_
  refine v_aload_n C dL_law_554 rfl ?_
  refine v_aload_n C dL_law_555 rfl ?_
  refine v_iload_n C dL_law_556 rfl ?_
  refine v_iconst (v := 1) C dL_law_557 (by decide) ?_
  refine v_iadd C dL_law_558 ?_
  refine v_sld C hX hbl hbA (sx1 ht hL) dL_law_559 ?_
  refine v_aload_n C dL_law_560 rfl ?_
  refine v_iload_n C dL_law_561 rfl ?_
  refine v_iconst (v := 2) C dL_law_562 (by decide) ?_
  refine v_iadd C dL_law_563 ?_
  refine v_sld C hX hbl hbA (sx2 ht hL) dL_law_564 ?_
  refine v_aload_n C dL_law_565 rfl ?_
  refine v_iload_n C dL_law_566 rfl ?_
  refine v_iconst (v := 3) C dL_law_567 (by decide) ?_
  refine v_iadd C dL_law_568 ?_
  refine v_sld C hX hbl hbA (sx3 ht hL) dL_law_569 ?_
  refine v_aload_n C dL_law_570 rfl ?_
  refine v_iload_n C dL_law_571 rfl ?_
  refine v_iconst (v := 4) C dL_law_572 (by decide) ?_
  refine v_iadd C dL_law_573 ?_
  refine v_sld C hX hbl hbA (sx4 ht hL) dL_law_574 ?_
  refine v_callVi C (Mo_set_ok (xl X) C.ig c2) (Or.inl (tT 1065 (by decide +kernel) rfl)) mb_X6_set mv_X6_set rfl rfl rfl (Nat.le_of_ble_eq_true rfl) (by decide) (by decide) dL_law_575 ?_
  exact v_icmp_eq (tgt := 1078) C dL_law_578 (by decide) (fun _ => K M2 hR2) (fun q => absurd rfl q)
set_option maxRecDepth 100000 in
theorem law_c15 {X : XX} {G : GG} (C : Cx X G cL_law 4 RL 12 466 (some .boolean)) {b L : Nat} {sc : Nat → Int32} (hX : va_X b L sc (xs X) (xs X).heap) (hbl : b < (xs X).heap.size) (hbA : ¬ AG G b) (hL : L ≤ 2560) {t : Nat} (ht : t + 5 ≤ L) {Rel : Mem → Prop} (O : Op_open Rel) {M : Mem} (hR : Rel M) (K : ∀ M2, Rel M2 → V X G 4 M2 1078 [some (.ref b), some (.ref (G.2.1 0)), some (.ref (G.2.1 32)), some (.int (nI t))] []) : V X G 4 M 583 [some (.ref b), some (.ref (G.2.1 0)), some (.ref (G.2.1 32)), some (.int (nI t))] [] := by
  obtain ⟨r, M1, M2, c1, c2, hR2⟩ := O M (sc (ix (nI t + 1))) hR
  refine v_aload_n C dL_law_583 rfl ?_
  refine v_aload_n C dL_law_584 rfl ?_
  refine v_iload_n C dL_law_585 rfl ?_
  refine v_iconst (v := 1) C dL_law_586 (by decide) ?_
  refine v_iadd C dL_law_587 ?_
  refine v_sld C hX hbl hbA (sx1 ht hL) dL_law_588 ?_
  refine v_callVi C (Pf_open_ok (xl X) C.ig c1) (Or.inl (tT 542 (by decide +kernel) rfl)) mb_X5_open mv_X5_open rfl rfl rfl (Nat.le_of_ble_eq_true rfl) (by decide) (by decide) dL_law_589 ?_
  refine v_aload_n C dL_law_592 rfl ?_
  refine v_aload_n C dL_law_593 rfl ?_
  refine v_iload_n C dL_law_594 rfl ?_
  refine v_iconst (v := 1) C dL_law_595 (by decide) ?_
  refine v_iadd C dL_law_596 ?_
  refine v_sld C hX hbl hbA (sx1 ht hL) dL_law_597 ?_
  refine v_callVi C (Mo_open_ok (xl X) C.ig c2) (Or.inl (tT 1073 (by decide +kernel) rfl)) mb_X6_open mv_X6_open rfl rfl rfl (Nat.le_of_ble_eq_true rfl) (by decide) (by decide) dL_law_598 ?_
  exact v_icmp_eq (tgt := 1078) C dL_law_601 (by decide) (fun _ => K M2 hR2) (fun q => absurd rfl q)
set_option maxRecDepth 100000 in
theorem law_c16 {X : XX} {G : GG} (C : Cx X G cL_law 4 RL 12 466 (some .boolean)) {b L : Nat} {sc : Nat → Int32} (hX : va_X b L sc (xs X) (xs X).heap) (hbl : b < (xs X).heap.size) (hbA : ¬ AG G b) (hL : L ≤ 2560) {t : Nat} (ht : t + 5 ≤ L) {Rel : Mem → Prop} (O : Op_cut Rel) {M : Mem} (hR : Rel M) (K : ∀ M2, Rel M2 → V X G 4 M2 1078 [some (.ref b), some (.ref (G.2.1 0)), some (.ref (G.2.1 32)), some (.int (nI t))] []) : V X G 4 M 606 [some (.ref b), some (.ref (G.2.1 0)), some (.ref (G.2.1 32)), some (.int (nI t))] [] := by
  obtain ⟨r, M1, M2, c1, c2, hR2⟩ := O M (sc (ix (nI t + 1))) (sc (ix (nI t + 2))) hR
  refine v_aload_n C dL_law_606 rfl ?_
  refine v_aload_n C dL_law_607 rfl ?_
  refine v_iload_n C dL_law_608 rfl ?_
  refine v_iconst (v := 1) C dL_law_609 (by decide) ?_
  refine v_iadd C dL_law_610 ?_
  refine v_sld C hX hbl hbA (sx1 ht hL) dL_law_611 ?_
  refine v_aload_n C dL_law_612 rfl ?_
  refine v_iload_n C dL_law_613 rfl ?_
  refine v_iconst (v := 2) C dL_law_614 (by decide) ?_
  refine v_iadd C dL_law_615 ?_
  refine v_sld C hX hbl hbA (sx2 ht hL) dL_law_616 ?_
  refine v_callVi C (Pf_cut_ok (xl X) C.ig c1) (Or.inl (tT 555 (by decide +kernel) rfl)) mb_X5_cut mv_X5_cut rfl rfl rfl (Nat.le_of_ble_eq_true rfl) (by decide) (by decide) dL_law_617 ?_
  refine v_aload_n C dL_law_620 rfl ?_
  refine v_aload_n C dL_law_621 rfl ?_
  refine v_iload_n C dL_law_622 rfl ?_
  refine v_iconst (v := 1) C dL_law_623 (by decide) ?_
  refine v_iadd C dL_law_624 ?_
  refine v_sld C hX hbl hbA (sx1 ht hL) dL_law_625 ?_
  refine v_aload_n C dL_law_626 rfl ?_
  refine v_iload_n C dL_law_627 rfl ?_
  refine v_iconst (v := 2) C dL_law_628 (by decide) ?_
  refine v_iadd C dL_law_629 ?_
  refine v_sld C hX hbl hbA (sx2 ht hL) dL_law_630 ?_
  refine v_callVi C (Mo_cut_ok (xl X) C.ig c2) (Or.inl (tT 1077 (by decide +kernel) rfl)) mb_X6_cut mv_X6_cut rfl rfl rfl (Nat.le_of_ble_eq_true rfl) (by decide) (by decide) dL_law_631 ?_
  exact v_icmp_eq (tgt := 1078) C dL_law_634 (by decide) (fun _ => K M2 hR2) (fun q => absurd rfl q)
set_option maxRecDepth 100000 in
theorem law_c17 {X : XX} {G : GG} (C : Cx X G cL_law 4 RL 12 466 (some .boolean)) {b L : Nat} {sc : Nat → Int32} (hX : va_X b L sc (xs X) (xs X).heap) (hbl : b < (xs X).heap.size) (hbA : ¬ AG G b) (hL : L ≤ 2560) {t : Nat} (ht : t + 5 ≤ L) {Rel : Mem → Prop} (O : Op_mix Rel) {M : Mem} (hR : Rel M) (K : ∀ M2, Rel M2 → V X G 4 M2 1078 [some (.ref b), some (.ref (G.2.1 0)), some (.ref (G.2.1 32)), some (.int (nI t))] []) : V X G 4 M 639 [some (.ref b), some (.ref (G.2.1 0)), some (.ref (G.2.1 32)), some (.int (nI t))] [] := by
  obtain ⟨r, M1, M2, c1, c2, hR2⟩ := O M (sc (ix (nI t + 1))) (sc (ix (nI t + 2))) (sc (ix (nI t + 3))) (sc (ix (nI t + 4))) hR
  refine v_aload_n C dL_law_639 rfl ?_
  refine v_aload_n C dL_law_640 rfl ?_
  refine v_iload_n C dL_law_641 rfl ?_
  refine v_iconst (v := 1) C dL_law_642 (by decide) ?_
  refine v_iadd C dL_law_643 ?_
  refine v_sld C hX hbl hbA (sx1 ht hL) dL_law_644 ?_
  refine v_aload_n C dL_law_645 rfl ?_
  refine v_iload_n C dL_law_646 rfl ?_
  refine v_iconst (v := 2) C dL_law_647 (by decide) ?_
  refine v_iadd C dL_law_648 ?_
  refine v_sld C hX hbl hbA (sx2 ht hL) dL_law_649 ?_
  refine v_aload_n C dL_law_650 rfl ?_
  refine v_iload_n C dL_law_651 rfl ?_
  refine v_iconst (v := 3) C dL_law_652 (by decide) ?_
  refine v_iadd C dL_law_653 ?_
  refine v_sld C hX hbl hbA (sx3 ht hL) dL_law_654 ?_
  refine v_aload_n C dL_law_655 rfl ?_
  refine v_iload_n C dL_law_656 rfl ?_
  refine v_iconst (v := 4) C dL_law_657 (by decide) ?_
  refine v_iadd C dL_law_658 ?_
  refine v_sld C hX hbl hbA (sx4 ht hL) dL_law_659 ?_
  refine v_callVi C (Pf_mix_ok (xl X) C.ig c1) (Or.inl (tT 568 (by decide +kernel) rfl)) mb_X5_mix mv_X5_mix rfl rfl rfl (Nat.le_of_ble_eq_true rfl) (by decide) (by decide) dL_law_660 ?_
  refine v_aload_n C dL_law_663 rfl ?_
  refine v_aload_n C dL_law_664 rfl ?_
  refine v_iload_n C dL_law_665 rfl ?_
  refine v_iconst (v := 1) C dL_law_666 (by decide) ?_
  refine v_iadd C dL_law_667 ?_
  refine v_sld C hX hbl hbA (sx1 ht hL) dL_law_668 ?_
  refine v_aload_n C dL_law_669 rfl ?_
  refine v_iload_n C dL_law_670 rfl ?_
  refine v_iconst (v := 2) C dL_law_671 (by decide) ?_
  refine v_iadd C dL_law_672 ?_
  refine v_sld C hX hbl hbA (sx2 ht hL) dL_law_673 ?_
  refine v_aload_n C dL_law_674 rfl ?_
  refine v_iload_n C dL_law_675 rfl ?_
  refine v_iconst (v := 3) C dL_law_676 (by decide) ?_
  refine v_iadd C dL_law_677 ?_
  refine v_sld C hX hbl hbA (sx3 ht hL) dL_law_678 ?_
  refine v_aload_n C dL_law_679 rfl ?_
  refine v_iload_n C dL_law_680 rfl ?_
  refine v_iconst (v := 4) C dL_law_681 (by decide) ?_
  refine v_iadd C dL_law_682 ?_
  refine v_sld C hX hbl hbA (sx4 ht hL) dL_law_683 ?_
  refine v_callVi C (Mo_mix_ok (xl X) C.ig c2) (Or.inl (tT 1085 (by decide +kernel) rfl)) mb_X6_mix mv_X6_mix rfl rfl rfl (Nat.le_of_ble_eq_true rfl) (by decide) (by decide) dL_law_684 ?_
  exact v_icmp_eq (tgt := 1078) C dL_law_687 (by decide) (fun _ => K M2 hR2) (fun q => absurd rfl q)
set_option maxRecDepth 100000 in
theorem law_c18 {X : XX} {G : GG} (C : Cx X G cL_law 4 RL 12 466 (some .boolean)) {b L : Nat} {sc : Nat → Int32} (hX : va_X b L sc (xs X) (xs X).heap) (hbl : b < (xs X).heap.size) (hbA : ¬ AG G b) (hL : L ≤ 2560) {t : Nat} (ht : t + 5 ≤ L) {Rel : Mem → Prop} (O : Op_times Rel) {M : Mem} (hR : Rel M) (K : ∀ M2, Rel M2 → V X G 4 M2 1078 [some (.ref b), some (.ref (G.2.1 0)), some (.ref (G.2.1 32)), some (.int (nI t))] []) : V X G 4 M 692 [some (.ref b), some (.ref (G.2.1 0)), some (.ref (G.2.1 32)), some (.int (nI t))] [] := by
  obtain ⟨r, M1, M2, c1, c2, hR2⟩ := O M (sc (ix (nI t + 1))) (sc (ix (nI t + 2))) (sc (ix (nI t + 3))) hR
  refine v_aload_n C dL_law_692 rfl ?_
  refine v_aload_n C dL_law_693 rfl ?_
  refine v_iload_n C dL_law_694 rfl ?_
  refine v_iconst (v := 1) C dL_law_695 (by decide) ?_
  refine v_iadd C dL_law_696 ?_
  refine v_sld C hX hbl hbA (sx1 ht hL) dL_law_697 ?_
  refine v_aload_n C dL_law_698 rfl ?_
  refine v_iload_n C dL_law_699 rfl ?_
  refine v_iconst (v := 2) C dL_law_700 (by decide) ?_
  refine v_iadd C dL_law_701 ?_
  refine v_sld C hX hbl hbA (sx2 ht hL) dL_law_702 ?_
  refine v_aload_n C dL_law_703 rfl ?_
  refine v_iload_n C dL_law_704 rfl ?_
  refine v_iconst (v := 3) C dL_law_705 (by decide) ?_
  refine v_iadd C dL_law_706 ?_
  refine v_sld C hX hbl hbA (sx3 ht hL) dL_law_707 ?_
  refine v_callVi C (Pf_times_ok (xl X) C.ig c1) (Or.inl (tT 600 (by decide +kernel) rfl)) mb_X5_times mv_X5_times rfl rfl rfl (Nat.le_of_ble_eq_true rfl) (by decide) (by decide) dL_law_708 ?_
  refine v_aload_n C dL_law_711 rfl ?_
  refine v_aload_n C dL_law_712 rfl ?_
  refine v_iload_n C dL_law_713 rfl ?_
  refine v_iconst (v := 1) C dL_law_714 (by decide) ?_
  refine v_iadd C dL_law_715 ?_
  refine v_sld C hX hbl hbA (sx1 ht hL) dL_law_716 ?_
  refine v_aload_n C dL_law_717 rfl ?_
  refine v_iload_n C dL_law_718 rfl ?_
  refine v_iconst (v := 2) C dL_law_719 (by decide) ?_
  refine v_iadd C dL_law_720 ?_
  refine v_sld C hX hbl hbA (sx2 ht hL) dL_law_721 ?_
  refine v_aload_n C dL_law_722 rfl ?_
  refine v_iload_n C dL_law_723 rfl ?_
  refine v_iconst (v := 3) C dL_law_724 (by decide) ?_
  refine v_iadd C dL_law_725 ?_
  refine v_sld C hX hbl hbA (sx3 ht hL) dL_law_726 ?_
  refine v_callVi C (Mo_times_ok (xl X) C.ig c2) (Or.inl (tT 1105 (by decide +kernel) rfl)) mb_X6_times mv_X6_times rfl rfl rfl (Nat.le_of_ble_eq_true rfl) (by decide) (by decide) dL_law_727 ?_
  exact v_icmp_eq (tgt := 1078) C dL_law_730 (by decide) (fun _ => K M2 hR2) (fun q => absurd rfl q)
set_option maxRecDepth 100000 in
theorem law_c19 {X : XX} {G : GG} (C : Cx X G cL_law 4 RL 12 466 (some .boolean)) {b L : Nat} {sc : Nat → Int32} (hX : va_X b L sc (xs X) (xs X).heap) (hbl : b < (xs X).heap.size) (hbA : ¬ AG G b) (hL : L ≤ 2560) {t : Nat} (ht : t + 5 ≤ L) {Rel : Mem → Prop} (O : Op_swap Rel) {M : Mem} (hR : Rel M) (K : ∀ M2, Rel M2 → V X G 4 M2 1078 [some (.ref b), some (.ref (G.2.1 0)), some (.ref (G.2.1 32)), some (.int (nI t))] []) : V X G 4 M 735 [some (.ref b), some (.ref (G.2.1 0)), some (.ref (G.2.1 32)), some (.int (nI t))] [] := by
  obtain ⟨r, M1, M2, c1, c2, hR2⟩ := O M (sc (ix (nI t + 1))) (sc (ix (nI t + 2))) (sc (ix (nI t + 3))) hR
  refine v_aload_n C dL_law_735 rfl ?_
  refine v_aload_n C dL_law_736 rfl ?_
  refine v_iload_n C dL_law_737 rfl ?_
  refine v_iconst (v := 1) C dL_law_738 (by decide) ?_
  refine v_iadd C dL_law_739 ?_
  refine v_sld C hX hbl hbA (sx1 ht hL) dL_law_740 ?_
  refine v_aload_n C dL_law_741 rfl ?_
  refine v_iload_n C dL_law_742 rfl ?_
  refine v_iconst (v := 2) C dL_law_743 (by decide) ?_
  refine v_iadd C dL_law_744 ?_
  refine v_sld C hX hbl hbA (sx2 ht hL) dL_law_745 ?_
  refine v_aload_n C dL_law_746 rfl ?_
  refine v_iload_n C dL_law_747 rfl ?_
  refine v_iconst (v := 3) C dL_law_748 (by decide) ?_
  refine v_iadd C dL_law_749 ?_
  refine v_sld C hX hbl hbA (sx3 ht hL) dL_law_750 ?_
  refine v_callVi C (Pf_swap_ok (xl X) C.ig c1) (Or.inl (tT 608 (by decide +kernel) rfl)) mb_X5_swap mv_X5_swap rfl rfl rfl (Nat.le_of_ble_eq_true rfl) (by decide) (by decide) dL_law_751 ?_
  refine v_aload_n C dL_law_754 rfl ?_
  refine v_aload_n C dL_law_755 rfl ?_
  refine v_iload_n C dL_law_756 rfl ?_
  refine v_iconst (v := 1) C dL_law_757 (by decide) ?_
  refine v_iadd C dL_law_758 ?_
  refine v_sld C hX hbl hbA (sx1 ht hL) dL_law_759 ?_
  refine v_aload_n C dL_law_760 rfl ?_
  refine v_iload_n C dL_law_761 rfl ?_
  refine v_iconst (v := 2) C dL_law_762 (by decide) ?_
  refine v_iadd C dL_law_763 ?_
  refine v_sld C hX hbl hbA (sx2 ht hL) dL_law_764 ?_
  refine v_aload_n C dL_law_765 rfl ?_
  refine v_iload_n C dL_law_766 rfl ?_
  refine v_iconst (v := 3) C dL_law_767 (by decide) ?_
  refine v_iadd C dL_law_768 ?_
  refine v_sld C hX hbl hbA (sx3 ht hL) dL_law_769 ?_
  refine v_callVi C (Mo_swap_ok (xl X) C.ig c2) (Or.inl (tT 1109 (by decide +kernel) rfl)) mb_X6_swap mv_X6_swap rfl rfl rfl (Nat.le_of_ble_eq_true rfl) (by decide) (by decide) dL_law_770 ?_
  exact v_icmp_eq (tgt := 1078) C dL_law_773 (by decide) (fun _ => K M2 hR2) (fun q => absurd rfl q)
set_option maxRecDepth 100000 in
theorem law_c20 {X : XX} {G : GG} (C : Cx X G cL_law 4 RL 12 466 (some .boolean)) {b L : Nat} {sc : Nat → Int32} (hX : va_X b L sc (xs X) (xs X).heap) (hbl : b < (xs X).heap.size) (hbA : ¬ AG G b) (hL : L ≤ 2560) {t : Nat} (ht : t + 5 ≤ L) {Rel : Mem → Prop} (O : Op_scramble Rel) {M : Mem} (hR : Rel M) (K : ∀ M2, Rel M2 → V X G 4 M2 1078 [some (.ref b), some (.ref (G.2.1 0)), some (.ref (G.2.1 32)), some (.int (nI t))] []) : V X G 4 M 778 [some (.ref b), some (.ref (G.2.1 0)), some (.ref (G.2.1 32)), some (.int (nI t))] [] := by
  obtain ⟨r, M1, M2, c1, c2, hR2⟩ := O M (sc (ix (nI t + 1))) (sc (ix (nI t + 2))) hR
  refine v_aload_n C dL_law_778 rfl ?_
  refine v_aload_n C dL_law_779 rfl ?_
  refine v_iload_n C dL_law_780 rfl ?_
  refine v_iconst (v := 1) C dL_law_781 (by decide) ?_
  refine v_iadd C dL_law_782 ?_
  refine v_sld C hX hbl hbA (sx1 ht hL) dL_law_783 ?_
  refine v_aload_n C dL_law_784 rfl ?_
  refine v_iload_n C dL_law_785 rfl ?_
  refine v_iconst (v := 2) C dL_law_786 (by decide) ?_
  refine v_iadd C dL_law_787 ?_
  refine v_sld C hX hbl hbA (sx2 ht hL) dL_law_788 ?_
  refine v_callVi C (Pf_scramble_ok (xl X) C.ig c1) (Or.inl (tT 616 (by decide +kernel) rfl)) mb_X5_scramble mv_X5_scramble rfl rfl rfl (Nat.le_of_ble_eq_true rfl) (by decide) (by decide) dL_law_789 ?_
  refine v_aload_n C dL_law_792 rfl ?_
  refine v_aload_n C dL_law_793 rfl ?_
  refine v_iload_n C dL_law_794 rfl ?_
  refine v_iconst (v := 1) C dL_law_795 (by decide) ?_
  refine v_iadd C dL_law_796 ?_
  refine v_sld C hX hbl hbA (sx1 ht hL) dL_law_797 ?_
  refine v_aload_n C dL_law_798 rfl ?_
  refine v_iload_n C dL_law_799 rfl ?_
  refine v_iconst (v := 2) C dL_law_800 (by decide) ?_
  refine v_iadd C dL_law_801 ?_
  refine v_sld C hX hbl hbA (sx2 ht hL) dL_law_802 ?_
  refine v_callVi C (Mo_scramble_ok (xl X) C.ig c2) (Or.inl (tT 1113 (by decide +kernel) rfl)) mb_X6_scramble mv_X6_scramble rfl rfl rfl (Nat.le_of_ble_eq_true rfl) (by decide) (by decide) dL_law_803 ?_
  exact v_icmp_eq (tgt := 1078) C dL_law_806 (by decide) (fun _ => K M2 hR2) (fun q => absurd rfl q)
set_option maxRecDepth 100000 in
theorem law_c21 {X : XX} {G : GG} (C : Cx X G cL_law 4 RL 12 466 (some .boolean)) {b L : Nat} {sc : Nat → Int32} (hX : va_X b L sc (xs X) (xs X).heap) (hbl : b < (xs X).heap.size) (hbA : ¬ AG G b) (hL : L ≤ 2560) {t : Nat} (ht : t + 5 ≤ L) {Rel : Mem → Prop} (O : Op_turn Rel) {M : Mem} (hR : Rel M) (K : ∀ M2, Rel M2 → V X G 4 M2 1078 [some (.ref b), some (.ref (G.2.1 0)), some (.ref (G.2.1 32)), some (.int (nI t))] []) : V X G 4 M 811 [some (.ref b), some (.ref (G.2.1 0)), some (.ref (G.2.1 32)), some (.int (nI t))] [] := by
  obtain ⟨r, M1, M2, c1, c2, hR2⟩ := O M (sc (ix (nI t + 1))) hR
  refine v_aload_n C dL_law_811 rfl ?_
  refine v_aload_n C dL_law_812 rfl ?_
  refine v_iload_n C dL_law_813 rfl ?_
  refine v_iconst (v := 1) C dL_law_814 (by decide) ?_
  refine v_iadd C dL_law_815 ?_
  refine v_sld C hX hbl hbA (sx1 ht hL) dL_law_816 ?_
  refine v_callVi C (Pf_turn_ok (xl X) C.ig c1) (Or.inl (tT 626 (by decide +kernel) rfl)) mb_X5_turn mv_X5_turn rfl rfl rfl (Nat.le_of_ble_eq_true rfl) (by decide) (by decide) dL_law_817 ?_
  refine v_aload_n C dL_law_820 rfl ?_
  refine v_aload_n C dL_law_821 rfl ?_
  refine v_iload_n C dL_law_822 rfl ?_
  refine v_iconst (v := 1) C dL_law_823 (by decide) ?_
  refine v_iadd C dL_law_824 ?_
  refine v_sld C hX hbl hbA (sx1 ht hL) dL_law_825 ?_
  refine v_callVi C (Mo_turn_ok (xl X) C.ig c2) (Or.inl (tT 1120 (by decide +kernel) rfl)) mb_X6_turn mv_X6_turn rfl rfl rfl (Nat.le_of_ble_eq_true rfl) (by decide) (by decide) dL_law_826 ?_
  exact v_icmp_eq (tgt := 1078) C dL_law_829 (by decide) (fun _ => K M2 hR2) (fun q => absurd rfl q)
set_option maxRecDepth 100000 in
theorem law_c22 {X : XX} {G : GG} (C : Cx X G cL_law 4 RL 12 466 (some .boolean)) {b L : Nat} {sc : Nat → Int32} (hX : va_X b L sc (xs X) (xs X).heap) (hbl : b < (xs X).heap.size) (hbA : ¬ AG G b) (hL : L ≤ 2560) {t : Nat} (ht : t + 5 ≤ L) {Rel : Mem → Prop} (O : Op_keep Rel) {M : Mem} (hR : Rel M) (K : ∀ M2, Rel M2 → V X G 4 M2 1078 [some (.ref b), some (.ref (G.2.1 0)), some (.ref (G.2.1 32)), some (.int (nI t))] []) : V X G 4 M 834 [some (.ref b), some (.ref (G.2.1 0)), some (.ref (G.2.1 32)), some (.int (nI t))] [] := by
  obtain ⟨r, M1, M2, c1, c2, hR2⟩ := O M (sc (ix (nI t + 1))) hR
  refine v_aload_n C dL_law_834 rfl ?_
  refine v_aload_n C dL_law_835 rfl ?_
  refine v_iload_n C dL_law_836 rfl ?_
  refine v_iconst (v := 1) C dL_law_837 (by decide) ?_
  refine v_iadd C dL_law_838 ?_
  refine v_sld C hX hbl hbA (sx1 ht hL) dL_law_839 ?_
  refine v_callVi C (Pf_keep_ok (xl X) C.ig c1) (Or.inl (tT 639 (by decide +kernel) rfl)) mb_X5_keep mv_X5_keep rfl rfl rfl (Nat.le_of_ble_eq_true rfl) (by decide) (by decide) dL_law_840 ?_
  refine v_aload_n C dL_law_843 rfl ?_
  refine v_aload_n C dL_law_844 rfl ?_
  refine v_iload_n C dL_law_845 rfl ?_
  refine v_iconst (v := 1) C dL_law_846 (by decide) ?_
  refine v_iadd C dL_law_847 ?_
  refine v_sld C hX hbl hbA (sx1 ht hL) dL_law_848 ?_
  refine v_callVi C (Mo_keep_ok (xl X) C.ig c2) (Or.inl (tT 1129 (by decide +kernel) rfl)) mb_X6_keep mv_X6_keep rfl rfl rfl (Nat.le_of_ble_eq_true rfl) (by decide) (by decide) dL_law_849 ?_
  exact v_icmp_eq (tgt := 1078) C dL_law_852 (by decide) (fun _ => K M2 hR2) (fun q => absurd rfl q)
set_option maxRecDepth 100000 in
theorem law_c23 {X : XX} {G : GG} (C : Cx X G cL_law 4 RL 12 466 (some .boolean)) {b L : Nat} {sc : Nat → Int32} (hX : va_X b L sc (xs X) (xs X).heap) (hbl : b < (xs X).heap.size) (hbA : ¬ AG G b) (hL : L ≤ 2560) {t : Nat} (ht : t + 5 ≤ L) {Rel : Mem → Prop} (O : Op_back Rel) {M : Mem} (hR : Rel M) (K : ∀ M2, Rel M2 → V X G 4 M2 1078 [some (.ref b), some (.ref (G.2.1 0)), some (.ref (G.2.1 32)), some (.int (nI t))] []) : V X G 4 M 857 [some (.ref b), some (.ref (G.2.1 0)), some (.ref (G.2.1 32)), some (.int (nI t))] [] := by
  obtain ⟨r, M1, M2, c1, c2, hR2⟩ := O M (sc (ix (nI t + 1))) hR
  refine v_aload_n C dL_law_857 rfl ?_
  refine v_aload_n C dL_law_858 rfl ?_
  refine v_iload_n C dL_law_859 rfl ?_
  refine v_iconst (v := 1) C dL_law_860 (by decide) ?_
  refine v_iadd C dL_law_861 ?_
  refine v_sld C hX hbl hbA (sx1 ht hL) dL_law_862 ?_
  refine v_callVi C (Pf_back_ok (xl X) C.ig c1) (Or.inl (tT 646 (by decide +kernel) rfl)) mb_X5_back mv_X5_back rfl rfl rfl (Nat.le_of_ble_eq_true rfl) (by decide) (by decide) dL_law_863 ?_
  refine v_aload_n C dL_law_866 rfl ?_
  refine v_aload_n C dL_law_867 rfl ?_
  refine v_iload_n C dL_law_868 rfl ?_
  refine v_iconst (v := 1) C dL_law_869 (by decide) ?_
  refine v_iadd C dL_law_870 ?_
  refine v_sld C hX hbl hbA (sx1 ht hL) dL_law_871 ?_
  refine v_callVi C (Mo_back_ok (xl X) C.ig c2) (Or.inl (tT 1133 (by decide +kernel) rfl)) mb_X6_back mv_X6_back rfl rfl rfl (Nat.le_of_ble_eq_true rfl) (by decide) (by decide) dL_law_872 ?_
  exact v_icmp_eq (tgt := 1078) C dL_law_875 (by decide) (fun _ => K M2 hR2) (fun q => absurd rfl q)
set_option maxRecDepth 100000 in
theorem law_c24 {X : XX} {G : GG} (C : Cx X G cL_law 4 RL 12 466 (some .boolean)) {b L : Nat} {sc : Nat → Int32} (hX : va_X b L sc (xs X) (xs X).heap) (hbl : b < (xs X).heap.size) (hbA : ¬ AG G b) (hL : L ≤ 2560) {t : Nat} (ht : t + 5 ≤ L) {Rel : Mem → Prop} (O : Op_alike Rel) {M : Mem} (hR : Rel M) (K : ∀ M2, Rel M2 → V X G 4 M2 1078 [some (.ref b), some (.ref (G.2.1 0)), some (.ref (G.2.1 32)), some (.int (nI t))] []) : V X G 4 M 880 [some (.ref b), some (.ref (G.2.1 0)), some (.ref (G.2.1 32)), some (.int (nI t))] [] := by
  obtain ⟨r, M1, M2, c1, c2, hR2⟩ := O M (sc (ix (nI t + 1))) hR
  refine v_aload_n C dL_law_880 rfl ?_
  refine v_aload_n C dL_law_881 rfl ?_
  refine v_iload_n C dL_law_882 rfl ?_
  refine v_iconst (v := 1) C dL_law_883 (by decide) ?_
  refine v_iadd C dL_law_884 ?_
  refine v_sld C hX hbl hbA (sx1 ht hL) dL_law_885 ?_
  refine v_callVi C (Pf_alike_ok (xl X) C.ig c1) (Or.inl (tT 650 (by decide +kernel) rfl)) mb_X5_alike mv_X5_alike rfl rfl rfl (Nat.le_of_ble_eq_true rfl) (by decide) (by decide) dL_law_886 ?_
  refine v_aload_n C dL_law_889 rfl ?_
  refine v_aload_n C dL_law_890 rfl ?_
  refine v_iload_n C dL_law_891 rfl ?_
  refine v_iconst (v := 1) C dL_law_892 (by decide) ?_
  refine v_iadd C dL_law_893 ?_
  refine v_sld C hX hbl hbA (sx1 ht hL) dL_law_894 ?_
  refine v_callVi C (Mo_alike_ok (xl X) C.ig c2) (Or.inl (tT 1141 (by decide +kernel) rfl)) mb_X6_alike mv_X6_alike rfl rfl rfl (Nat.le_of_ble_eq_true rfl) (by decide) (by decide) dL_law_895 ?_
  exact v_icmp_eq (tgt := 1078) C dL_law_898 (by decide) (fun _ => K M2 hR2) (fun q => absurd rfl q)
set_option maxRecDepth 100000 in
theorem law_c25 {X : XX} {G : GG} (C : Cx X G cL_law 4 RL 12 466 (some .boolean)) {b L : Nat} {sc : Nat → Int32} (hX : va_X b L sc (xs X) (xs X).heap) (hbl : b < (xs X).heap.size) (hbA : ¬ AG G b) (hL : L ≤ 2560) {t : Nat} (ht : t + 5 ≤ L) {Rel : Mem → Prop} (O : Op_sheet Rel) {M : Mem} (hR : Rel M) (K : ∀ M2, Rel M2 → V X G 4 M2 1078 [some (.ref b), some (.ref (G.2.1 0)), some (.ref (G.2.1 32)), some (.int (nI t))] []) : V X G 4 M 903 [some (.ref b), some (.ref (G.2.1 0)), some (.ref (G.2.1 32)), some (.int (nI t))] [] := by
  obtain ⟨r, M1, M2, c1, c2, hR2⟩ := O M (sc (ix (nI t + 1))) (sc (ix (nI t + 2))) (sc (ix (nI t + 3))) hR
  refine v_aload_n C dL_law_903 rfl ?_
  refine v_aload_n C dL_law_904 rfl ?_
  refine v_iload_n C dL_law_905 rfl ?_
  refine v_iconst (v := 1) C dL_law_906 (by decide) ?_
  refine v_iadd C dL_law_907 ?_
  refine v_sld C hX hbl hbA (sx1 ht hL) dL_law_908 ?_
  refine v_aload_n C dL_law_909 rfl ?_
  refine v_iload_n C dL_law_910 rfl ?_
  refine v_iconst (v := 2) C dL_law_911 (by decide) ?_
  refine v_iadd C dL_law_912 ?_
  refine v_sld C hX hbl hbA (sx2 ht hL) dL_law_913 ?_
  refine v_aload_n C dL_law_914 rfl ?_
  refine v_iload_n C dL_law_915 rfl ?_
  refine v_iconst (v := 3) C dL_law_916 (by decide) ?_
  refine v_iadd C dL_law_917 ?_
  refine v_sld C hX hbl hbA (sx3 ht hL) dL_law_918 ?_
  refine v_callVi C (Pf_sheet_ok (xl X) C.ig c1) (Or.inl (tT 662 (by decide +kernel) rfl)) mb_X5_sheet mv_X5_sheet rfl rfl rfl (Nat.le_of_ble_eq_true rfl) (by decide) (by decide) dL_law_919 ?_
  refine v_aload_n C dL_law_922 rfl ?_
  refine v_aload_n C dL_law_923 rfl ?_
  refine v_iload_n C dL_law_924 rfl ?_
  refine v_iconst (v := 1) C dL_law_925 (by decide) ?_
  refine v_iadd C dL_law_926 ?_
  refine v_sld C hX hbl hbA (sx1 ht hL) dL_law_927 ?_
  refine v_aload_n C dL_law_928 rfl ?_
  refine v_iload_n C dL_law_929 rfl ?_
  refine v_iconst (v := 2) C dL_law_930 (by decide) ?_
  refine v_iadd C dL_law_931 ?_
  refine v_sld C hX hbl hbA (sx2 ht hL) dL_law_932 ?_
  refine v_aload_n C dL_law_933 rfl ?_
  refine v_iload_n C dL_law_934 rfl ?_
  refine v_iconst (v := 3) C dL_law_935 (by decide) ?_
  refine v_iadd C dL_law_936 ?_
  refine v_sld C hX hbl hbA (sx3 ht hL) dL_law_937 ?_
  refine v_callVi C (Mo_sheet_ok (xl X) C.ig c2) (Or.inl (tT 1149 (by decide +kernel) rfl)) mb_X6_sheet mv_X6_sheet rfl rfl rfl (Nat.le_of_ble_eq_true rfl) (by decide) (by decide) dL_law_938 ?_
  exact v_icmp_eq (tgt := 1078) C dL_law_941 (by decide) (fun _ => K M2 hR2) (fun q => absurd rfl q)
set_option maxRecDepth 100000 in
theorem law_c26 {X : XX} {G : GG} (C : Cx X G cL_law 4 RL 12 466 (some .boolean)) {b L : Nat} {sc : Nat → Int32} (hX : va_X b L sc (xs X) (xs X).heap) (hbl : b < (xs X).heap.size) (hbA : ¬ AG G b) (hL : L ≤ 2560) {t : Nat} (ht : t + 5 ≤ L) {Rel : Mem → Prop} (O : Op_lay Rel) {M : Mem} (hR : Rel M) (K : ∀ M2, Rel M2 → V X G 4 M2 1078 [some (.ref b), some (.ref (G.2.1 0)), some (.ref (G.2.1 32)), some (.int (nI t))] []) : V X G 4 M 946 [some (.ref b), some (.ref (G.2.1 0)), some (.ref (G.2.1 32)), some (.int (nI t))] [] := by
  obtain ⟨r, M1, M2, c1, c2, hR2⟩ := O M (sc (ix (nI t + 1))) (sc (ix (nI t + 2))) (sc (ix (nI t + 3))) hR
  refine v_aload_n C dL_law_946 rfl ?_
  refine v_aload_n C dL_law_947 rfl ?_
  refine v_iload_n C dL_law_948 rfl ?_
  refine v_iconst (v := 1) C dL_law_949 (by decide) ?_
  refine v_iadd C dL_law_950 ?_
  refine v_sld C hX hbl hbA (sx1 ht hL) dL_law_951 ?_
  refine v_aload_n C dL_law_952 rfl ?_
  refine v_iload_n C dL_law_953 rfl ?_
  refine v_iconst (v := 2) C dL_law_954 (by decide) ?_
  refine v_iadd C dL_law_955 ?_
  refine v_sld C hX hbl hbA (sx2 ht hL) dL_law_956 ?_
  refine v_aload_n C dL_law_957 rfl ?_
  refine v_iload_n C dL_law_958 rfl ?_
  refine v_iconst (v := 3) C dL_law_959 (by decide) ?_
  refine v_iadd C dL_law_960 ?_
  refine v_sld C hX hbl hbA (sx3 ht hL) dL_law_961 ?_
  refine v_callVi C (Pf_lay_ok (xl X) C.ig c1) (Or.inl (tT 678 (by decide +kernel) rfl)) mb_X5_lay mv_X5_lay rfl rfl rfl (Nat.le_of_ble_eq_true rfl) (by decide) (by decide) dL_law_962 ?_
  refine v_aload_n C dL_law_965 rfl ?_
  refine v_aload_n C dL_law_966 rfl ?_
  refine v_iload_n C dL_law_967 rfl ?_
  refine v_iconst (v := 1) C dL_law_968 (by decide) ?_
  refine v_iadd C dL_law_969 ?_
  refine v_sld C hX hbl hbA (sx1 ht hL) dL_law_970 ?_
  refine v_aload_n C dL_law_971 rfl ?_
  refine v_iload_n C dL_law_972 rfl ?_
  refine v_iconst (v := 2) C dL_law_973 (by decide) ?_
  refine v_iadd C dL_law_974 ?_
  refine v_sld C hX hbl hbA (sx2 ht hL) dL_law_975 ?_
  refine v_aload_n C dL_law_976 rfl ?_
  refine v_iload_n C dL_law_977 rfl ?_
  refine v_iconst (v := 3) C dL_law_978 (by decide) ?_
  refine v_iadd C dL_law_979 ?_
  refine v_sld C hX hbl hbA (sx3 ht hL) dL_law_980 ?_
  refine v_callVi C (Mo_lay_ok (xl X) C.ig c2) (Or.inl (tT 1157 (by decide +kernel) rfl)) mb_X6_lay mv_X6_lay rfl rfl rfl (Nat.le_of_ble_eq_true rfl) (by decide) (by decide) dL_law_981 ?_
  exact v_icmp_eq (tgt := 1078) C dL_law_984 (by decide) (fun _ => K M2 hR2) (fun q => absurd rfl q)
set_option maxRecDepth 100000 in
theorem law_c27 {X : XX} {G : GG} (C : Cx X G cL_law 4 RL 12 466 (some .boolean)) {b L : Nat} {sc : Nat → Int32} (hX : va_X b L sc (xs X) (xs X).heap) (hbl : b < (xs X).heap.size) (hbA : ¬ AG G b) (hL : L ≤ 2560) {t : Nat} (ht : t + 5 ≤ L) {Rel : Mem → Prop} (O : Op_read Rel) {M : Mem} (hR : Rel M) (K : ∀ M2, Rel M2 → V X G 4 M2 1078 [some (.ref b), some (.ref (G.2.1 0)), some (.ref (G.2.1 32)), some (.int (nI t))] []) : V X G 4 M 989 [some (.ref b), some (.ref (G.2.1 0)), some (.ref (G.2.1 32)), some (.int (nI t))] [] := by
  obtain ⟨r, M1, M2, c1, c2, hR2⟩ := O M (sc (ix (nI t + 1))) (sc (ix (nI t + 2))) (sc (ix (nI t + 3))) (sc (ix (nI t + 4))) hR
  refine v_aload_n C dL_law_989 rfl ?_
  refine v_aload_n C dL_law_990 rfl ?_
  refine v_iload_n C dL_law_991 rfl ?_
  refine v_iconst (v := 1) C dL_law_992 (by decide) ?_
  refine v_iadd C dL_law_993 ?_
  refine v_sld C hX hbl hbA (sx1 ht hL) dL_law_994 ?_
  refine v_aload_n C dL_law_995 rfl ?_
  refine v_iload_n C dL_law_996 rfl ?_
  refine v_iconst (v := 2) C dL_law_997 (by decide) ?_
  refine v_iadd C dL_law_998 ?_
  refine v_sld C hX hbl hbA (sx2 ht hL) dL_law_999 ?_
  refine v_aload_n C dL_law_1000 rfl ?_
  refine v_iload_n C dL_law_1001 rfl ?_
  refine v_iconst (v := 3) C dL_law_1002 (by decide) ?_
  refine v_iadd C dL_law_1003 ?_
  refine v_sld C hX hbl hbA (sx3 ht hL) dL_law_1004 ?_
  refine v_aload_n C dL_law_1005 rfl ?_
  refine v_iload_n C dL_law_1006 rfl ?_
  refine v_iconst (v := 4) C dL_law_1007 (by decide) ?_
  refine v_iadd C dL_law_1008 ?_
  refine v_sld C hX hbl hbA (sx4 ht hL) dL_law_1009 ?_
  refine v_callVi C (Pf_read_ok (xl X) C.ig c1) (Or.inl (tT 695 (by decide +kernel) rfl)) mb_X5_read mv_X5_read rfl rfl rfl (Nat.le_of_ble_eq_true rfl) (by decide) (by decide) dL_law_1010 ?_
  refine v_aload_n C dL_law_1013 rfl ?_
  refine v_aload_n C dL_law_1014 rfl ?_
  refine v_iload_n C dL_law_1015 rfl ?_
  refine v_iconst (v := 1) C dL_law_1016 (by decide) ?_
  refine v_iadd C dL_law_1017 ?_
  refine v_sld C hX hbl hbA (sx1 ht hL) dL_law_1018 ?_
  refine v_aload_n C dL_law_1019 rfl ?_
  refine v_iload_n C dL_law_1020 rfl ?_
  refine v_iconst (v := 2) C dL_law_1021 (by decide) ?_
  refine v_iadd C dL_law_1022 ?_
  refine v_sld C hX hbl hbA (sx2 ht hL) dL_law_1023 ?_
  refine v_aload_n C dL_law_1024 rfl ?_
  refine v_iload_n C dL_law_1025 rfl ?_
  refine v_iconst (v := 3) C dL_law_1026 (by decide) ?_
  refine v_iadd C dL_law_1027 ?_
  refine v_sld C hX hbl hbA (sx3 ht hL) dL_law_1028 ?_
  refine v_aload_n C dL_law_1029 rfl ?_
  refine v_iload_n C dL_law_1030 rfl ?_
  refine v_iconst (v := 4) C dL_law_1031 (by decide) ?_
  refine v_iadd C dL_law_1032 ?_
  refine v_sld C hX hbl hbA (sx4 ht hL) dL_law_1033 ?_
  refine v_callVi C (Mo_read_ok (xl X) C.ig c2) (Or.inl (tT 1161 (by decide +kernel) rfl)) mb_X6_read mv_X6_read rfl rfl rfl (Nat.le_of_ble_eq_true rfl) (by decide) (by decide) dL_law_1034 ?_
  exact v_icmp_eq (tgt := 1078) C dL_law_1037 (by decide) (fun _ => K M2 hR2) (fun q => absurd rfl q)
set_option maxRecDepth 100000 in
theorem law_c28 {X : XX} {G : GG} (C : Cx X G cL_law 4 RL 12 466 (some .boolean)) {b L : Nat} {sc : Nat → Int32} (hX : va_X b L sc (xs X) (xs X).heap) (hbl : b < (xs X).heap.size) (hbA : ¬ AG G b) (hL : L ≤ 2560) {t : Nat} (ht : t + 5 ≤ L) {Rel : Mem → Prop} (O : Op_torn Rel) {M : Mem} (hR : Rel M) (K : ∀ M2, Rel M2 → V X G 4 M2 1078 [some (.ref b), some (.ref (G.2.1 0)), some (.ref (G.2.1 32)), some (.int (nI t))] []) : V X G 4 M 1042 [some (.ref b), some (.ref (G.2.1 0)), some (.ref (G.2.1 32)), some (.int (nI t))] [] := by
  obtain ⟨r, M1, M2, c1, c2, hR2⟩ := O M  hR
  refine v_aload_n C dL_law_1042 rfl ?_
  refine v_callVi C (Pf_torn_ok (xl X) C.ig c1) (Or.inl (tT 715 (by decide +kernel) rfl)) mb_X5_torn mv_X5_torn rfl rfl rfl (Nat.le_of_ble_eq_true rfl) (by decide) (by decide) dL_law_1043 ?_
  refine v_aload_n C dL_law_1046 rfl ?_
  refine v_callVi C (Mo_torn_ok (xl X) C.ig c2) (Or.inl (tT 1167 (by decide +kernel) rfl)) mb_X6_torn mv_X6_torn rfl rfl rfl (Nat.le_of_ble_eq_true rfl) (by decide) (by decide) dL_law_1047 ?_
  exact v_icmp_eq (tgt := 1078) C dL_law_1050 (by decide) (fun _ => K M2 hR2) (fun q => absurd rfl q)
set_option maxRecDepth 100000 in
theorem law_c29 {X : XX} {G : GG} (C : Cx X G cL_law 4 RL 12 466 (some .boolean)) {b L : Nat} {sc : Nat → Int32} (hX : va_X b L sc (xs X) (xs X).heap) (hbl : b < (xs X).heap.size) (hbA : ¬ AG G b) (hL : L ≤ 2560) {t : Nat} (ht : t + 5 ≤ L) {Rel : Mem → Prop} (O : Op_count Rel) {M : Mem} (hR : Rel M) (K : ∀ M2, Rel M2 → V X G 4 M2 1078 [some (.ref b), some (.ref (G.2.1 0)), some (.ref (G.2.1 32)), some (.int (nI t))] []) : V X G 4 M 1055 [some (.ref b), some (.ref (G.2.1 0)), some (.ref (G.2.1 32)), some (.int (nI t))] [] := by
  obtain ⟨r, M1, M2, c1, c2, hR2⟩ := O M (sc (ix (nI t + 1))) hR
  refine v_aload_n C dL_law_1055 rfl ?_
  refine v_aload_n C dL_law_1056 rfl ?_
  refine v_iload_n C dL_law_1057 rfl ?_
  refine v_iconst (v := 1) C dL_law_1058 (by decide) ?_
  refine v_iadd C dL_law_1059 ?_
  refine v_sld C hX hbl hbA (sx1 ht hL) dL_law_1060 ?_
  refine v_callVi C (Pf_count_ok (xl X) C.ig c1) (Or.inl (tT 719 (by decide +kernel) rfl)) mb_X5_count mv_X5_count rfl rfl rfl (Nat.le_of_ble_eq_true rfl) (by decide) (by decide) dL_law_1061 ?_
  refine v_aload_n C dL_law_1064 rfl ?_
  refine v_aload_n C dL_law_1065 rfl ?_
  refine v_iload_n C dL_law_1066 rfl ?_
  refine v_iconst (v := 1) C dL_law_1067 (by decide) ?_
  refine v_iadd C dL_law_1068 ?_
  refine v_sld C hX hbl hbA (sx1 ht hL) dL_law_1069 ?_
  refine v_callVi C (Mo_count_ok (xl X) C.ig c2) (Or.inl (tT 1171 (by decide +kernel) rfl)) mb_X6_count mv_X6_count rfl rfl rfl (Nat.le_of_ble_eq_true rfl) (by decide) (by decide) dL_law_1070 ?_
  exact v_icmp_eq (tgt := 1078) C dL_law_1073 (by decide) (fun _ => K M2 hR2) (fun q => absurd rfl q)
theorem nI5 {L : Nat} (hL : L ≤ 2560) : (nI L - 5).toInt = (L : Int) - 5 := pk_sub_toInt (a := L) (b := 5) (by omega) (by omega)
theorem law_gt {t L : Nat} (h : L + 5 ≤ t + 0) (hL : L ≤ 2560) (h2 : t ≤ 2565) : nI L - 5 < nI t := by
  rw [Int32.lt_iff_toInt_lt, nI5 hL, nI_toInt (by omega)]
  omega
theorem law_le {t L : Nat} (hL : L ≤ 2560) (h2 : t ≤ 2565) (q : ¬ nI L - 5 < nI t) : t + 5 ≤ L := by
  rw [Int32.lt_iff_toInt_lt, nI5 hL, nI_toInt (by omega)] at q
  omega
set_option maxRecDepth 100000 in
set_option maxHeartbeats 4000000 in
theorem law_loop {X : XX} {G : GG} (C : Cx X G cL_law 4 RL 12 466 (some .boolean)) {b L : Nat} {sc : Nat → Int32} (hX : va_X b L sc (xs X) (xs X).heap) (hbl : b < (xs X).heap.size) (hbA : ¬ AG G b) (hL : L ≤ 2560) {Rel : Mem → Prop} (O : Ops Rel) (E : ∀ (M : Mem) (t : Nat), V X G 4 M 1084 [some (.ref b), some (.ref (G.2.1 0)), some (.ref (G.2.1 32)), some (.int (nI t))] []) : ∀ (n t : Nat) (M : Mem), L + 5 ≤ t + n → Rel M → t ≤ 2565 → V X G 4 M 18 [some (.ref b), some (.ref (G.2.1 0)), some (.ref (G.2.1 32)), some (.int (nI t))] [] := by
  intro n
  induction n with
  | zero =>
    intro t M h1 hR h2
    refine v_iload_n C dL_law_18 rfl ?_
    refine v_aload_n C dL_law_19 rfl ?_
    refine v_slen0 C hX hbl hbA dL_law_20 ?_
    refine v_iconst (v := 5) C dL_law_21 (by decide) ?_
    refine v_isub C dL_law_22 ?_
    refine v_icmp_gt (tgt := 1084) C dL_law_23 (by decide) (fun _ => E M t) (fun q => absurd (law_gt h1 hL h2) q)
  | succ n ih =>
    intro t M h1 hR h2
    refine v_iload_n C dL_law_18 rfl ?_
    refine v_aload_n C dL_law_19 rfl ?_
    refine v_slen0 C hX hbl hbA dL_law_20 ?_
    refine v_iconst (v := 5) C dL_law_21 (by decide) ?_
    refine v_isub C dL_law_22 ?_
    refine v_icmp_gt (tgt := 1084) C dL_law_23 (by decide) (fun _ => E M t) (fun q => ?_)
    have ht : t + 5 ≤ L := law_le hL h2 q
    have K : ∀ M2, Rel M2 → V X G 4 M2 1078 [some (.ref b), some (.ref (G.2.1 0)), some (.ref (G.2.1 32)), some (.int (nI t))] [] := fun M2 hR2 => by
      refine v_iinc (v := 5) C dL_law_1078 rfl (by decide) (by decide) rfl ?_
      refine v_goto (tgt := 18) C dL_law_1081 (by decide) ?_
      have e : nI t + 5 = nI (t + 5) := nI_add t 5
      show V X G 4 M2 18 [some (.ref b), some (.ref (G.2.1 0)), some (.ref (G.2.1 32)), some (.int (nI t + 5))] []
      rw [e]
      exact ih (t + 5) M2 (by omega) hR2 (by omega)
    refine v_aload_n C dL_law_26 rfl ?_
    refine v_iload_n C dL_law_27 rfl ?_
    refine v_sld C hX hbl hbA (sx0 ht hL) dL_law_28 ?_
    refine v_bipush (v := 31) C dL_law_29 (by decide) ?_
    refine v_iand C dL_law_31 ?_
    generalize sc (ix (nI t)) &&& 31 = w
    by_cases q0 : w = 0
    · subst q0
      exact v_tin (tgt := 168) C dL_law_32 (by decide) (by decide) rfl (by decide) (law_c0 C hX hbl hbA hL ht O.1 hR K)
    by_cases q1 : w = 1
    · subst q1
      exact v_tin (tgt := 191) C dL_law_32 (by decide) (by decide) rfl (by decide) (law_c1 C hX hbl hbA hL ht O.2.1 hR K)
    by_cases q2 : w = 2
    · subst q2
      exact v_tin (tgt := 214) C dL_law_32 (by decide) (by decide) rfl (by decide) (law_c2 C hX hbl hbA hL ht O.2.2.1 hR K)
    by_cases q3 : w = 3
    · subst q3
      exact v_tin (tgt := 227) C dL_law_32 (by decide) (by decide) rfl (by decide) (law_c3 C hX hbl hbA hL ht O.2.2.2.1 hR K)
    by_cases q4 : w = 4
    · subst q4
      exact v_tin (tgt := 240) C dL_law_32 (by decide) (by decide) rfl (by decide) (law_c4 C hX hbl hbA hL ht O.2.2.2.2.1 hR K)
    by_cases q5 : w = 5
    · subst q5
      exact v_tin (tgt := 263) C dL_law_32 (by decide) (by decide) rfl (by decide) (law_c5 C hX hbl hbA hL ht O.2.2.2.2.2.1 hR K)
    by_cases q6 : w = 6
    · subst q6
      exact v_tin (tgt := 306) C dL_law_32 (by decide) (by decide) rfl (by decide) (law_c6 C hX hbl hbA hL ht O.2.2.2.2.2.2.1 hR K)
    by_cases q7 : w = 7
    · subst q7
      exact v_tin (tgt := 329) C dL_law_32 (by decide) (by decide) rfl (by decide) (law_c7 C hX hbl hbA hL ht O.2.2.2.2.2.2.2.1 hR K)
    by_cases q8 : w = 8
    · subst q8
      exact v_tin (tgt := 352) C dL_law_32 (by decide) (by decide) rfl (by decide) (law_c8 C hX hbl hbA hL ht O.2.2.2.2.2.2.2.2.1 hR K)
    by_cases q9 : w = 9
    · subst q9
      exact v_tin (tgt := 375) C dL_law_32 (by decide) (by decide) rfl (by decide) (law_c9 C hX hbl hbA hL ht O.2.2.2.2.2.2.2.2.2.1 hR K)
    by_cases q10 : w = 10
    · subst q10
      exact v_tin (tgt := 398) C dL_law_32 (by decide) (by decide) rfl (by decide) (law_c10 C hX hbl hbA hL ht O.2.2.2.2.2.2.2.2.2.2.1 hR K)
    by_cases q11 : w = 11
    · subst q11
      exact v_tin (tgt := 431) C dL_law_32 (by decide) (by decide) rfl (by decide) (law_c11 C hX hbl hbA hL ht O.2.2.2.2.2.2.2.2.2.2.2.1 hR K)
    by_cases q12 : w = 12
    · subst q12
      exact v_tin (tgt := 464) C dL_law_32 (by decide) (by decide) rfl (by decide) (law_c12 C hX hbl hbA hL ht O.2.2.2.2.2.2.2.2.2.2.2.2.1 hR K)
    by_cases q13 : w = 13
    · subst q13
      exact v_tin (tgt := 497) C dL_law_32 (by decide) (by decide) rfl (by decide) (law_c13 C hX hbl hbA hL ht O.2.2.2.2.2.2.2.2.2.2.2.2.2.1 hR K)
    by_cases q14 : w = 14
    · subst q14
      exact v_tin (tgt := 530) C dL_law_32 (by decide) (by decide) rfl (by decide) (law_c14 C hX hbl hbA hL ht O.2.2.2.2.2.2.2.2.2.2.2.2.2.2.1 hR K)
    by_cases q15 : w = 15
    · subst q15
      exact v_tin (tgt := 583) C dL_law_32 (by decide) (by decide) rfl (by decide) (law_c15 C hX hbl hbA hL ht O.2.2.2.2.2.2.2.2.2.2.2.2.2.2.2.1 hR K)
    by_cases q16 : w = 16
    · subst q16
      exact v_tin (tgt := 606) C dL_law_32 (by decide) (by decide) rfl (by decide) (law_c16 C hX hbl hbA hL ht O.2.2.2.2.2.2.2.2.2.2.2.2.2.2.2.2.1 hR K)
    by_cases q17 : w = 17
    · subst q17
      exact v_tin (tgt := 639) C dL_law_32 (by decide) (by decide) rfl (by decide) (law_c17 C hX hbl hbA hL ht O.2.2.2.2.2.2.2.2.2.2.2.2.2.2.2.2.2.1 hR K)
    by_cases q18 : w = 18
    · subst q18
      exact v_tin (tgt := 692) C dL_law_32 (by decide) (by decide) rfl (by decide) (law_c18 C hX hbl hbA hL ht O.2.2.2.2.2.2.2.2.2.2.2.2.2.2.2.2.2.2.1 hR K)
    by_cases q19 : w = 19
    · subst q19
      exact v_tin (tgt := 735) C dL_law_32 (by decide) (by decide) rfl (by decide) (law_c19 C hX hbl hbA hL ht O.2.2.2.2.2.2.2.2.2.2.2.2.2.2.2.2.2.2.2.1 hR K)
    by_cases q20 : w = 20
    · subst q20
      exact v_tin (tgt := 778) C dL_law_32 (by decide) (by decide) rfl (by decide) (law_c20 C hX hbl hbA hL ht O.2.2.2.2.2.2.2.2.2.2.2.2.2.2.2.2.2.2.2.2.1 hR K)
    by_cases q21 : w = 21
    · subst q21
      exact v_tin (tgt := 811) C dL_law_32 (by decide) (by decide) rfl (by decide) (law_c21 C hX hbl hbA hL ht O.2.2.2.2.2.2.2.2.2.2.2.2.2.2.2.2.2.2.2.2.2.1 hR K)
    by_cases q22 : w = 22
    · subst q22
      exact v_tin (tgt := 834) C dL_law_32 (by decide) (by decide) rfl (by decide) (law_c22 C hX hbl hbA hL ht O.2.2.2.2.2.2.2.2.2.2.2.2.2.2.2.2.2.2.2.2.2.2.1 hR K)
    by_cases q23 : w = 23
    · subst q23
      exact v_tin (tgt := 857) C dL_law_32 (by decide) (by decide) rfl (by decide) (law_c23 C hX hbl hbA hL ht O.2.2.2.2.2.2.2.2.2.2.2.2.2.2.2.2.2.2.2.2.2.2.2.1 hR K)
    by_cases q24 : w = 24
    · subst q24
      exact v_tin (tgt := 880) C dL_law_32 (by decide) (by decide) rfl (by decide) (law_c24 C hX hbl hbA hL ht O.2.2.2.2.2.2.2.2.2.2.2.2.2.2.2.2.2.2.2.2.2.2.2.2.1 hR K)
    by_cases q25 : w = 25
    · subst q25
      exact v_tin (tgt := 903) C dL_law_32 (by decide) (by decide) rfl (by decide) (law_c25 C hX hbl hbA hL ht O.2.2.2.2.2.2.2.2.2.2.2.2.2.2.2.2.2.2.2.2.2.2.2.2.2.1 hR K)
    by_cases q26 : w = 26
    · subst q26
      exact v_tin (tgt := 946) C dL_law_32 (by decide) (by decide) rfl (by decide) (law_c26 C hX hbl hbA hL ht O.2.2.2.2.2.2.2.2.2.2.2.2.2.2.2.2.2.2.2.2.2.2.2.2.2.2.1 hR K)
    by_cases q27 : w = 27
    · subst q27
      exact v_tin (tgt := 989) C dL_law_32 (by decide) (by decide) rfl (by decide) (law_c27 C hX hbl hbA hL ht O.2.2.2.2.2.2.2.2.2.2.2.2.2.2.2.2.2.2.2.2.2.2.2.2.2.2.2.1 hR K)
    by_cases q28 : w = 28
    · subst q28
      exact v_tin (tgt := 1042) C dL_law_32 (by decide) (by decide) rfl (by decide) (law_c28 C hX hbl hbA hL ht O.2.2.2.2.2.2.2.2.2.2.2.2.2.2.2.2.2.2.2.2.2.2.2.2.2.2.2.2.1 hR K)
    by_cases q29 : w = 29
    · subst q29
      exact v_tin (tgt := 1055) C dL_law_32 (by decide) (by decide) rfl (by decide) (law_c29 C hX hbl hbA hL ht O.2.2.2.2.2.2.2.2.2.2.2.2.2.2.2.2.2.2.2.2.2.2.2.2.2.2.2.2.2 hR K)
    exact v_tout (tgt := 1078) C dL_law_32 (tsw30 q0 q1 q2 q3 q4 q5 q6 q7 q8 q9 q10 q11 q12 q13 q14 q15 q16 q17 q18 q19 q20 q21 q22 q23 q24 q25 q26 q27 q28 q29) (by decide) (K M hR)
