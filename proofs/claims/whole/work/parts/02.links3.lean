set_option maxRecDepth 20000 in
theorem lf_X8_66 : Cond.fieldLink RX8 66 "VotedFileModel" "best" "[J" ∈ zU := zU_in 534 (by decide +kernel) (by decide +kernel)
set_option maxRecDepth 20000 in
theorem lf_X8_69 : Cond.fieldLink RX8 69 "VotedFileModel" "kind" "[I" ∈ zU := zU_in 535 (by decide +kernel) (by decide +kernel)
set_option maxRecDepth 20000 in
theorem lf_X8_72 : Cond.fieldLink RX8 72 "VotedFileModel" "whose" "[I" ∈ zU := zU_in 536 (by decide +kernel) (by decide +kernel)
set_option maxRecDepth 20000 in
theorem lf_X8_75 : Cond.fieldLink RX8 75 "VotedFileModel" "began" "[I" ∈ zU := zU_in 537 (by decide +kernel) (by decide +kernel)
set_option maxRecDepth 20000 in
theorem lf_X8_78 : Cond.fieldLink RX8 78 "VotedFileModel" "done" "[I" ∈ zU := zU_in 538 (by decide +kernel) (by decide +kernel)
set_option maxRecDepth 20000 in
theorem lf_X8_81 : Cond.fieldLink RX8 81 "VotedFileModel" "tagOften" "[I" ∈ zU := zU_in 539 (by decide +kernel) (by decide +kernel)
set_option maxRecDepth 20000 in
theorem lf_X8_84 : Cond.fieldLink RX8 84 "VotedFileModel" "tagBy" "[I" ∈ zU := zU_in 540 (by decide +kernel) (by decide +kernel)
set_option maxRecDepth 20000 in
theorem lf_X8_87 : Cond.fieldLink RX8 87 "VotedFileModel" "tableOf" "[I" ∈ zU := zU_in 541 (by decide +kernel) (by decide +kernel)
set_option maxRecDepth 20000 in
theorem lf_X8_90 : Cond.fieldLink RX8 90 "VotedFileModel" "told" "[J" ∈ zU := zU_in 542 (by decide +kernel) (by decide +kernel)
set_option maxRecDepth 20000 in
theorem lf_X8_154 : Cond.fieldLink RX8 154 "VotedFileModel" "acts" "I" ∈ zU := zU_in 543 (by decide +kernel) (by decide +kernel)
set_option maxRecDepth 20000 in
theorem lf_X8_157 : Cond.fieldLink RX8 157 "VotedFileModel" "clock" "I" ∈ zU := zU_in 544 (by decide +kernel) (by decide +kernel)
set_option maxRecDepth 20000 in
theorem lf_X8_143 : Cond.fieldLink RX8 143 "VotedFileModel" "lost" "I" ∈ zU := zU_in 545 (by decide +kernel) (by decide +kernel)
set_option maxRecDepth 20000 in
theorem lf_X8_93 : Cond.fieldLink RX8 93 "VotedFileModel" "isAnswer" "[Z" ∈ zU := zU_in 546 (by decide +kernel) (by decide +kernel)
set_option maxRecDepth 20000 in
theorem lf_X8_96 : Cond.fieldLink RX8 96 "VotedFileModel" "airCopy" "[I" ∈ zU := zU_in 547 (by decide +kernel) (by decide +kernel)
set_option maxRecDepth 20000 in
theorem lf_X8_99 : Cond.fieldLink RX8 99 "VotedFileModel" "airClient" "[I" ∈ zU := zU_in 548 (by decide +kernel) (by decide +kernel)
set_option maxRecDepth 20000 in
theorem lf_X8_102 : Cond.fieldLink RX8 102 "VotedFileModel" "airAct" "[I" ∈ zU := zU_in 549 (by decide +kernel) (by decide +kernel)
set_option maxRecDepth 20000 in
theorem lf_X8_105 : Cond.fieldLink RX8 105 "VotedFileModel" "airPhase" "[I" ∈ zU := zU_in 550 (by decide +kernel) (by decide +kernel)
set_option maxRecDepth 20000 in
theorem lf_X8_108 : Cond.fieldLink RX8 108 "VotedFileModel" "airRound" "[I" ∈ zU := zU_in 551 (by decide +kernel) (by decide +kernel)
set_option maxRecDepth 20000 in
theorem lf_X8_111 : Cond.fieldLink RX8 111 "VotedFileModel" "airOften" "[I" ∈ zU := zU_in 552 (by decide +kernel) (by decide +kernel)
set_option maxRecDepth 20000 in
theorem lf_X8_114 : Cond.fieldLink RX8 114 "VotedFileModel" "airBy" "[I" ∈ zU := zU_in 553 (by decide +kernel) (by decide +kernel)
set_option maxRecDepth 20000 in
theorem lf_X8_117 : Cond.fieldLink RX8 117 "VotedFileModel" "airTable" "[I" ∈ zU := zU_in 554 (by decide +kernel) (by decide +kernel)
set_option maxRecDepth 20000 in
theorem lf_X8_120 : Cond.fieldLink RX8 120 "VotedFileModel" "airBase" "[I" ∈ zU := zU_in 555 (by decide +kernel) (by decide +kernel)
set_option maxRecDepth 20000 in
theorem lf_X8_123 : Cond.fieldLink RX8 123 "VotedFileModel" "airLast" "[I" ∈ zU := zU_in 556 (by decide +kernel) (by decide +kernel)
set_option maxRecDepth 20000 in
theorem lf_X8_126 : Cond.fieldLink RX8 126 "VotedFileModel" "airValue" "[J" ∈ zU := zU_in 557 (by decide +kernel) (by decide +kernel)
set_option maxRecDepth 20000 in
theorem lf_X8_140 : Cond.fieldLink RX8 140 "VotedFileModel" "air" "I" ∈ zU := zU_in 558 (by decide +kernel) (by decide +kernel)
set_option maxRecDepth 20000 in
theorem la_long : Cond.arrayClass .long ∈ zU := zU_in 650 (by decide +kernel) (by decide +kernel)
set_option maxRecDepth 20000 in
theorem la_boolean : Cond.arrayClass .boolean ∈ zU := zU_in 651 (by decide +kernel) (by decide +kernel)
set_option maxRecDepth 20000 in
theorem lm_L_25 : Cond.methodLink RL 25 yX8_votes ∈ zU := zU_in 652 (by decide +kernel) (by decide +kernel)
set_option maxRecDepth 20000 in
theorem li_yX8_votes : Cond.instanceMethod yX8_votes ∈ zU := zU_in 653 (by decide +kernel) (by decide +kernel)
set_option maxRecDepth 20000 in
theorem le_yX8_votes : Cond.selects RX8 yX8_votes yX8_votes ∈ zU := zU_in 654 (by decide +kernel) (by decide +kernel)
set_option maxRecDepth 20000 in
theorem lc_yX8_votes : Cond.code yX8_votes prog_10_method_4_code 3 (some .boolean) ∈ zU := zU_in 655 (by decide +kernel) (by decide +kernel)
set_option maxRecDepth 20000 in
theorem lm_X8_136 : Cond.methodLink RX8 136 yX8_isCopy ∈ zU := zU_in 656 (by decide +kernel) (by decide +kernel)
set_option maxRecDepth 20000 in
theorem li_yX8_isCopy : Cond.instanceMethod yX8_isCopy ∈ zU := zU_in 658 (by decide +kernel) (by decide +kernel)
set_option maxRecDepth 20000 in
theorem lc_yX8_isCopy : Cond.code yX8_isCopy prog_10_method_2_code 2 (some .boolean) ∈ zU := zU_in 659 (by decide +kernel) (by decide +kernel)
set_option maxRecDepth 20000 in
theorem lm_L_30 : Cond.methodLink RL 30 yX8_change ∈ zU := zU_in 660 (by decide +kernel) (by decide +kernel)
set_option maxRecDepth 20000 in
theorem li_yX8_change : Cond.instanceMethod yX8_change ∈ zU := zU_in 661 (by decide +kernel) (by decide +kernel)
set_option maxRecDepth 20000 in
theorem le_yX8_change : Cond.selects RX8 yX8_change yX8_change ∈ zU := zU_in 662 (by decide +kernel) (by decide +kernel)
set_option maxRecDepth 20000 in
theorem lc_yX8_change : Cond.code yX8_change prog_10_method_10_code 6 (some .int) ∈ zU := zU_in 663 (by decide +kernel) (by decide +kernel)
set_option maxRecDepth 20000 in
theorem lm_X8_163 : Cond.methodLink RX8 163 yX8_beginAct ∈ zU := zU_in 664 (by decide +kernel) (by decide +kernel)
set_option maxRecDepth 20000 in
theorem li_yX8_beginAct : Cond.instanceMethod yX8_beginAct ∈ zU := zU_in 666 (by decide +kernel) (by decide +kernel)
set_option maxRecDepth 20000 in
theorem lc_yX8_beginAct : Cond.code yX8_beginAct prog_10_method_9_code 6 (some .int) ∈ zU := zU_in 667 (by decide +kernel) (by decide +kernel)
set_option maxRecDepth 20000 in
theorem lm_X8_160 : Cond.methodLink RX8 160 yX8_beginPhase ∈ zU := zU_in 668 (by decide +kernel) (by decide +kernel)
set_option maxRecDepth 20000 in
theorem li_yX8_beginPhase : Cond.instanceMethod yX8_beginPhase ∈ zU := zU_in 670 (by decide +kernel) (by decide +kernel)
set_option maxRecDepth 20000 in
theorem lc_yX8_beginPhase : Cond.code yX8_beginPhase prog_10_method_8_code 4 none ∈ zU := zU_in 671 (by decide +kernel) (by decide +kernel)
set_option maxRecDepth 20000 in
theorem lm_X8_150 : Cond.methodLink RX8 150 yX8_ask ∈ zU := zU_in 672 (by decide +kernel) (by decide +kernel)
set_option maxRecDepth 20000 in
theorem li_yX8_ask : Cond.instanceMethod yX8_ask ∈ zU := zU_in 674 (by decide +kernel) (by decide +kernel)
set_option maxRecDepth 20000 in
theorem lc_yX8_ask : Cond.code yX8_ask prog_10_method_7_code 10 none ∈ zU := zU_in 675 (by decide +kernel) (by decide +kernel)
set_option maxRecDepth 20000 in
theorem lm_X8_146 : Cond.methodLink RX8 146 yX8_put ∈ zU := zU_in 676 (by decide +kernel) (by decide +kernel)
set_option maxRecDepth 20000 in
theorem li_yX8_put : Cond.instanceMethod yX8_put ∈ zU := zU_in 678 (by decide +kernel) (by decide +kernel)
set_option maxRecDepth 20000 in
theorem lc_yX8_put : Cond.code yX8_put prog_10_method_5_code 14 none ∈ zU := zU_in 679 (by decide +kernel) (by decide +kernel)
set_option maxRecDepth 20000 in
theorem lm_L_35 : Cond.methodLink RL 35 yX8_resume ∈ zU := zU_in 680 (by decide +kernel) (by decide +kernel)
set_option maxRecDepth 20000 in
theorem li_yX8_resume : Cond.instanceMethod yX8_resume ∈ zU := zU_in 681 (by decide +kernel) (by decide +kernel)
set_option maxRecDepth 20000 in
theorem le_yX8_resume : Cond.selects RX8 yX8_resume yX8_resume ∈ zU := zU_in 682 (by decide +kernel) (by decide +kernel)
set_option maxRecDepth 20000 in
theorem lc_yX8_resume : Cond.code yX8_resume prog_10_method_11_code 1 (some .int) ∈ zU := zU_in 683 (by decide +kernel) (by decide +kernel)
set_option maxRecDepth 20000 in
theorem lm_L_40 : Cond.methodLink RL 40 yX8_read ∈ zU := zU_in 684 (by decide +kernel) (by decide +kernel)
set_option maxRecDepth 20000 in
theorem li_yX8_read : Cond.instanceMethod yX8_read ∈ zU := zU_in 685 (by decide +kernel) (by decide +kernel)
set_option maxRecDepth 20000 in
theorem le_yX8_read : Cond.selects RX8 yX8_read yX8_read ∈ zU := zU_in 686 (by decide +kernel) (by decide +kernel)
set_option maxRecDepth 20000 in
theorem lc_yX8_read : Cond.code yX8_read prog_10_method_12_code 2 (some .int) ∈ zU := zU_in 687 (by decide +kernel) (by decide +kernel)
set_option maxRecDepth 20000 in
theorem lm_X8_167 : Cond.methodLink RX8 167 yX8_isClient ∈ zU := zU_in 688 (by decide +kernel) (by decide +kernel)
set_option maxRecDepth 20000 in
theorem ls_yX8_isClient : Cond.static yX8_isClient ∈ zU := zU_in 689 (by decide +kernel) (by decide +kernel)
set_option maxRecDepth 20000 in
theorem lc_yX8_isClient : Cond.code yX8_isClient prog_10_method_3_code 1 (some .boolean) ∈ zU := zU_in 690 (by decide +kernel) (by decide +kernel)
set_option maxRecDepth 20000 in
theorem lm_L_47 : Cond.methodLink RL 47 yX8_write ∈ zU := zU_in 691 (by decide +kernel) (by decide +kernel)
set_option maxRecDepth 20000 in
theorem li_yX8_write : Cond.instanceMethod yX8_write ∈ zU := zU_in 692 (by decide +kernel) (by decide +kernel)
set_option maxRecDepth 20000 in
theorem le_yX8_write : Cond.selects RX8 yX8_write yX8_write ∈ zU := zU_in 693 (by decide +kernel) (by decide +kernel)
set_option maxRecDepth 20000 in
theorem lc_yX8_write : Cond.code yX8_write prog_10_method_13_code 4 (some .int) ∈ zU := zU_in 694 (by decide +kernel) (by decide +kernel)
set_option maxRecDepth 20000 in
theorem lm_L_51 : Cond.methodLink RL 51 yX8_again ∈ zU := zU_in 695 (by decide +kernel) (by decide +kernel)
set_option maxRecDepth 20000 in
theorem li_yX8_again : Cond.instanceMethod yX8_again ∈ zU := zU_in 696 (by decide +kernel) (by decide +kernel)
set_option maxRecDepth 20000 in
theorem le_yX8_again : Cond.selects RX8 yX8_again yX8_again ∈ zU := zU_in 697 (by decide +kernel) (by decide +kernel)
set_option maxRecDepth 20000 in
theorem lc_yX8_again : Cond.code yX8_again prog_10_method_14_code 4 (some .int) ∈ zU := zU_in 698 (by decide +kernel) (by decide +kernel)
set_option maxRecDepth 20000 in
theorem lm_L_56 : Cond.methodLink RL 56 yX8_deliver ∈ zU := zU_in 699 (by decide +kernel) (by decide +kernel)
set_option maxRecDepth 20000 in
theorem li_yX8_deliver : Cond.instanceMethod yX8_deliver ∈ zU := zU_in 700 (by decide +kernel) (by decide +kernel)
set_option maxRecDepth 20000 in
theorem le_yX8_deliver : Cond.selects RX8 yX8_deliver yX8_deliver ∈ zU := zU_in 701 (by decide +kernel) (by decide +kernel)
set_option maxRecDepth 20000 in
theorem lc_yX8_deliver : Cond.code yX8_deliver prog_10_method_25_code 2 (some .boolean) ∈ zU := zU_in 702 (by decide +kernel) (by decide +kernel)
set_option maxRecDepth 20000 in
theorem lm_X8_197 : Cond.methodLink RX8 197 yX8_canBe ∈ zU := zU_in 703 (by decide +kernel) (by decide +kernel)
set_option maxRecDepth 20000 in
theorem li_yX8_canBe : Cond.instanceMethod yX8_canBe ∈ zU := zU_in 705 (by decide +kernel) (by decide +kernel)
set_option maxRecDepth 20000 in
theorem lc_yX8_canBe : Cond.code yX8_canBe prog_10_method_24_code 2 (some .boolean) ∈ zU := zU_in 706 (by decide +kernel) (by decide +kernel)
set_option maxRecDepth 20000 in
theorem lm_X8_200 : Cond.methodLink RX8 200 yX8_answer ∈ zU := zU_in 707 (by decide +kernel) (by decide +kernel)
set_option maxRecDepth 20000 in
theorem li_yX8_answer : Cond.instanceMethod yX8_answer ∈ zU := zU_in 709 (by decide +kernel) (by decide +kernel)
set_option maxRecDepth 20000 in
theorem lc_yX8_answer : Cond.code yX8_answer prog_10_method_22_code 12 none ∈ zU := zU_in 710 (by decide +kernel) (by decide +kernel)
set_option maxRecDepth 20000 in
theorem lm_X8_185 : Cond.methodLink RX8 185 yX8_take ∈ zU := zU_in 711 (by decide +kernel) (by decide +kernel)
set_option maxRecDepth 20000 in
theorem li_yX8_take : Cond.instanceMethod yX8_take ∈ zU := zU_in 713 (by decide +kernel) (by decide +kernel)
set_option maxRecDepth 20000 in
theorem lc_yX8_take : Cond.code yX8_take prog_10_method_6_code 3 none ∈ zU := zU_in 714 (by decide +kernel) (by decide +kernel)
set_option maxRecDepth 20000 in
theorem lm_X8_188 : Cond.methodLink RX8 188 yX8_isGreater ∈ zU := zU_in 715 (by decide +kernel) (by decide +kernel)
set_option maxRecDepth 20000 in
theorem ls_yX8_isGreater : Cond.static yX8_isGreater ∈ zU := zU_in 716 (by decide +kernel) (by decide +kernel)
set_option maxRecDepth 20000 in
theorem lc_yX8_isGreater : Cond.code yX8_isGreater prog_10_method_15_code 4 (some .boolean) ∈ zU := zU_in 717 (by decide +kernel) (by decide +kernel)
set_option maxRecDepth 20000 in
theorem lm_X8_191 : Cond.methodLink RX8 191 yX8_isOver ∈ zU := zU_in 718 (by decide +kernel) (by decide +kernel)
set_option maxRecDepth 20000 in
theorem li_yX8_isOver : Cond.instanceMethod yX8_isOver ∈ zU := zU_in 720 (by decide +kernel) (by decide +kernel)
set_option maxRecDepth 20000 in
theorem lc_yX8_isOver : Cond.code yX8_isOver prog_10_method_18_code 3 (some .boolean) ∈ zU := zU_in 721 (by decide +kernel) (by decide +kernel)
set_option maxRecDepth 20000 in
theorem lm_X8_174 : Cond.methodLink RX8 174 yX8_areQuorums ∈ zU := zU_in 722 (by decide +kernel) (by decide +kernel)
set_option maxRecDepth 20000 in
theorem li_yX8_areQuorums : Cond.instanceMethod yX8_areQuorums ∈ zU := zU_in 724 (by decide +kernel) (by decide +kernel)
set_option maxRecDepth 20000 in
theorem lc_yX8_areQuorums : Cond.code yX8_areQuorums prog_10_method_17_code 7 (some .boolean) ∈ zU := zU_in 725 (by decide +kernel) (by decide +kernel)
set_option maxRecDepth 20000 in
theorem lm_X8_170 : Cond.methodLink RX8 170 yX8_isQuorum ∈ zU := zU_in 726 (by decide +kernel) (by decide +kernel)
set_option maxRecDepth 20000 in
theorem li_yX8_isQuorum : Cond.instanceMethod yX8_isQuorum ∈ zU := zU_in 728 (by decide +kernel) (by decide +kernel)
set_option maxRecDepth 20000 in
theorem lc_yX8_isQuorum : Cond.code yX8_isQuorum prog_10_method_16_code 6 (some .boolean) ∈ zU := zU_in 729 (by decide +kernel) (by decide +kernel)
set_option maxRecDepth 20000 in
theorem lm_X8_194 : Cond.methodLink RX8 194 yX8_goOn ∈ zU := zU_in 730 (by decide +kernel) (by decide +kernel)
set_option maxRecDepth 20000 in
theorem li_yX8_goOn : Cond.instanceMethod yX8_goOn ∈ zU := zU_in 732 (by decide +kernel) (by decide +kernel)
set_option maxRecDepth 20000 in
theorem lc_yX8_goOn : Cond.code yX8_goOn prog_10_method_21_code 3 none ∈ zU := zU_in 733 (by decide +kernel) (by decide +kernel)
set_option maxRecDepth 20000 in
theorem lm_X8_182 : Cond.methodLink RX8 182 yX8_finish ∈ zU := zU_in 734 (by decide +kernel) (by decide +kernel)
set_option maxRecDepth 20000 in
theorem li_yX8_finish : Cond.instanceMethod yX8_finish ∈ zU := zU_in 736 (by decide +kernel) (by decide +kernel)
set_option maxRecDepth 20000 in
theorem lc_yX8_finish : Cond.code yX8_finish prog_10_method_19_code 3 none ∈ zU := zU_in 737 (by decide +kernel) (by decide +kernel)
set_option maxRecDepth 20000 in
theorem lm_X8_178 : Cond.methodLink RX8 178 yX8_end ∈ zU := zU_in 738 (by decide +kernel) (by decide +kernel)
set_option maxRecDepth 20000 in
theorem li_yX8_end : Cond.instanceMethod yX8_end ∈ zU := zU_in 740 (by decide +kernel) (by decide +kernel)
set_option maxRecDepth 20000 in
theorem lc_yX8_end : Cond.code yX8_end prog_10_method_20_code 2 none ∈ zU := zU_in 741 (by decide +kernel) (by decide +kernel)
set_option maxRecDepth 20000 in
theorem lm_X8_203 : Cond.methodLink RX8 203 yX8_request ∈ zU := zU_in 742 (by decide +kernel) (by decide +kernel)
set_option maxRecDepth 20000 in
theorem li_yX8_request : Cond.instanceMethod yX8_request ∈ zU := zU_in 744 (by decide +kernel) (by decide +kernel)
set_option maxRecDepth 20000 in
theorem lc_yX8_request : Cond.code yX8_request prog_10_method_23_code 8 none ∈ zU := zU_in 745 (by decide +kernel) (by decide +kernel)
set_option maxRecDepth 20000 in
theorem lm_L_60 : Cond.methodLink RL 60 yX8_settle ∈ zU := zU_in 746 (by decide +kernel) (by decide +kernel)
set_option maxRecDepth 20000 in
theorem li_yX8_settle : Cond.instanceMethod yX8_settle ∈ zU := zU_in 747 (by decide +kernel) (by decide +kernel)
set_option maxRecDepth 20000 in
theorem le_yX8_settle : Cond.selects RX8 yX8_settle yX8_settle ∈ zU := zU_in 748 (by decide +kernel) (by decide +kernel)
set_option maxRecDepth 20000 in
theorem lc_yX8_settle : Cond.code yX8_settle prog_10_method_26_code 5 (some .int) ∈ zU := zU_in 749 (by decide +kernel) (by decide +kernel)
set_option maxRecDepth 20000 in
theorem lm_X8_206 : Cond.methodLink RX8 206 yX8_deliver ∈ zU := zU_in 750 (by decide +kernel) (by decide +kernel)
set_option maxRecDepth 20000 in
theorem lm_L_64 : Cond.methodLink RL 64 yX8_lose ∈ zU := zU_in 751 (by decide +kernel) (by decide +kernel)
set_option maxRecDepth 20000 in
theorem li_yX8_lose : Cond.instanceMethod yX8_lose ∈ zU := zU_in 752 (by decide +kernel) (by decide +kernel)
set_option maxRecDepth 20000 in
theorem le_yX8_lose : Cond.selects RX8 yX8_lose yX8_lose ∈ zU := zU_in 753 (by decide +kernel) (by decide +kernel)
set_option maxRecDepth 20000 in
theorem lc_yX8_lose : Cond.code yX8_lose prog_10_method_27_code 2 (some .boolean) ∈ zU := zU_in 754 (by decide +kernel) (by decide +kernel)
set_option maxRecDepth 20000 in
theorem lm_L_68 : Cond.methodLink RL 68 yX8_twice ∈ zU := zU_in 755 (by decide +kernel) (by decide +kernel)
set_option maxRecDepth 20000 in
theorem li_yX8_twice : Cond.instanceMethod yX8_twice ∈ zU := zU_in 756 (by decide +kernel) (by decide +kernel)
set_option maxRecDepth 20000 in
theorem le_yX8_twice : Cond.selects RX8 yX8_twice yX8_twice ∈ zU := zU_in 757 (by decide +kernel) (by decide +kernel)
set_option maxRecDepth 20000 in
theorem lc_yX8_twice : Cond.code yX8_twice prog_10_method_28_code 2 (some .boolean) ∈ zU := zU_in 758 (by decide +kernel) (by decide +kernel)
set_option maxRecDepth 20000 in
theorem lm_L_73 : Cond.methodLink RL 73 yX8_silent ∈ zU := zU_in 759 (by decide +kernel) (by decide +kernel)
set_option maxRecDepth 20000 in
theorem li_yX8_silent : Cond.instanceMethod yX8_silent ∈ zU := zU_in 760 (by decide +kernel) (by decide +kernel)
set_option maxRecDepth 20000 in
theorem le_yX8_silent : Cond.selects RX8 yX8_silent yX8_silent ∈ zU := zU_in 761 (by decide +kernel) (by decide +kernel)
set_option maxRecDepth 20000 in
theorem lc_yX8_silent : Cond.code yX8_silent prog_10_method_29_code 3 (some .boolean) ∈ zU := zU_in 762 (by decide +kernel) (by decide +kernel)
set_option maxRecDepth 20000 in
theorem lm_L_77 : Cond.methodLink RL 77 yX8_side ∈ zU := zU_in 763 (by decide +kernel) (by decide +kernel)
set_option maxRecDepth 20000 in
theorem li_yX8_side : Cond.instanceMethod yX8_side ∈ zU := zU_in 764 (by decide +kernel) (by decide +kernel)
set_option maxRecDepth 20000 in
theorem le_yX8_side : Cond.selects RX8 yX8_side yX8_side ∈ zU := zU_in 765 (by decide +kernel) (by decide +kernel)
set_option maxRecDepth 20000 in
theorem lc_yX8_side : Cond.code yX8_side prog_10_method_30_code 3 (some .boolean) ∈ zU := zU_in 766 (by decide +kernel) (by decide +kernel)
set_option maxRecDepth 20000 in
theorem lm_L_81 : Cond.methodLink RL 81 yX8_halt ∈ zU := zU_in 767 (by decide +kernel) (by decide +kernel)
set_option maxRecDepth 20000 in
theorem li_yX8_halt : Cond.instanceMethod yX8_halt ∈ zU := zU_in 768 (by decide +kernel) (by decide +kernel)
set_option maxRecDepth 20000 in
theorem le_yX8_halt : Cond.selects RX8 yX8_halt yX8_halt ∈ zU := zU_in 769 (by decide +kernel) (by decide +kernel)
set_option maxRecDepth 20000 in
theorem lc_yX8_halt : Cond.code yX8_halt prog_10_method_31_code 3 (some .int) ∈ zU := zU_in 770 (by decide +kernel) (by decide +kernel)
set_option maxRecDepth 20000 in
theorem lm_L_85 : Cond.methodLink RL 85 yX8_copy ∈ zU := zU_in 771 (by decide +kernel) (by decide +kernel)
set_option maxRecDepth 20000 in
theorem li_yX8_copy : Cond.instanceMethod yX8_copy ∈ zU := zU_in 772 (by decide +kernel) (by decide +kernel)
set_option maxRecDepth 20000 in
theorem le_yX8_copy : Cond.selects RX8 yX8_copy yX8_copy ∈ zU := zU_in 773 (by decide +kernel) (by decide +kernel)
set_option maxRecDepth 20000 in
theorem lc_yX8_copy : Cond.code yX8_copy prog_10_method_32_code 3 (some .int) ∈ zU := zU_in 774 (by decide +kernel) (by decide +kernel)
set_option maxRecDepth 20000 in
theorem lm_L_90 : Cond.methodLink RL 90 yX8_kept ∈ zU := zU_in 775 (by decide +kernel) (by decide +kernel)
set_option maxRecDepth 20000 in
theorem li_yX8_kept : Cond.instanceMethod yX8_kept ∈ zU := zU_in 776 (by decide +kernel) (by decide +kernel)
set_option maxRecDepth 20000 in
theorem le_yX8_kept : Cond.selects RX8 yX8_kept yX8_kept ∈ zU := zU_in 777 (by decide +kernel) (by decide +kernel)
set_option maxRecDepth 20000 in
theorem lc_yX8_kept : Cond.code yX8_kept prog_10_method_33_code 2 (some .long) ∈ zU := zU_in 778 (by decide +kernel) (by decide +kernel)
set_option maxRecDepth 20000 in
theorem lm_L_94 : Cond.methodLink RL 94 yX8_client ∈ zU := zU_in 779 (by decide +kernel) (by decide +kernel)
set_option maxRecDepth 20000 in
theorem li_yX8_client : Cond.instanceMethod yX8_client ∈ zU := zU_in 780 (by decide +kernel) (by decide +kernel)
set_option maxRecDepth 20000 in
theorem le_yX8_client : Cond.selects RX8 yX8_client yX8_client ∈ zU := zU_in 781 (by decide +kernel) (by decide +kernel)
set_option maxRecDepth 20000 in
theorem lc_yX8_client : Cond.code yX8_client prog_10_method_34_code 3 (some .int) ∈ zU := zU_in 782 (by decide +kernel) (by decide +kernel)
set_option maxRecDepth 20000 in
theorem lm_L_98 : Cond.methodLink RL 98 yX8_air ∈ zU := zU_in 783 (by decide +kernel) (by decide +kernel)
set_option maxRecDepth 20000 in
theorem li_yX8_air : Cond.instanceMethod yX8_air ∈ zU := zU_in 784 (by decide +kernel) (by decide +kernel)
set_option maxRecDepth 20000 in
theorem le_yX8_air : Cond.selects RX8 yX8_air yX8_air ∈ zU := zU_in 785 (by decide +kernel) (by decide +kernel)
set_option maxRecDepth 20000 in
theorem lc_yX8_air : Cond.code yX8_air prog_10_method_35_code 3 (some .int) ∈ zU := zU_in 786 (by decide +kernel) (by decide +kernel)
set_option maxRecDepth 20000 in
theorem lm_L_102 : Cond.methodLink RL 102 yX8_act ∈ zU := zU_in 787 (by decide +kernel) (by decide +kernel)
set_option maxRecDepth 20000 in
theorem li_yX8_act : Cond.instanceMethod yX8_act ∈ zU := zU_in 788 (by decide +kernel) (by decide +kernel)
set_option maxRecDepth 20000 in
theorem le_yX8_act : Cond.selects RX8 yX8_act yX8_act ∈ zU := zU_in 789 (by decide +kernel) (by decide +kernel)
set_option maxRecDepth 20000 in
theorem lc_yX8_act : Cond.code yX8_act prog_10_method_37_code 3 (some .int) ∈ zU := zU_in 790 (by decide +kernel) (by decide +kernel)
set_option maxRecDepth 20000 in
theorem lm_X8_209 : Cond.methodLink RX8 209 yX8_isAct ∈ zU := zU_in 791 (by decide +kernel) (by decide +kernel)
set_option maxRecDepth 20000 in
theorem li_yX8_isAct : Cond.instanceMethod yX8_isAct ∈ zU := zU_in 793 (by decide +kernel) (by decide +kernel)
set_option maxRecDepth 20000 in
theorem lc_yX8_isAct : Cond.code yX8_isAct prog_10_method_36_code 2 (some .boolean) ∈ zU := zU_in 794 (by decide +kernel) (by decide +kernel)
set_option maxRecDepth 20000 in
theorem lm_L_106 : Cond.methodLink RL 106 yX8_value ∈ zU := zU_in 795 (by decide +kernel) (by decide +kernel)
set_option maxRecDepth 20000 in
theorem li_yX8_value : Cond.instanceMethod yX8_value ∈ zU := zU_in 796 (by decide +kernel) (by decide +kernel)
set_option maxRecDepth 20000 in
theorem le_yX8_value : Cond.selects RX8 yX8_value yX8_value ∈ zU := zU_in 797 (by decide +kernel) (by decide +kernel)
set_option maxRecDepth 20000 in
theorem lc_yX8_value : Cond.code yX8_value prog_10_method_38_code 2 (some .long) ∈ zU := zU_in 798 (by decide +kernel) (by decide +kernel)
set_option maxRecDepth 20000 in
theorem lm_L_110 : Cond.methodLink RL 110 yX8_table ∈ zU := zU_in 799 (by decide +kernel) (by decide +kernel)
set_option maxRecDepth 20000 in
theorem li_yX8_table : Cond.instanceMethod yX8_table ∈ zU := zU_in 800 (by decide +kernel) (by decide +kernel)
set_option maxRecDepth 20000 in
theorem le_yX8_table : Cond.selects RX8 yX8_table yX8_table ∈ zU := zU_in 801 (by decide +kernel) (by decide +kernel)
set_option maxRecDepth 20000 in
theorem lc_yX8_table : Cond.code yX8_table prog_10_method_39_code 3 (some .int) ∈ zU := zU_in 802 (by decide +kernel) (by decide +kernel)
set_option maxRecDepth 20000 in
theorem lm_L_114 : Cond.methodLink RL 114 yX8_about ∈ zU := zU_in 803 (by decide +kernel) (by decide +kernel)
set_option maxRecDepth 20000 in
theorem li_yX8_about : Cond.instanceMethod yX8_about ∈ zU := zU_in 804 (by decide +kernel) (by decide +kernel)
set_option maxRecDepth 20000 in
theorem le_yX8_about : Cond.selects RX8 yX8_about yX8_about ∈ zU := zU_in 805 (by decide +kernel) (by decide +kernel)
set_option maxRecDepth 20000 in
theorem lc_yX8_about : Cond.code yX8_about prog_10_method_40_code 2 (some .int) ∈ zU := zU_in 806 (by decide +kernel) (by decide +kernel)
set_option maxRecDepth 20000 in
theorem lq_long : Cond.constantLong RL 41 4294967295 ∈ zU := zU_in 807 (by decide +kernel) (by decide +kernel)
set_option maxRecDepth 20000 in
theorem le_yX7_clientAt : Cond.selects RX7 yX7_clientAt yX7_clientAt ∈ zU := zU_sel 0 (by decide +kernel) (by decide +kernel)
set_option maxRecDepth 20000 in
theorem le_yX7_canBegin : Cond.selects RX7 yX7_canBegin yX7_canBegin ∈ zU := zU_sel 1 (by decide +kernel) (by decide +kernel)
set_option maxRecDepth 20000 in
theorem le_yX7_beginChange : Cond.selects RX7 yX7_beginChange yX7_beginChange ∈ zU := zU_sel 2 (by decide +kernel) (by decide +kernel)
set_option maxRecDepth 20000 in
theorem le_yX7_beginAct : Cond.selects RX7 yX7_beginAct yX7_beginAct ∈ zU := zU_sel 3 (by decide +kernel) (by decide +kernel)
set_option maxRecDepth 20000 in
theorem le_yX7_beginPhase : Cond.selects RX7 yX7_beginPhase yX7_beginPhase ∈ zU := zU_sel 4 (by decide +kernel) (by decide +kernel)
set_option maxRecDepth 20000 in
theorem le_yX7_sendRequests : Cond.selects RX7 yX7_sendRequests yX7_sendRequests ∈ zU := zU_sel 5 (by decide +kernel) (by decide +kernel)
set_option maxRecDepth 20000 in
theorem le_yX7_sendRequest : Cond.selects RX7 yX7_sendRequest yX7_sendRequest ∈ zU := zU_sel 6 (by decide +kernel) (by decide +kernel)
set_option maxRecDepth 20000 in
theorem le_yX7_canPass : Cond.selects RX7 yX7_canPass yX7_canPass ∈ zU := zU_sel 7 (by decide +kernel) (by decide +kernel)
set_option maxRecDepth 20000 in
theorem le_yX7_copyAt : Cond.selects RX7 yX7_copyAt yX7_copyAt ∈ zU := zU_sel 8 (by decide +kernel) (by decide +kernel)
set_option maxRecDepth 20000 in
theorem le_yX7_hear : Cond.selects RX7 yX7_hear yX7_hear ∈ zU := zU_sel 9 (by decide +kernel) (by decide +kernel)
set_option maxRecDepth 20000 in
theorem le_yX7_hasQuorum : Cond.selects RX7 yX7_hasQuorum yX7_hasQuorum ∈ zU := zU_sel 10 (by decide +kernel) (by decide +kernel)
set_option maxRecDepth 20000 in
theorem le_yX7_tableAt : Cond.selects RX7 yX7_tableAt yX7_tableAt ∈ zU := zU_sel 11 (by decide +kernel) (by decide +kernel)
set_option maxRecDepth 20000 in
theorem le_yX7_endPhase : Cond.selects RX7 yX7_endPhase yX7_endPhase ∈ zU := zU_sel 12 (by decide +kernel) (by decide +kernel)
set_option maxRecDepth 20000 in
theorem le_yX7_serve : Cond.selects RX7 yX7_serve yX7_serve ∈ zU := zU_sel 13 (by decide +kernel) (by decide +kernel)
set_option maxRecDepth 20000 in
theorem le_yX7_actAt : Cond.selects RX7 yX7_actAt yX7_actAt ∈ zU := zU_sel 14 (by decide +kernel) (by decide +kernel)
set_option maxRecDepth 20000 in
theorem le_yX8_isCopy : Cond.selects RX8 yX8_isCopy yX8_isCopy ∈ zU := zU_sel 15 (by decide +kernel) (by decide +kernel)
set_option maxRecDepth 20000 in
theorem le_yX8_beginAct : Cond.selects RX8 yX8_beginAct yX8_beginAct ∈ zU := zU_sel 16 (by decide +kernel) (by decide +kernel)
set_option maxRecDepth 20000 in
theorem le_yX8_beginPhase : Cond.selects RX8 yX8_beginPhase yX8_beginPhase ∈ zU := zU_sel 17 (by decide +kernel) (by decide +kernel)
set_option maxRecDepth 20000 in
theorem le_yX8_ask : Cond.selects RX8 yX8_ask yX8_ask ∈ zU := zU_sel 18 (by decide +kernel) (by decide +kernel)
set_option maxRecDepth 20000 in
theorem le_yX8_put : Cond.selects RX8 yX8_put yX8_put ∈ zU := zU_sel 19 (by decide +kernel) (by decide +kernel)
set_option maxRecDepth 20000 in
theorem le_yX8_canBe : Cond.selects RX8 yX8_canBe yX8_canBe ∈ zU := zU_sel 20 (by decide +kernel) (by decide +kernel)
set_option maxRecDepth 20000 in
theorem le_yX8_answer : Cond.selects RX8 yX8_answer yX8_answer ∈ zU := zU_sel 21 (by decide +kernel) (by decide +kernel)
set_option maxRecDepth 20000 in
theorem le_yX8_take : Cond.selects RX8 yX8_take yX8_take ∈ zU := zU_sel 22 (by decide +kernel) (by decide +kernel)
set_option maxRecDepth 20000 in
theorem le_yX8_isOver : Cond.selects RX8 yX8_isOver yX8_isOver ∈ zU := zU_sel 23 (by decide +kernel) (by decide +kernel)
set_option maxRecDepth 20000 in
theorem le_yX8_areQuorums : Cond.selects RX8 yX8_areQuorums yX8_areQuorums ∈ zU := zU_sel 24 (by decide +kernel) (by decide +kernel)
set_option maxRecDepth 20000 in
theorem le_yX8_isQuorum : Cond.selects RX8 yX8_isQuorum yX8_isQuorum ∈ zU := zU_sel 25 (by decide +kernel) (by decide +kernel)
set_option maxRecDepth 20000 in
theorem le_yX8_goOn : Cond.selects RX8 yX8_goOn yX8_goOn ∈ zU := zU_sel 26 (by decide +kernel) (by decide +kernel)
set_option maxRecDepth 20000 in
theorem le_yX8_finish : Cond.selects RX8 yX8_finish yX8_finish ∈ zU := zU_sel 27 (by decide +kernel) (by decide +kernel)
set_option maxRecDepth 20000 in
theorem le_yX8_end : Cond.selects RX8 yX8_end yX8_end ∈ zU := zU_sel 28 (by decide +kernel) (by decide +kernel)
set_option maxRecDepth 20000 in
theorem le_yX8_request : Cond.selects RX8 yX8_request yX8_request ∈ zU := zU_sel 29 (by decide +kernel) (by decide +kernel)
set_option maxRecDepth 20000 in
theorem le_yX8_isAct : Cond.selects RX8 yX8_isAct yX8_isAct ∈ zU := zU_sel 30 (by decide +kernel) (by decide +kernel)
