set_option maxRecDepth 20000 in
theorem miX0_clear : oMv yX0_clear cX0_clear 1 none 0 RX0 := ⟨otb 752 rfl rfl, otb 750 (by decide +kernel) rfl, otb 751 (by decide +kernel) rfl, inX0, by decide, by decide +kernel, by decide +kernel, by decide +kernel⟩
set_option maxRecDepth 20000 in
theorem miX0_emit : oMv yX0_emit cX0_emit 2 none 1 RX0 := ⟨otb 796 rfl rfl, otb 794 (by decide +kernel) rfl, otb 795 (by decide +kernel) rfl, inX0, by decide, by decide +kernel, by decide +kernel, by decide +kernel⟩
set_option maxRecDepth 20000 in
theorem miX0_close : oMv yX0_close cX0_close 4 none 2 RX0 := ⟨otb 816 rfl rfl, otb 814 (by decide +kernel) rfl, otb 815 (by decide +kernel) rfl, inX0, by decide, by decide +kernel, by decide +kernel, by decide +kernel⟩
set_option maxRecDepth 20000 in
theorem miX0_spell : oMv yX0_spell cX0_spell 3 none 2 RX0 := ⟨otb 768 rfl rfl, otb 766 (by decide +kernel) rfl, otb 767 (by decide +kernel) rfl, inX0, by decide, by decide +kernel, by decide +kernel, by decide +kernel⟩
set_option maxRecDepth 20000 in
theorem miX0_isNameTaken : oMv yX0_isNameTaken cX0_isNameTaken 4 (some .boolean) 0 RX0 := ⟨otb 772 rfl rfl, otb 770 (by decide +kernel) rfl, otb 771 (by decide +kernel) rfl, inX0, by decide, by decide +kernel, by decide +kernel, by decide +kernel⟩
set_option maxRecDepth 20000 in
theorem miX0_letterOf : oMv yX0_letterOf cX0_letterOf 3 (some .int) 2 RX0 := ⟨otb 845 rfl rfl, otb 843 (by decide +kernel) rfl, otb 844 (by decide +kernel) rfl, inX0, by decide, by decide +kernel, by decide +kernel, by decide +kernel⟩
set_option maxRecDepth 20000 in
theorem miX0_holds : oMv yX0_holds cX0_holds 6 (some .boolean) 2 RX0 := ⟨otb 986 rfl rfl, otb 984 (by decide +kernel) rfl, otb 985 (by decide +kernel) rfl, inX0, by decide, by decide +kernel, by decide +kernel, by decide +kernel⟩
set_option maxRecDepth 20000 in
theorem miX0_factAt : oMs yX0_factAt cX0_factAt 2 (some .int) 2 := ⟨otb 989 rfl rfl, otb 988 (by decide +kernel) rfl, inX0, by decide, by decide +kernel, by decide +kernel, by decide +kernel⟩
set_option maxRecDepth 20000 in
theorem miX0_join : oMs yX0_join cX0_join 3 (some .int) 3 := ⟨otb 992 rfl rfl, otb 991 (by decide +kernel) rfl, inX0, by decide, by decide +kernel, by decide +kernel, by decide +kernel⟩
set_option maxRecDepth 20000 in
theorem miX0_limited : oMs yX0_limited cX0_limited 2 (some .int) 1 := ⟨otb 995 rfl rfl, otb 994 (by decide +kernel) rfl, inX0, by decide, by decide +kernel, by decide +kernel, by decide +kernel⟩
set_option maxRecDepth 20000 in
theorem miX1_hear : oMv yX1_hear cX1_hear 16 none 4 RX1 := ⟨otb 930 rfl rfl, otb 928 (by decide +kernel) rfl, otb 929 (by decide +kernel) rfl, inX1, by decide, by decide +kernel, by decide +kernel, by decide +kernel⟩
set_option maxRecDepth 20000 in
theorem miX1_hearRound : oMv yX1_hearRound cX1_hearRound 12 none 3 RX1 := ⟨otb 1257 rfl rfl, otb 1255 (by decide +kernel) rfl, otb 1256 (by decide +kernel) rfl, inX1, by decide, by decide +kernel, by decide +kernel, by decide +kernel⟩
set_option maxRecDepth 20000 in
theorem miX1_begin : oMv yX1_begin cX1_begin 4 none 2 RX1 := ⟨otb 934 rfl rfl, otb 933 (by decide +kernel) rfl, otb 27 (by decide +kernel) rfl, inX1, by decide, by decide +kernel, by decide +kernel, by decide +kernel⟩
set_option maxRecDepth 20000 in
theorem miX1_beatOf : oMs yX1_beatOf cX1_beatOf 2 (some .int) 2 := ⟨otb 957 rfl rfl, otb 956 (by decide +kernel) rfl, inX1, by decide, by decide +kernel, by decide +kernel, by decide +kernel⟩
set_option maxRecDepth 20000 in
theorem miX1_apartAt : oMv yX1_apartAt cX1_apartAt 6 (some .int) 3 RX1 := ⟨otb 945 rfl rfl, otb 944 (by decide +kernel) rfl, otb 28 (by decide +kernel) rfl, inX1, by decide, by decide +kernel, by decide +kernel, by decide +kernel⟩
set_option maxRecDepth 20000 in
theorem miX1_rise : oMs yX1_rise cX1_rise 5 (some .int) 4 := ⟨otb 960 rfl rfl, otb 959 (by decide +kernel) rfl, inX1, by decide, by decide +kernel, by decide +kernel, by decide +kernel⟩
set_option maxRecDepth 20000 in
theorem miX1_mark : oMv yX1_mark cX1_mark 4 none 3 RX1 := ⟨otb 954 rfl rfl, otb 953 (by decide +kernel) rfl, otb 29 (by decide +kernel) rfl, inX1, by decide, by decide +kernel, by decide +kernel, by decide +kernel⟩
set_option maxRecDepth 20000 in
theorem miX1_moved : oMv yX1_moved cX1_moved 5 none 4 RX1 := ⟨otb 964 rfl rfl, otb 963 (by decide +kernel) rfl, otb 30 (by decide +kernel) rfl, inX1, by decide, by decide +kernel, by decide +kernel, by decide +kernel⟩
set_option maxRecDepth 20000 in
theorem miX1_tickOf : oMv yX1_tickOf cX1_tickOf 2 (some .int) 1 RX1 := ⟨otb 1008 rfl rfl, otb 1006 (by decide +kernel) rfl, otb 1007 (by decide +kernel) rfl, inX1, by decide, by decide +kernel, by decide +kernel, by decide +kernel⟩
set_option maxRecDepth 20000 in
theorem miX2_follow : oMv yX2_follow cX2_follow 2 none 1 RX2 := ⟨otb 301 rfl rfl, otb 299 (by decide +kernel) rfl, otb 300 (by decide +kernel) rfl, inX2, by decide, by decide +kernel, by decide +kernel, by decide +kernel⟩
set_option maxRecDepth 20000 in
theorem miX2_packMoves : oMs yX2_packMoves cX2_packMoves 4 (some .int) 4 := ⟨otb 967 rfl rfl, otb 966 (by decide +kernel) rfl, inX2, by decide, by decide +kernel, by decide +kernel, by decide +kernel⟩
set_option maxRecDepth 20000 in
theorem miX2_verdict : oMv yX2_verdict cX2_verdict 11 (some .int) 3 RX2 := ⟨otb 975 rfl rfl, otb 973 (by decide +kernel) rfl, otb 974 (by decide +kernel) rfl, inX2, by decide, by decide +kernel, by decide +kernel, by decide +kernel⟩
set_option maxRecDepth 20000 in
theorem miX2_setFacts : oMv yX2_setFacts cX2_setFacts 4 none 3 RX2 := ⟨otb 982 rfl rfl, otb 981 (by decide +kernel) rfl, otb 31 (by decide +kernel) rfl, inX2, by decide, by decide +kernel, by decide +kernel, by decide +kernel⟩
set_option maxRecDepth 20000 in
theorem miX2_nextBroken : oMv yX2_nextBroken cX2_nextBroken 4 (some .int) 2 RX2 := ⟨otb 971 rfl rfl, otb 969 (by decide +kernel) rfl, otb 970 (by decide +kernel) rfl, inX2, by decide, by decide +kernel, by decide +kernel, by decide +kernel⟩
set_option maxRecDepth 20000 in
theorem miX2_countBroken : oMv yX2_countBroken cX2_countBroken 4 (some .int) 1 RX2 := ⟨otb 1029 rfl rfl, otb 1027 (by decide +kernel) rfl, otb 1028 (by decide +kernel) rfl, inX2, by decide, by decide +kernel, by decide +kernel, by decide +kernel⟩
set_option maxRecDepth 20000 in
theorem miX2_ruleAt : oMv yX2_ruleAt cX2_ruleAt 3 (some .int) 2 RX2 := ⟨otb 1012 rfl rfl, otb 1010 (by decide +kernel) rfl, otb 1011 (by decide +kernel) rfl, inX2, by decide, by decide +kernel, by decide +kernel, by decide +kernel⟩
set_option maxRecDepth 20000 in
theorem miX3_build : oMv yX3_build cX3_build 5 none 2 RX3 := ⟨otb 1194 rfl rfl, otb 1192 (by decide +kernel) rfl, otb 1193 (by decide +kernel) rfl, inX3, by decide, by decide +kernel, by decide +kernel, by decide +kernel⟩
set_option maxRecDepth 20000 in
theorem miX3_search : oMv yX3_search cX3_search 7 (some .int) 4 RX3 := ⟨otb 1217 rfl rfl, otb 1216 (by decide +kernel) rfl, otb 44 (by decide +kernel) rfl, inX3, by decide, by decide +kernel, by decide +kernel, by decide +kernel⟩
set_option maxRecDepth 20000 in
theorem miX3_firstOf : oMv yX3_firstOf cX3_firstOf 2 (some .int) 1 RX3 := ⟨otb 1225 rfl rfl, otb 1223 (by decide +kernel) rfl, otb 1224 (by decide +kernel) rfl, inX3, by decide, by decide +kernel, by decide +kernel, by decide +kernel⟩
set_option maxRecDepth 20000 in
theorem miX4_clear : oMv yX4_clear cX4_clear 1 none 0 RX4 := ⟨otb 625 rfl rfl, otb 623 (by decide +kernel) rfl, otb 624 (by decide +kernel) rfl, inX4, by decide, by decide +kernel, by decide +kernel, by decide +kernel⟩
set_option maxRecDepth 20000 in
theorem miX4_add : oMv yX4_add cX4_add 4 (some .boolean) 2 RX4 := ⟨otb 723 rfl rfl, otb 721 (by decide +kernel) rfl, otb 722 (by decide +kernel) rfl, inX4, by decide, by decide +kernel, by decide +kernel, by decide +kernel⟩
set_option maxRecDepth 20000 in
theorem miX4_copyFrom : oMv yX4_copyFrom cX4_copyFrom 3 none 1 RX4 := ⟨otb 1301 rfl rfl, otb 1299 (by decide +kernel) rfl, otb 1300 (by decide +kernel) rfl, inX4, by decide, by decide +kernel, by decide +kernel, by decide +kernel⟩
set_option maxRecDepth 20000 in
theorem miX4_holds : oMv yX4_holds cX4_holds 2 (some .boolean) 1 RX4 := ⟨otb 837 rfl rfl, otb 836 (by decide +kernel) rfl, otb 25 (by decide +kernel) rfl, inX4, by decide, by decide +kernel, by decide +kernel, by decide +kernel⟩
set_option maxRecDepth 20000 in
theorem miX4_stepOf : oMv yX4_stepOf cX4_stepOf 2 (some .int) 1 RX4 := ⟨otb 833 rfl rfl, otb 831 (by decide +kernel) rfl, otb 832 (by decide +kernel) rfl, inX4, by decide, by decide +kernel, by decide +kernel, by decide +kernel⟩
set_option maxRecDepth 20000 in
theorem miX4_lengthOf : oMv yX4_lengthOf cX4_lengthOf 2 (some .int) 1 RX4 := ⟨otb 854 rfl rfl, otb 852 (by decide +kernel) rfl, otb 853 (by decide +kernel) rfl, inX4, by decide, by decide +kernel, by decide +kernel, by decide +kernel⟩
set_option maxRecDepth 20000 in
theorem miX4_startOf : oMv yX4_startOf cX4_startOf 2 (some .int) 1 RX4 := ⟨otb 858 rfl rfl, otb 856 (by decide +kernel) rfl, otb 857 (by decide +kernel) rfl, inX4, by decide, by decide +kernel, by decide +kernel, by decide +kernel⟩
set_option maxRecDepth 20000 in
theorem miX4_ownerOf : oMv yX4_ownerOf cX4_ownerOf 2 (some .int) 1 RX4 := ⟨otb 912 rfl rfl, otb 910 (by decide +kernel) rfl, otb 911 (by decide +kernel) rfl, inX4, by decide, by decide +kernel, by decide +kernel, by decide +kernel⟩
set_option maxRecDepth 20000 in
theorem miX4_rests : oMv yX4_rests cX4_rests 3 (some .int) 0 RX4 := ⟨otb 829 rfl rfl, otb 827 (by decide +kernel) rfl, otb 828 (by decide +kernel) rfl, inX4, by decide, by decide +kernel, by decide +kernel, by decide +kernel⟩
set_option maxRecDepth 20000 in
theorem miX4_setStep : oMv yX4_setStep cX4_setStep 4 none 2 RX4 := ⟨otb 1281 rfl rfl, otb 1279 (by decide +kernel) rfl, otb 1280 (by decide +kernel) rfl, inX4, by decide, by decide +kernel, by decide +kernel, by decide +kernel⟩
set_option maxRecDepth 20000 in
theorem miX4_beginMade : oMv yX4_beginMade cX4_beginMade 4 (some .boolean) 2 RX4 := ⟨otb 1271 rfl rfl, otb 1269 (by decide +kernel) rfl, otb 1270 (by decide +kernel) rfl, inX4, by decide, by decide +kernel, by decide +kernel, by decide +kernel⟩
set_option maxRecDepth 20000 in
theorem miX4_advanceMade : oMv yX4_advanceMade cX4_advanceMade 4 (some .boolean) 1 RX4 := ⟨otb 1289 rfl rfl, otb 1287 (by decide +kernel) rfl, otb 1288 (by decide +kernel) rfl, inX4, by decide, by decide +kernel, by decide +kernel, by decide +kernel⟩
set_option maxRecDepth 20000 in
theorem miX4_fillMade : oMv yX4_fillMade cX4_fillMade 5 (some .boolean) 2 RX4 := ⟨otb 1277 rfl rfl, otb 1276 (by decide +kernel) rfl, otb 46 (by decide +kernel) rfl, inX4, by decide, by decide +kernel, by decide +kernel, by decide +kernel⟩
set_option maxRecDepth 20000 in
theorem miX5_begin : oMv yX5_begin cX5_begin 1 none 0 RX5 := ⟨otb 621 rfl rfl, otb 620 (by decide +kernel) rfl, otb 0 (by decide +kernel) rfl, inX5, by decide, by decide +kernel, by decide +kernel, by decide +kernel⟩
set_option maxRecDepth 20000 in
theorem miX5_readLine : oMv yX5_readLine cX5_readLine 3 (some .int) 1 RX5 := ⟨otb 617 rfl rfl, otb 615 (by decide +kernel) rfl, otb 616 (by decide +kernel) rfl, inX5, by decide, by decide +kernel, by decide +kernel, by decide +kernel⟩
set_option maxRecDepth 20000 in
theorem miX5_readBook : oMv yX5_readBook cX5_readBook 3 (some .int) 1 RX5 := ⟨otb 748 rfl rfl, otb 746 (by decide +kernel) rfl, otb 747 (by decide +kernel) rfl, inX5, by decide, by decide +kernel, by decide +kernel, by decide +kernel⟩
set_option maxRecDepth 20000 in
theorem miX5_closing : oMv yX5_closing cX5_closing 2 (some .int) 1 RX5 := ⟨otb 731 rfl rfl, otb 730 (by decide +kernel) rfl, otb 10 (by decide +kernel) rfl, inX5, by decide, by decide +kernel, by decide +kernel, by decide +kernel⟩
set_option maxRecDepth 20000 in
theorem miX5_noteStatement : oMv yX5_noteStatement cX5_noteStatement 4 (some .boolean) 1 RX5 := ⟨otb 633 rfl rfl, otb 632 (by decide +kernel) rfl, otb 2 (by decide +kernel) rfl, inX5, by decide, by decide +kernel, by decide +kernel, by decide +kernel⟩
set_option maxRecDepth 20000 in
theorem miX5_bookStatement : oMv yX5_bookStatement cX5_bookStatement 3 (some .boolean) 0 RX5 := ⟨otb 756 rfl rfl, otb 755 (by decide +kernel) rfl, otb 13 (by decide +kernel) rfl, inX5, by decide, by decide +kernel, by decide +kernel, by decide +kernel⟩
set_option maxRecDepth 20000 in
theorem miX5_measure : oMv yX5_measure cX5_measure 2 (some .boolean) 0 RX5 := ⟨otb 760 rfl rfl, otb 759 (by decide +kernel) rfl, otb 14 (by decide +kernel) rfl, inX5, by decide, by decide +kernel, by decide +kernel, by decide +kernel⟩
set_option maxRecDepth 20000 in
theorem miX5_name : oMv yX5_name cX5_name 2 (some .boolean) 0 RX5 := ⟨otb 764 rfl rfl, otb 763 (by decide +kernel) rfl, otb 15 (by decide +kernel) rfl, inX5, by decide, by decide +kernel, by decide +kernel, by decide +kernel⟩
set_option maxRecDepth 20000 in
theorem miX5_test : oMv yX5_test cX5_test 2 (some .boolean) 0 RX5 := ⟨otb 776 rfl rfl, otb 775 (by decide +kernel) rfl, otb 16 (by decide +kernel) rfl, inX5, by decide, by decide +kernel, by decide +kernel, by decide +kernel⟩
set_option maxRecDepth 20000 in
theorem miX5_both : oMv yX5_both cX5_both 2 (some .boolean) 0 RX5 := ⟨otb 780 rfl rfl, otb 779 (by decide +kernel) rfl, otb 17 (by decide +kernel) rfl, inX5, by decide, by decide +kernel, by decide +kernel, by decide +kernel⟩
set_option maxRecDepth 20000 in
theorem miX5_fact : oMv yX5_fact cX5_fact 3 (some .boolean) 0 RX5 := ⟨otb 784 rfl rfl, otb 783 (by decide +kernel) rfl, otb 18 (by decide +kernel) rfl, inX5, by decide, by decide +kernel, by decide +kernel, by decide +kernel⟩
set_option maxRecDepth 20000 in
theorem miX5_sum : oMv yX5_sum cX5_sum 3 (some .boolean) 0 RX5 := ⟨otb 800 rfl rfl, otb 799 (by decide +kernel) rfl, otb 21 (by decide +kernel) rfl, inX5, by decide, by decide +kernel, by decide +kernel, by decide +kernel⟩
set_option maxRecDepth 20000 in
theorem miX5_product : oMv yX5_product cX5_product 3 (some .boolean) 0 RX5 := ⟨otb 804 rfl rfl, otb 803 (by decide +kernel) rfl, otb 22 (by decide +kernel) rfl, inX5, by decide, by decide +kernel, by decide +kernel, by decide +kernel⟩
set_option maxRecDepth 20000 in
theorem miX5_part : oMv yX5_part cX5_part 3 (some .boolean) 0 RX5 := ⟨otb 808 rfl rfl, otb 807 (by decide +kernel) rfl, otb 23 (by decide +kernel) rfl, inX5, by decide, by decide +kernel, by decide +kernel, by decide +kernel⟩
set_option maxRecDepth 20000 in
theorem miX5_choice : oMv yX5_choice cX5_choice 2 (some .boolean) 1 RX5 := ⟨otb 812 rfl rfl, otb 811 (by decide +kernel) rfl, otb 24 (by decide +kernel) rfl, inX5, by decide, by decide +kernel, by decide +kernel, by decide +kernel⟩
set_option maxRecDepth 20000 in
theorem miX5_opens : oMv yX5_opens cX5_opens 1 (some .boolean) 0 RX5 := ⟨otb 788 rfl rfl, otb 787 (by decide +kernel) rfl, otb 19 (by decide +kernel) rfl, inX5, by decide, by decide +kernel, by decide +kernel, by decide +kernel⟩
set_option maxRecDepth 20000 in
theorem miX5_closes : oMv yX5_closes cX5_closes 1 (some .boolean) 0 RX5 := ⟨otb 792 rfl rfl, otb 791 (by decide +kernel) rfl, otb 20 (by decide +kernel) rfl, inX5, by decide, by decide +kernel, by decide +kernel, by decide +kernel⟩
set_option maxRecDepth 20000 in
theorem miX5_number : oMv yX5_number cX5_number 6 (some .int) 2 RX5 := ⟨otb 705 rfl rfl, otb 704 (by decide +kernel) rfl, otb 6 (by decide +kernel) rfl, inX5, by decide, by decide +kernel, by decide +kernel, by decide +kernel⟩
set_option maxRecDepth 20000 in
theorem miX5_expect : oMv yX5_expect cX5_expect 2 (some .boolean) 1 RX5 := ⟨otb 716 rfl rfl, otb 715 (by decide +kernel) rfl, otb 8 (by decide +kernel) rfl, inX5, by decide, by decide +kernel, by decide +kernel, by decide +kernel⟩
set_option maxRecDepth 20000 in
theorem miX5_accept : oMv yX5_accept cX5_accept 2 (some .boolean) 1 RX5 := ⟨otb 637 rfl rfl, otb 636 (by decide +kernel) rfl, otb 3 (by decide +kernel) rfl, inX5, by decide, by decide +kernel, by decide +kernel, by decide +kernel⟩
set_option maxRecDepth 20000 in
theorem miX5_passWord : oMv yX5_passWord cX5_passWord 1 none 0 RX5 := ⟨otb 701 rfl rfl, otb 700 (by decide +kernel) rfl, otb 5 (by decide +kernel) rfl, inX5, by decide, by decide +kernel, by decide +kernel, by decide +kernel⟩
set_option maxRecDepth 20000 in
theorem miX5_expectSign : oMv yX5_expectSign cX5_expectSign 2 (some .boolean) 1 RX5 := ⟨otb 727 rfl rfl, otb 726 (by decide +kernel) rfl, otb 9 (by decide +kernel) rfl, inX5, by decide, by decide +kernel, by decide +kernel, by decide +kernel⟩
set_option maxRecDepth 20000 in
theorem miX5_wordAhead : oMv yX5_wordAhead cX5_wordAhead 3 (some .int) 0 RX5 := ⟨otb 641 rfl rfl, otb 640 (by decide +kernel) rfl, otb 4 (by decide +kernel) rfl, inX5, by decide, by decide +kernel, by decide +kernel, by decide +kernel⟩
set_option maxRecDepth 20000 in
theorem miX5_peek : oMv yX5_peek cX5_peek 1 (some .int) 0 RX5 := ⟨otb 629 rfl rfl, otb 628 (by decide +kernel) rfl, otb 1 (by decide +kernel) rfl, inX5, by decide, by decide +kernel, by decide +kernel, by decide +kernel⟩
set_option maxRecDepth 20000 in
theorem miX5_fail : oMv yX5_fail cX5_fail 3 (some .boolean) 2 RX5 := ⟨otb 712 rfl rfl, otb 711 (by decide +kernel) rfl, otb 7 (by decide +kernel) rfl, inX5, by decide, by decide +kernel, by decide +kernel, by decide +kernel⟩
set_option maxRecDepth 20000 in
theorem miX5_isLetter : oMs yX5_isLetter cX5_isLetter 1 (some .boolean) 1 := ⟨otb 644 rfl rfl, otb 643 (by decide +kernel) rfl, inX5, by decide, by decide +kernel, by decide +kernel, by decide +kernel⟩
set_option maxRecDepth 20000 in
theorem miX5_isDigit : oMs yX5_isDigit cX5_isDigit 1 (some .boolean) 1 := ⟨otb 708 rfl rfl, otb 707 (by decide +kernel) rfl, inX5, by decide, by decide +kernel, by decide +kernel, by decide +kernel⟩
set_option maxRecDepth 20000 in
theorem miX6_write : oMv yX6_write cX6_write 8 none 2 RX6 := ⟨otb 1200 rfl rfl, otb 1198 (by decide +kernel) rfl, otb 1199 (by decide +kernel) rfl, inX6, by decide, by decide +kernel, by decide +kernel, by decide +kernel⟩
set_option maxRecDepth 20000 in
theorem miX6_put : oMv yX6_put cX6_put 3 none 2 RX6 := ⟨otb 1207 rfl rfl, otb 1206 (by decide +kernel) rfl, otb 43 (by decide +kernel) rfl, inX6, by decide, by decide +kernel, by decide +kernel, by decide +kernel⟩
set_option maxRecDepth 20000 in
theorem miX6_print : oMv yX6_print cX6_print 3 (some .int) 0 RX6 := ⟨otb 1213 rfl rfl, otb 1211 (by decide +kernel) rfl, otb 1212 (by decide +kernel) rfl, inX6, by decide, by decide +kernel, by decide +kernel, by decide +kernel⟩
set_option maxRecDepth 20000 in
theorem miX6_isSame : oMv yX6_isSame cX6_isSame 3 (some .boolean) 1 RX6 := ⟨otb 1221 rfl rfl, otb 1219 (by decide +kernel) rfl, otb 1220 (by decide +kernel) rfl, inX6, by decide, by decide +kernel, by decide +kernel, by decide +kernel⟩
set_option maxRecDepth 20000 in
theorem miX7_build : oMv yX7_build cX7_build 9 none 5 RX7 := ⟨otb 1082 rfl rfl, otb 1080 (by decide +kernel) rfl, otb 1081 (by decide +kernel) rfl, inX7, by decide, by decide +kernel, by decide +kernel, by decide +kernel⟩
set_option maxRecDepth 20000 in
theorem miX7_addPair : oMv yX7_addPair cX7_addPair 7 none 3 RX7 := ⟨otb 1097 rfl rfl, otb 1096 (by decide +kernel) rfl, otb 37 (by decide +kernel) rfl, inX7, by decide, by decide +kernel, by decide +kernel, by decide +kernel⟩
set_option maxRecDepth 20000 in
theorem miX7_memberOf : oMv yX7_memberOf cX7_memberOf 6 (some .int) 3 RX7 := ⟨otb 1113 rfl rfl, otb 1111 (by decide +kernel) rfl, otb 1112 (by decide +kernel) rfl, inX7, by decide, by decide +kernel, by decide +kernel, by decide +kernel⟩
set_option maxRecDepth 20000 in
theorem miX8_hasRoom : oMv yX8_hasRoom cX8_hasRoom 2 (some .boolean) 1 RX8 := ⟨otb 596 rfl rfl, otb 594 (by decide +kernel) rfl, otb 595 (by decide +kernel) rfl, inX8, by decide, by decide +kernel, by decide +kernel, by decide +kernel⟩
set_option maxRecDepth 20000 in
theorem miX8_put : oMv yX8_put cX8_put 3 none 1 RX8 := ⟨otb 600 rfl rfl, otb 598 (by decide +kernel) rfl, otb 599 (by decide +kernel) rfl, inX8, by decide, by decide +kernel, by decide +kernel, by decide +kernel⟩
set_option maxRecDepth 20000 in
theorem miX8_cut : oMv yX8_cut cX8_cut 2 (some .boolean) 1 RX8 := ⟨otb 609 rfl rfl, otb 607 (by decide +kernel) rfl, otb 608 (by decide +kernel) rfl, inX8, by decide, by decide +kernel, by decide +kernel, by decide +kernel⟩
set_option maxRecDepth 20000 in
theorem miX8_at : oMv yX8_at cX8_at 2 (some .int) 1 RX8 := ⟨otb 648 rfl rfl, otb 646 (by decide +kernel) rfl, otb 647 (by decide +kernel) rfl, inX8, by decide, by decide +kernel, by decide +kernel, by decide +kernel⟩
set_option maxRecDepth 20000 in
theorem miX9_take : oMv yX9_take cX9_take 2 none 1 RX9 := ⟨otb 885 rfl rfl, otb 883 (by decide +kernel) rfl, otb 884 (by decide +kernel) rfl, inX9, by decide, by decide +kernel, by decide +kernel, by decide +kernel⟩
set_option maxRecDepth 20000 in
theorem miX9_stretch : oMv yX9_stretch cX9_stretch 2 (some .int) 1 RX9 := ⟨otb 896 rfl rfl, otb 894 (by decide +kernel) rfl, otb 895 (by decide +kernel) rfl, inX9, by decide, by decide +kernel, by decide +kernel, by decide +kernel⟩
set_option maxRecDepth 20000 in
theorem miX9_stop : oMv yX9_stop cX9_stop 2 (some .int) 1 RX9 := ⟨otb 892 rfl rfl, otb 890 (by decide +kernel) rfl, otb 891 (by decide +kernel) rfl, inX9, by decide, by decide +kernel, by decide +kernel, by decide +kernel⟩
set_option maxRecDepth 20000 in
theorem miX9_number : oMv yX9_number cX9_number 4 (some .int) 2 RX9 := ⟨otb 904 rfl rfl, otb 902 (by decide +kernel) rfl, otb 903 (by decide +kernel) rfl, inX9, by decide, by decide +kernel, by decide +kernel, by decide +kernel⟩
set_option maxRecDepth 20000 in
theorem miX9_turned : oMv yX9_turned cX9_turned 3 (some .int) 2 RX9 := ⟨otb 908 rfl rfl, otb 906 (by decide +kernel) rfl, otb 907 (by decide +kernel) rfl, inX9, by decide, by decide +kernel, by decide +kernel, by decide +kernel⟩
set_option maxRecDepth 20000 in
theorem miX9_tone : oMv yX9_tone cX9_tone 4 (some .int) 2 RX9 := ⟨otb 916 rfl rfl, otb 914 (by decide +kernel) rfl, otb 915 (by decide +kernel) rfl, inX9, by decide, by decide +kernel, by decide +kernel, by decide +kernel⟩
set_option maxRecDepth 20000 in
theorem miX10_allows : oMv yX10_allows cX10_allows 3 (some .boolean) 1 RX10 := ⟨otb 866 rfl rfl, otb 864 (by decide +kernel) rfl, otb 865 (by decide +kernel) rfl, inX10, by decide, by decide +kernel, by decide +kernel, by decide +kernel⟩
set_option maxRecDepth 20000 in
theorem miX10_survey : oMv yX10_survey cX10_survey 9 (some .int) 4 RX10 := ⟨otb 1049 rfl rfl, otb 1047 (by decide +kernel) rfl, otb 1048 (by decide +kernel) rfl, inX10, by decide, by decide +kernel, by decide +kernel, by decide +kernel⟩
set_option maxRecDepth 20000 in
theorem miX10_tryOne : oMv yX10_tryOne cX10_tryOne 10 none 4 RX10 := ⟨otb 1058 rfl rfl, otb 1057 (by decide +kernel) rfl, otb 33 (by decide +kernel) rfl, inX10, by decide, by decide +kernel, by decide +kernel, by decide +kernel⟩
set_option maxRecDepth 20000 in
theorem miX10_gather : oMv yX10_gather cX10_gather 3 none 1 RX10 := ⟨otb 1068 rfl rfl, otb 1067 (by decide +kernel) rfl, otb 34 (by decide +kernel) rfl, inX10, by decide, by decide +kernel, by decide +kernel, by decide +kernel⟩
set_option maxRecDepth 20000 in
theorem miX10_weigh : oMv yX10_weigh cX10_weigh 3 none 1 RX10 := ⟨otb 1072 rfl rfl, otb 1070 (by decide +kernel) rfl, otb 1071 (by decide +kernel) rfl, inX10, by decide, by decide +kernel, by decide +kernel, by decide +kernel⟩
set_option maxRecDepth 20000 in
theorem miX10_senseOf : oMv yX10_senseOf cX10_senseOf 4 (some .int) 1 RX10 := ⟨otb 1077 rfl rfl, otb 1076 (by decide +kernel) rfl, otb 35 (by decide +kernel) rfl, inX10, by decide, by decide +kernel, by decide +kernel, by decide +kernel⟩
set_option maxRecDepth 20000 in
theorem miX10_holds : oMv yX10_holds cX10_holds 2 (some .boolean) 1 RX10 := ⟨otb 1091 rfl rfl, otb 1090 (by decide +kernel) rfl, otb 36 (by decide +kernel) rfl, inX10, by decide, by decide +kernel, by decide +kernel, by decide +kernel⟩
set_option maxRecDepth 20000 in
theorem miX10_codeOf : oMv yX10_codeOf cX10_codeOf 2 (some .int) 1 RX10 := ⟨otb 1087 rfl rfl, otb 1085 (by decide +kernel) rfl, otb 1086 (by decide +kernel) rfl, inX10, by decide, by decide +kernel, by decide +kernel, by decide +kernel⟩
set_option maxRecDepth 20000 in
theorem miX10_countBroken : oMv yX10_countBroken cX10_countBroken 2 (some .int) 1 RX10 := ⟨otb 1241 rfl rfl, otb 1239 (by decide +kernel) rfl, otb 1240 (by decide +kernel) rfl, inX10, by decide, by decide +kernel, by decide +kernel, by decide +kernel⟩
set_option maxRecDepth 20000 in
theorem miX10_countWithout : oMv yX10_countWithout cX10_countWithout 2 (some .int) 1 RX10 := ⟨otb 1237 rfl rfl, otb 1235 (by decide +kernel) rfl, otb 1236 (by decide +kernel) rfl, inX10, by decide, by decide +kernel, by decide +kernel, by decide +kernel⟩
set_option maxRecDepth 20000 in
theorem miX10_agreement : oMs yX10_agreement cX10_agreement 3 (some .int) 2 := ⟨otb 1125 rfl rfl, otb 1124 (by decide +kernel) rfl, inX10, by decide, by decide +kernel, by decide +kernel, by decide +kernel⟩
set_option maxRecDepth 20000 in
theorem miX10_countLike : oMv yX10_countLike cX10_countLike 5 (some .int) 2 RX10 := ⟨otb 1141 rfl rfl, otb 1139 (by decide +kernel) rfl, otb 1140 (by decide +kernel) rfl, inX10, by decide, by decide +kernel, by decide +kernel, by decide +kernel⟩
set_option maxRecDepth 20000 in
theorem miX10_fewestSigns : oMv yX10_fewestSigns cX10_fewestSigns 3 (some .int) 1 RX10 := ⟨otb 1122 rfl rfl, otb 1120 (by decide +kernel) rfl, otb 1121 (by decide +kernel) rfl, inX10, by decide, by decide +kernel, by decide +kernel, by decide +kernel⟩
set_option maxRecDepth 20000 in
theorem miX10_fewestMottos : oMv yX10_fewestMottos cX10_fewestMottos 3 (some .int) 1 RX10 := ⟨otb 1169 rfl rfl, otb 1167 (by decide +kernel) rfl, otb 1168 (by decide +kernel) rfl, inX10, by decide, by decide +kernel, by decide +kernel, by decide +kernel⟩
set_option maxRecDepth 20000 in
theorem miX10_fewest : oMv yX10_fewest cX10_fewest 4 (some .int) 1 RX10 := ⟨otb 1129 rfl rfl, otb 1128 (by decide +kernel) rfl, otb 40 (by decide +kernel) rfl, inX10, by decide, by decide +kernel, by decide +kernel, by decide +kernel⟩
set_option maxRecDepth 20000 in
theorem miX10_countHaving : oMv yX10_countHaving cX10_countHaving 4 (some .int) 1 RX10 := ⟨otb 1133 rfl rfl, otb 1132 (by decide +kernel) rfl, otb 41 (by decide +kernel) rfl, inX10, by decide, by decide +kernel, by decide +kernel, by decide +kernel⟩
set_option maxRecDepth 20000 in
theorem miX10_isMeant : oMv yX10_isMeant cX10_isMeant 3 (some .boolean) 2 RX10 := ⟨otb 1153 rfl rfl, otb 1151 (by decide +kernel) rfl, otb 1152 (by decide +kernel) rfl, inX10, by decide, by decide +kernel, by decide +kernel, by decide +kernel⟩
set_option maxRecDepth 20000 in
theorem miX10_countMeant : oMv yX10_countMeant cX10_countMeant 4 (some .int) 1 RX10 := ⟨otb 1149 rfl rfl, otb 1147 (by decide +kernel) rfl, otb 1148 (by decide +kernel) rfl, inX10, by decide, by decide +kernel, by decide +kernel, by decide +kernel⟩
set_option maxRecDepth 20000 in
theorem miX10_nthMeant : oMv yX10_nthMeant cX10_nthMeant 5 (some .int) 2 RX10 := ⟨otb 1157 rfl rfl, otb 1155 (by decide +kernel) rfl, otb 1156 (by decide +kernel) rfl, inX10, by decide, by decide +kernel, by decide +kernel, by decide +kernel⟩
set_option maxRecDepth 20000 in
theorem miX10_commonest : oMv yX10_commonest cX10_commonest 5 (some .int) 2 RX10 := ⟨otb 1177 rfl rfl, otb 1175 (by decide +kernel) rfl, otb 1176 (by decide +kernel) rfl, inX10, by decide, by decide +kernel, by decide +kernel, by decide +kernel⟩
set_option maxRecDepth 20000 in
theorem miX11_feed : oMv yX11_feed cX11_feed 6 (some .int) 5 RX11 := ⟨otb 592 rfl rfl, otb 590 (by decide +kernel) rfl, otb 591 (by decide +kernel) rfl, inX11, by decide, by decide +kernel, by decide +kernel, by decide +kernel⟩
set_option maxRecDepth 20000 in
theorem miX11_end : oMv yX11_end cX11_end 2 (some .boolean) 1 RX11 := ⟨otb 605 rfl rfl, otb 603 (by decide +kernel) rfl, otb 604 (by decide +kernel) rfl, inX11, by decide, by decide +kernel, by decide +kernel, by decide +kernel⟩
set_option maxRecDepth 20000 in
theorem miX11_line : oMv yX11_line cX11_line 2 (some .int) 0 RX11 := ⟨otb 613 rfl rfl, otb 611 (by decide +kernel) rfl, otb 612 (by decide +kernel) rfl, inX11, by decide, by decide +kernel, by decide +kernel, by decide +kernel⟩
set_option maxRecDepth 20000 in
theorem miX11_book : oMv yX11_book cX11_book 3 (some .int) 0 RX11 := ⟨otb 744 rfl rfl, otb 742 (by decide +kernel) rfl, otb 743 (by decide +kernel) rfl, inX11, by decide, by decide +kernel, by decide +kernel, by decide +kernel⟩
set_option maxRecDepth 20000 in
theorem miX11_fault : oMv yX11_fault cX11_fault 2 (some .int) 1 RX11 := ⟨otb 821 rfl rfl, otb 819 (by decide +kernel) rfl, otb 820 (by decide +kernel) rfl, inX11, by decide, by decide +kernel, by decide +kernel, by decide +kernel⟩
set_option maxRecDepth 20000 in
theorem miX11_has : oMv yX11_has cX11_has 2 (some .int) 1 RX11 := ⟨otb 825 rfl rfl, otb 823 (by decide +kernel) rfl, otb 824 (by decide +kernel) rfl, inX11, by decide, by decide +kernel, by decide +kernel, by decide +kernel⟩
set_option maxRecDepth 20000 in
theorem miX11_letter : oMv yX11_letter cX11_letter 3 (some .int) 2 RX11 := ⟨otb 841 rfl rfl, otb 839 (by decide +kernel) rfl, otb 840 (by decide +kernel) rfl, inX11, by decide, by decide +kernel, by decide +kernel, by decide +kernel⟩
set_option maxRecDepth 20000 in
theorem miX11_note : oMv yX11_note cX11_note 3 (some .int) 2 RX11 := ⟨otb 849 rfl rfl, otb 847 (by decide +kernel) rfl, otb 848 (by decide +kernel) rfl, inX11, by decide, by decide +kernel, by decide +kernel, by decide +kernel⟩
set_option maxRecDepth 20000 in
theorem miX11_bounds : oMv yX11_bounds cX11_bounds 6 (some .int) 3 RX11 := ⟨otb 862 rfl rfl, otb 860 (by decide +kernel) rfl, otb 861 (by decide +kernel) rfl, inX11, by decide, by decide +kernel, by decide +kernel, by decide +kernel⟩
set_option maxRecDepth 20000 in
theorem miX11_code : oMv yX11_code cX11_code 6 (some .int) 5 RX11 := ⟨otb 870 rfl rfl, otb 868 (by decide +kernel) rfl, otb 869 (by decide +kernel) rfl, inX11, by decide, by decide +kernel, by decide +kernel, by decide +kernel⟩
set_option maxRecDepth 20000 in
theorem miX11_follower : oMv yX11_follower cX11_follower 3 (some .int) 2 RX11 := ⟨otb 877 rfl rfl, otb 875 (by decide +kernel) rfl, otb 876 (by decide +kernel) rfl, inX11, by decide, by decide +kernel, by decide +kernel, by decide +kernel⟩
set_option maxRecDepth 20000 in
theorem miX11_sings : oMv yX11_sings cX11_sings 3 (some .int) 2 RX11 := ⟨otb 900 rfl rfl, otb 898 (by decide +kernel) rfl, otb 899 (by decide +kernel) rfl, inX11, by decide, by decide +kernel, by decide +kernel, by decide +kernel⟩
set_option maxRecDepth 20000 in
theorem miX11_breach : oMv yX11_breach cX11_breach 5 (some .int) 3 RX11 := ⟨otb 922 rfl rfl, otb 920 (by decide +kernel) rfl, otb 921 (by decide +kernel) rfl, inX11, by decide, by decide +kernel, by decide +kernel, by decide +kernel⟩
set_option maxRecDepth 20000 in
theorem miX11_together : oMv yX11_together cX11_together 4 (some .int) 3 RX11 := ⟨otb 1025 rfl rfl, otb 1023 (by decide +kernel) rfl, otb 1024 (by decide +kernel) rfl, inX11, by decide, by decide +kernel, by decide +kernel, by decide +kernel⟩
set_option maxRecDepth 20000 in
theorem miX11_broken : oMv yX11_broken cX11_broken 6 (some .int) 3 RX11 := ⟨otb 1033 rfl rfl, otb 1031 (by decide +kernel) rfl, otb 1032 (by decide +kernel) rfl, inX11, by decide, by decide +kernel, by decide +kernel, by decide +kernel⟩
set_option maxRecDepth 20000 in
theorem miX11_span : oMv yX11_span cX11_span 6 (some .int) 2 RX11 := ⟨otb 1037 rfl rfl, otb 1035 (by decide +kernel) rfl, otb 1036 (by decide +kernel) rfl, inX11, by decide, by decide +kernel, by decide +kernel, by decide +kernel⟩
set_option maxRecDepth 20000 in
theorem miX11_ways : oMv yX11_ways cX11_ways 2 (some .int) 1 RX11 := ⟨otb 1041 rfl rfl, otb 1039 (by decide +kernel) rfl, otb 1040 (by decide +kernel) rfl, inX11, by decide, by decide +kernel, by decide +kernel, by decide +kernel⟩
set_option maxRecDepth 20000 in
theorem miX11_way : oMv yX11_way cX11_way 4 (some .int) 3 RX11 := ⟨otb 1105 rfl rfl, otb 1103 (by decide +kernel) rfl, otb 1104 (by decide +kernel) rfl, inX11, by decide, by decide +kernel, by decide +kernel, by decide +kernel⟩
set_option maxRecDepth 20000 in
theorem miX11_signs : oMv yX11_signs cX11_signs 2 (some .int) 1 RX11 := ⟨otb 1118 rfl rfl, otb 1116 (by decide +kernel) rfl, otb 1117 (by decide +kernel) rfl, inX11, by decide, by decide +kernel, by decide +kernel, by decide +kernel⟩
set_option maxRecDepth 20000 in
theorem miX11_like : oMv yX11_like cX11_like 3 (some .int) 2 RX11 := ⟨otb 1137 rfl rfl, otb 1135 (by decide +kernel) rfl, otb 1136 (by decide +kernel) rfl, inX11, by decide, by decide +kernel, by decide +kernel, by decide +kernel⟩
set_option maxRecDepth 20000 in
theorem miX11_means : oMv yX11_means cX11_means 3 (some .int) 2 RX11 := ⟨otb 1145 rfl rfl, otb 1143 (by decide +kernel) rfl, otb 1144 (by decide +kernel) rfl, inX11, by decide, by decide +kernel, by decide +kernel, by decide +kernel⟩
set_option maxRecDepth 20000 in
theorem miX11_mean : oMv yX11_mean cX11_mean 2 (some .int) 1 RX11 := ⟨otb 1161 rfl rfl, otb 1159 (by decide +kernel) rfl, otb 1160 (by decide +kernel) rfl, inX11, by decide, by decide +kernel, by decide +kernel, by decide +kernel⟩
set_option maxRecDepth 20000 in
theorem miX11_mottos : oMv yX11_mottos cX11_mottos 2 (some .int) 1 RX11 := ⟨otb 1165 rfl rfl, otb 1163 (by decide +kernel) rfl, otb 1164 (by decide +kernel) rfl, inX11, by decide, by decide +kernel, by decide +kernel, by decide +kernel⟩
set_option maxRecDepth 20000 in
theorem miX11_common : oMv yX11_common cX11_common 2 (some .int) 1 RX11 := ⟨otb 1173 rfl rfl, otb 1171 (by decide +kernel) rfl, otb 1172 (by decide +kernel) rfl, inX11, by decide, by decide +kernel, by decide +kernel, by decide +kernel⟩
set_option maxRecDepth 20000 in
theorem miX11_over : oMv yX11_over cX11_over 5 (some .int) 2 RX11 := ⟨otb 1181 rfl rfl, otb 1179 (by decide +kernel) rfl, otb 1180 (by decide +kernel) rfl, inX11, by decide, by decide +kernel, by decide +kernel, by decide +kernel⟩
set_option maxRecDepth 20000 in
theorem miX11_alike : oMv yX11_alike cX11_alike 2 (some .int) 1 RX11 := ⟨otb 1186 rfl rfl, otb 1184 (by decide +kernel) rfl, otb 1185 (by decide +kernel) rfl, inX11, by decide, by decide +kernel, by decide +kernel, by decide +kernel⟩
set_option maxRecDepth 20000 in
theorem miX11_unlike : oMv yX11_unlike cX11_unlike 1 (some .int) 0 RX11 := ⟨otb 1229 rfl rfl, otb 1227 (by decide +kernel) rfl, otb 1228 (by decide +kernel) rfl, inX11, by decide, by decide +kernel, by decide +kernel, by decide +kernel⟩
set_option maxRecDepth 20000 in
theorem miX11_rule : oMv yX11_rule cX11_rule 3 (some .int) 2 RX11 := ⟨otb 1233 rfl rfl, otb 1231 (by decide +kernel) rfl, otb 1232 (by decide +kernel) rfl, inX11, by decide, by decide +kernel, by decide +kernel, by decide +kernel⟩
set_option maxRecDepth 20000 in
theorem miX11_meant : oMv yX11_meant cX11_meant 7 (some .int) 2 RX11 := ⟨otb 1245 rfl rfl, otb 1243 (by decide +kernel) rfl, otb 1244 (by decide +kernel) rfl, inX11, by decide, by decide +kernel, by decide +kernel, by decide +kernel⟩
set_option maxRecDepth 20000 in
theorem miX11_round : oMv yX11_round cX11_round 3 (some .int) 1 RX11 := ⟨otb 1250 rfl rfl, otb 1248 (by decide +kernel) rfl, otb 1249 (by decide +kernel) rfl, inX11, by decide, by decide +kernel, by decide +kernel, by decide +kernel⟩
set_option maxRecDepth 20000 in
theorem miX11_make : oMv yX11_make cX11_make 4 (some .int) 3 RX11 := ⟨otb 1263 rfl rfl, otb 1261 (by decide +kernel) rfl, otb 1262 (by decide +kernel) rfl, inX11, by decide, by decide +kernel, by decide +kernel, by decide +kernel⟩
set_option maxRecDepth 20000 in
theorem miX11_shortest : oMv yX11_shortest cX11_shortest 4 (some .int) 2 RX11 := ⟨otb 1293 rfl rfl, otb 1291 (by decide +kernel) rfl, otb 1292 (by decide +kernel) rfl, inX11, by decide, by decide +kernel, by decide +kernel, by decide +kernel⟩
set_option maxRecDepth 20000 in
theorem miX11_richest : oMv yX11_richest cX11_richest 8 (some .int) 3 RX11 := ⟨otb 1297 rfl rfl, otb 1295 (by decide +kernel) rfl, otb 1296 (by decide +kernel) rfl, inX11, by decide, by decide +kernel, by decide +kernel, by decide +kernel⟩
set_option maxRecDepth 20000 in
theorem miX11_wrong : oMv yX11_wrong cX11_wrong 3 (some .int) 2 RX11 := ⟨otb 1306 rfl rfl, otb 1304 (by decide +kernel) rfl, otb 1305 (by decide +kernel) rfl, inX11, by decide, by decide +kernel, by decide +kernel, by decide +kernel⟩
set_option maxRecDepth 20000 in
theorem miX11_change : oMv yX11_change cX11_change 4 (some .int) 2 RX11 := ⟨otb 1319 rfl rfl, otb 1317 (by decide +kernel) rfl, otb 1318 (by decide +kernel) rfl, inX11, by decide, by decide +kernel, by decide +kernel, by decide +kernel⟩
set_option maxRecDepth 20000 in
theorem miX11_draw : oMv yX11_draw cX11_draw 8 (some .int) 3 RX11 := ⟨otb 1323 rfl rfl, otb 1321 (by decide +kernel) rfl, otb 1322 (by decide +kernel) rfl, inX11, by decide, by decide +kernel, by decide +kernel, by decide +kernel⟩
set_option maxRecDepth 20000 in
theorem miX11_image : oMv yX11_image cX11_image 3 (some .int) 0 RX11 := ⟨otb 1334 rfl rfl, otb 1332 (by decide +kernel) rfl, otb 1333 (by decide +kernel) rfl, inX11, by decide, by decide +kernel, by decide +kernel, by decide +kernel⟩
set_option maxRecDepth 20000 in
theorem miX11_octet : oMv yX11_octet cX11_octet 2 (some .int) 1 RX11 := ⟨otb 1341 rfl rfl, otb 1339 (by decide +kernel) rfl, otb 1340 (by decide +kernel) rfl, inX11, by decide, by decide +kernel, by decide +kernel, by decide +kernel⟩
set_option maxRecDepth 20000 in
theorem miX11_on : oMv yX11_on cX11_on 2 (some .boolean) 0 RX11 := ⟨otb 1345 rfl rfl, otb 1343 (by decide +kernel) rfl, otb 1344 (by decide +kernel) rfl, inX11, by decide, by decide +kernel, by decide +kernel, by decide +kernel⟩
set_option maxRecDepth 20000 in
theorem miX11_isCode : oMs yX11_isCode cX11_isCode 1 (some .boolean) 1 := ⟨otb 880 rfl rfl, otb 879 (by decide +kernel) rfl, inX11, by decide, by decide +kernel, by decide +kernel, by decide +kernel⟩
set_option maxRecDepth 20000 in
theorem miX11_follows : oMs yX11_follows cX11_follows 1 (some .boolean) 1 := ⟨otb 1253 rfl rfl, otb 1252 (by decide +kernel) rfl, inX11, by decide, by decide +kernel, by decide +kernel, by decide +kernel⟩
set_option maxRecDepth 20000 in
theorem miX11_codeOf : oMs yX11_codeOf cX11_codeOf 3 (some .int) 3 := ⟨otb 873 rfl rfl, otb 872 (by decide +kernel) rfl, inX11, by decide, by decide +kernel, by decide +kernel, by decide +kernel⟩
set_option maxRecDepth 20000 in
theorem miX11_canBe : oMs yX11_canBe cX11_canBe 2 (some .boolean) 2 := ⟨otb 888 rfl rfl, otb 887 (by decide +kernel) rfl, inX11, by decide, by decide +kernel, by decide +kernel, by decide +kernel⟩
set_option maxRecDepth 20000 in
theorem miX11_lowestBit : oMs yX11_lowestBit cX11_lowestBit 1 (some .int) 1 := ⟨otb 1015 rfl rfl, otb 1014 (by decide +kernel) rfl, inX11, by decide, by decide +kernel, by decide +kernel, by decide +kernel⟩
set_option maxRecDepth 20000 in
theorem miX11_nextSeed : oMs yX11_nextSeed cX11_nextSeed 1 (some .int) 1 := ⟨otb 1327 rfl rfl, otb 1326 (by decide +kernel) rfl, inX11, by decide, by decide +kernel, by decide +kernel, by decide +kernel⟩
set_option maxRecDepth 20000 in
theorem miX11_nextCheck : oMs yX11_nextCheck cX11_nextCheck 2 (some .int) 2 := ⟨otb 1337 rfl rfl, otb 1336 (by decide +kernel) rfl, inX11, by decide, by decide +kernel, by decide +kernel, by decide +kernel⟩
set_option maxRecDepth 20000 in
theorem miX11_takeSpare : oMv yX11_takeSpare cX11_takeSpare 2 none 0 RX11 := ⟨otb 735 rfl rfl, otb 734 (by decide +kernel) rfl, otb 11 (by decide +kernel) rfl, inX11, by decide, by decide +kernel, by decide +kernel, by decide +kernel⟩
set_option maxRecDepth 20000 in
theorem miX11_forget : oMv yX11_forget cX11_forget 1 none 0 RX11 := ⟨otb 739 rfl rfl, otb 738 (by decide +kernel) rfl, otb 12 (by decide +kernel) rfl, inX11, by decide, by decide +kernel, by decide +kernel, by decide +kernel⟩
set_option maxRecDepth 20000 in
theorem miX11_prepare : oMv yX11_prepare cX11_prepare 2 none 1 RX11 := ⟨otb 1045 rfl rfl, otb 1044 (by decide +kernel) rfl, otb 32 (by decide +kernel) rfl, inX11, by decide, by decide +kernel, by decide +kernel, by decide +kernel⟩
set_option maxRecDepth 20000 in
theorem miX11_prepareLikeness : oMv yX11_prepareLikeness cX11_prepareLikeness 1 none 0 RX11 := ⟨otb 1190 rfl rfl, otb 1189 (by decide +kernel) rfl, otb 42 (by decide +kernel) rfl, inX11, by decide, by decide +kernel, by decide +kernel, by decide +kernel⟩
set_option maxRecDepth 20000 in
theorem miX11_howMany : oMv yX11_howMany cX11_howMany 2 (some .int) 1 RX11 := ⟨otb 1101 rfl rfl, otb 1100 (by decide +kernel) rfl, otb 38 (by decide +kernel) rfl, inX11, by decide, by decide +kernel, by decide +kernel, by decide +kernel⟩
set_option maxRecDepth 20000 in
theorem miX11_member : oMv yX11_member cX11_member 4 (some .int) 3 RX11 := ⟨otb 1109 rfl rfl, otb 1108 (by decide +kernel) rfl, otb 39 (by decide +kernel) rfl, inX11, by decide, by decide +kernel, by decide +kernel, by decide +kernel⟩
set_option maxRecDepth 20000 in
theorem miX11_hearTwo : oMv yX11_hearTwo cX11_hearTwo 3 (some .boolean) 2 RX11 := ⟨otb 926 rfl rfl, otb 925 (by decide +kernel) rfl, otb 26 (by decide +kernel) rfl, inX11, by decide, by decide +kernel, by decide +kernel, by decide +kernel⟩
set_option maxRecDepth 20000 in
theorem miX11_agrees : oMv yX11_agrees cX11_agrees 3 (some .boolean) 2 RX11 := ⟨otb 1285 rfl rfl, otb 1284 (by decide +kernel) rfl, otb 47 (by decide +kernel) rfl, inX11, by decide, by decide +kernel, by decide +kernel, by decide +kernel⟩
set_option maxRecDepth 20000 in
theorem miX11_madeInSpare : oMv yX11_madeInSpare cX11_madeInSpare 6 (some .boolean) 3 RX11 := ⟨otb 1267 rfl rfl, otb 1266 (by decide +kernel) rfl, otb 45 (by decide +kernel) rfl, inX11, by decide, by decide +kernel, by decide +kernel, by decide +kernel⟩
set_option maxRecDepth 20000 in
theorem miX11_seekWrongs : oMv yX11_seekWrongs cX11_seekWrongs 5 (some .boolean) 1 RX11 := ⟨otb 1310 rfl rfl, otb 1309 (by decide +kernel) rfl, otb 48 (by decide +kernel) rfl, inX11, by decide, by decide +kernel, by decide +kernel, by decide +kernel⟩
set_option maxRecDepth 20000 in
theorem miX11_keepWrong : oMv yX11_keepWrong cX11_keepWrong 2 none 1 RX11 := ⟨otb 1315 rfl rfl, otb 1314 (by decide +kernel) rfl, otb 49 (by decide +kernel) rfl, inX11, by decide, by decide +kernel, by decide +kernel, by decide +kernel⟩
set_option maxRecDepth 20000 in
theorem miX11_imageInSpare : oMv yX11_imageInSpare cX11_imageInSpare 5 (some .boolean) 0 RX11 := ⟨otb 1349 rfl rfl, otb 1348 (by decide +kernel) rfl, otb 50 (by decide +kernel) rfl, inX11, by decide, by decide +kernel, by decide +kernel, by decide +kernel⟩
set_option maxRecDepth 20000 in
theorem miX12_isIn : oMs yX12_isIn cX12_isIn 6 (some .boolean) 3 := ⟨otb 1658 rfl rfl, otb 1657 (by decide +kernel) rfl, inX12, by decide, by decide +kernel, by decide +kernel, by decide +kernel⟩
set_option maxRecDepth 20000 in
theorem miX12_feed : oMv yX12_feed cX12_feed 8 (some .int) 5 RX12 := ⟨otb 1609 rfl rfl, otb 1607 (by decide +kernel) rfl, otb 1608 (by decide +kernel) rfl, inX12, by decide, by decide +kernel, by decide +kernel, by decide +kernel⟩
set_option maxRecDepth 20000 in
theorem miX12_end : oMv yX12_end cX12_end 2 (some .boolean) 1 RX12 := ⟨otb 1613 rfl rfl, otb 1611 (by decide +kernel) rfl, otb 1612 (by decide +kernel) rfl, inX12, by decide, by decide +kernel, by decide +kernel, by decide +kernel⟩
set_option maxRecDepth 20000 in
theorem miX12_fail : oMv yX12_fail cX12_fail 3 none 2 RX12 := ⟨otb 1633 rfl rfl, otb 1632 (by decide +kernel) rfl, otb 54 (by decide +kernel) rfl, inX12, by decide, by decide +kernel, by decide +kernel, by decide +kernel⟩
set_option maxRecDepth 20000 in
theorem miX12_isLetter : oMs yX12_isLetter cX12_isLetter 1 (some .boolean) 1 := ⟨otb 1644 rfl rfl, otb 1643 (by decide +kernel) rfl, inX12, by decide, by decide +kernel, by decide +kernel, by decide +kernel⟩
set_option maxRecDepth 20000 in
theorem miX12_isDigit : oMs yX12_isDigit cX12_isDigit 1 (some .boolean) 1 := ⟨otb 1655 rfl rfl, otb 1654 (by decide +kernel) rfl, inX12, by decide, by decide +kernel, by decide +kernel, by decide +kernel⟩
set_option maxRecDepth 20000 in
theorem miX12_look : oMv yX12_look cX12_look 1 (some .int) 0 RX12 := ⟨otb 1625 rfl rfl, otb 1624 (by decide +kernel) rfl, otb 52 (by decide +kernel) rfl, inX12, by decide, by decide +kernel, by decide +kernel, by decide +kernel⟩
set_option maxRecDepth 20000 in
theorem miX12_isHere : oMv yX12_isHere cX12_isHere 4 (some .boolean) 1 RX12 := ⟨otb 1641 rfl rfl, otb 1640 (by decide +kernel) rfl, otb 56 (by decide +kernel) rfl, inX12, by decide, by decide +kernel, by decide +kernel, by decide +kernel⟩
set_option maxRecDepth 20000 in
theorem miX12_takes : oMv yX12_takes cX12_takes 2 (some .boolean) 1 RX12 := ⟨otb 1637 rfl rfl, otb 1636 (by decide +kernel) rfl, otb 55 (by decide +kernel) rfl, inX12, by decide, by decide +kernel, by decide +kernel, by decide +kernel⟩
set_option maxRecDepth 20000 in
theorem miX12_asks : oMv yX12_asks cX12_asks 2 none 1 RX12 := ⟨otb 1648 rfl rfl, otb 1647 (by decide +kernel) rfl, otb 57 (by decide +kernel) rfl, inX12, by decide, by decide +kernel, by decide +kernel, by decide +kernel⟩
set_option maxRecDepth 20000 in
theorem miX12_takesSign : oMv yX12_takesSign cX12_takesSign 2 (some .boolean) 1 RX12 := ⟨otb 1666 rfl rfl, otb 1665 (by decide +kernel) rfl, otb 60 (by decide +kernel) rfl, inX12, by decide, by decide +kernel, by decide +kernel, by decide +kernel⟩
set_option maxRecDepth 20000 in
theorem miX12_asksSign : oMv yX12_asksSign cX12_asksSign 2 none 1 RX12 := ⟨otb 1662 rfl rfl, otb 1661 (by decide +kernel) rfl, otb 59 (by decide +kernel) rfl, inX12, by decide, by decide +kernel, by decide +kernel, by decide +kernel⟩
set_option maxRecDepth 20000 in
theorem miX12_number : oMv yX12_number cX12_number 4 (some .int) 2 RX12 := ⟨otb 1652 rfl rfl, otb 1651 (by decide +kernel) rfl, otb 58 (by decide +kernel) rfl, inX12, by decide, by decide +kernel, by decide +kernel, by decide +kernel⟩
set_option maxRecDepth 20000 in
theorem miX12_isOwnHere : oMv yX12_isOwnHere cX12_isOwnHere 2 (some .boolean) 0 RX12 := ⟨otb 1770 rfl rfl, otb 1769 (by decide +kernel) rfl, otb 85 (by decide +kernel) rfl, inX12, by decide, by decide +kernel, by decide +kernel, by decide +kernel⟩
set_option maxRecDepth 20000 in
theorem miX12_name : oMv yX12_name cX12_name 3 (some .long) 0 RX12 := ⟨otb 1766 rfl rfl, otb 1765 (by decide +kernel) rfl, otb 84 (by decide +kernel) rfl, inX12, by decide, by decide +kernel, by decide +kernel, by decide +kernel⟩
set_option maxRecDepth 20000 in
theorem miX12_begins : oMv yX12_begins cX12_begins 1 none 0 RX12 := ⟨otb 1621 rfl rfl, otb 1620 (by decide +kernel) rfl, otb 51 (by decide +kernel) rfl, inX12, by decide, by decide +kernel, by decide +kernel, by decide +kernel⟩
set_option maxRecDepth 20000 in
theorem miX12_isTaken : oMv yX12_isTaken cX12_isTaken 1 (some .boolean) 0 RX12 := ⟨otb 1670 rfl rfl, otb 1669 (by decide +kernel) rfl, otb 61 (by decide +kernel) rfl, inX12, by decide, by decide +kernel, by decide +kernel, by decide +kernel⟩
set_option maxRecDepth 20000 in
theorem miX12_noteTold : oMv yX12_noteTold cX12_noteTold 6 none 0 RX12 := ⟨otb 1629 rfl rfl, otb 1628 (by decide +kernel) rfl, otb 53 (by decide +kernel) rfl, inX12, by decide, by decide +kernel, by decide +kernel, by decide +kernel⟩
set_option maxRecDepth 20000 in
theorem miX12_line : oMv yX12_line cX12_line 2 (some .int) 0 RX12 := ⟨otb 1617 rfl rfl, otb 1615 (by decide +kernel) rfl, otb 1616 (by decide +kernel) rfl, inX12, by decide, by decide +kernel, by decide +kernel, by decide +kernel⟩
set_option maxRecDepth 20000 in
theorem miX12_lies : oMv yX12_lies cX12_lies 3 none 0 RX12 := ⟨otb 1674 rfl rfl, otb 1673 (by decide +kernel) rfl, otb 62 (by decide +kernel) rfl, inX12, by decide, by decide +kernel, by decide +kernel, by decide +kernel⟩
set_option maxRecDepth 20000 in
theorem miX12_lay : oMv yX12_lay cX12_lay 2 none 1 RX12 := ⟨otb 1706 rfl rfl, otb 1705 (by decide +kernel) rfl, otb 69 (by decide +kernel) rfl, inX12, by decide, by decide +kernel, by decide +kernel, by decide +kernel⟩
set_option maxRecDepth 20000 in
theorem miX12_opens : oMv yX12_opens cX12_opens 3 none 2 RX12 := ⟨otb 1698 rfl rfl, otb 1697 (by decide +kernel) rfl, otb 67 (by decide +kernel) rfl, inX12, by decide, by decide +kernel, by decide +kernel, by decide +kernel⟩
set_option maxRecDepth 20000 in
theorem miX12_isOn : oMv yX12_isOn cX12_isOn 2 (some .boolean) 1 RX12 := ⟨otb 1746 rfl rfl, otb 1745 (by decide +kernel) rfl, otb 79 (by decide +kernel) rfl, inX12, by decide, by decide +kernel, by decide +kernel, by decide +kernel⟩
set_option maxRecDepth 20000 in
theorem miX12_drops : oMv yX12_drops cX12_drops 1 none 0 RX12 := ⟨otb 1742 rfl rfl, otb 1741 (by decide +kernel) rfl, otb 78 (by decide +kernel) rfl, inX12, by decide, by decide +kernel, by decide +kernel, by decide +kernel⟩
set_option maxRecDepth 20000 in
theorem miX12_isMark : oMv yX12_isMark cX12_isMark 2 (some .boolean) 1 RX12 := ⟨otb 1734 rfl rfl, otb 1733 (by decide +kernel) rfl, otb 76 (by decide +kernel) rfl, inX12, by decide, by decide +kernel, by decide +kernel, by decide +kernel⟩
set_option maxRecDepth 20000 in
theorem miX12_mark : oMv yX12_mark cX12_mark 2 (some .int) 0 RX12 := ⟨otb 1730 rfl rfl, otb 1729 (by decide +kernel) rfl, otb 75 (by decide +kernel) rfl, inX12, by decide, by decide +kernel, by decide +kernel, by decide +kernel⟩
set_option maxRecDepth 20000 in
theorem miX12_dropsToMark : oMv yX12_dropsToMark cX12_dropsToMark 1 none 0 RX12 := ⟨otb 1738 rfl rfl, otb 1737 (by decide +kernel) rfl, otb 77 (by decide +kernel) rfl, inX12, by decide, by decide +kernel, by decide +kernel, by decide +kernel⟩
set_option maxRecDepth 20000 in
theorem miX12_onePart : oMv yX12_onePart cX12_onePart 5 none 0 RX12 := ⟨otb 1714 rfl rfl, otb 1713 (by decide +kernel) rfl, otb 71 (by decide +kernel) rfl, inX12, by decide, by decide +kernel, by decide +kernel, by decide +kernel⟩
set_option maxRecDepth 20000 in
theorem miX12_rulePart : oMv yX12_rulePart cX12_rulePart 1 (some .int) 0 RX12 := ⟨otb 1722 rfl rfl, otb 1721 (by decide +kernel) rfl, otb 73 (by decide +kernel) rfl, inX12, by decide, by decide +kernel, by decide +kernel, by decide +kernel⟩
set_option maxRecDepth 20000 in
theorem miX12_mottoPart : oMv yX12_mottoPart cX12_mottoPart 1 (some .int) 0 RX12 := ⟨otb 1718 rfl rfl, otb 1717 (by decide +kernel) rfl, otb 72 (by decide +kernel) rfl, inX12, by decide, by decide +kernel, by decide +kernel, by decide +kernel⟩
set_option maxRecDepth 20000 in
theorem miX12_goesOn : oMv yX12_goesOn cX12_goesOn 2 (some .boolean) 0 RX12 := ⟨otb 1726 rfl rfl, otb 1725 (by decide +kernel) rfl, otb 74 (by decide +kernel) rfl, inX12, by decide, by decide +kernel, by decide +kernel, by decide +kernel⟩
set_option maxRecDepth 20000 in
theorem miX12_sums : oMv yX12_sums cX12_sums 3 none 0 RX12 := ⟨otb 1710 rfl rfl, otb 1709 (by decide +kernel) rfl, otb 70 (by decide +kernel) rfl, inX12, by decide, by decide +kernel, by decide +kernel, by decide +kernel⟩
set_option maxRecDepth 20000 in
theorem miX12_fact : oMv yX12_fact cX12_fact 2 none 0 RX12 := ⟨otb 1702 rfl rfl, otb 1701 (by decide +kernel) rfl, otb 68 (by decide +kernel) rfl, inX12, by decide, by decide +kernel, by decide +kernel, by decide +kernel⟩
set_option maxRecDepth 20000 in
theorem miX12_hasSquare : oMv yX12_hasSquare cX12_hasSquare 2 (some .boolean) 0 RX12 := ⟨otb 1758 rfl rfl, otb 1757 (by decide +kernel) rfl, otb 82 (by decide +kernel) rfl, inX12, by decide, by decide +kernel, by decide +kernel, by decide +kernel⟩
set_option maxRecDepth 20000 in
theorem miX12_dropsNots : oMv yX12_dropsNots cX12_dropsNots 1 none 0 RX12 := ⟨otb 1750 rfl rfl, otb 1749 (by decide +kernel) rfl, otb 80 (by decide +kernel) rfl, inX12, by decide, by decide +kernel, by decide +kernel, by decide +kernel⟩
set_option maxRecDepth 20000 in
theorem miX12_test : oMv yX12_test cX12_test 3 none 0 RX12 := ⟨otb 1694 rfl rfl, otb 1693 (by decide +kernel) rfl, otb 66 (by decide +kernel) rfl, inX12, by decide, by decide +kernel, by decide +kernel, by decide +kernel⟩
set_option maxRecDepth 20000 in
theorem miX12_goesOnTest : oMv yX12_goesOnTest cX12_goesOnTest 1 (some .boolean) 0 RX12 := ⟨otb 1754 rfl rfl, otb 1753 (by decide +kernel) rfl, otb 81 (by decide +kernel) rfl, inX12, by decide, by decide +kernel, by decide +kernel, by decide +kernel⟩
set_option maxRecDepth 20000 in
theorem miX12_testTold : oMv yX12_testTold cX12_testTold 3 none 1 RX12 := ⟨otb 1690 rfl rfl, otb 1689 (by decide +kernel) rfl, otb 65 (by decide +kernel) rfl, inX12, by decide, by decide +kernel, by decide +kernel, by decide +kernel⟩
set_option maxRecDepth 20000 in
theorem miX12_ruleTold : oMv yX12_ruleTold cX12_ruleTold 2 none 1 RX12 := ⟨otb 1686 rfl rfl, otb 1685 (by decide +kernel) rfl, otb 64 (by decide +kernel) rfl, inX12, by decide, by decide +kernel, by decide +kernel, by decide +kernel⟩
set_option maxRecDepth 20000 in
theorem miX12_mottoTold : oMv yX12_mottoTold cX12_mottoTold 5 none 1 RX12 := ⟨otb 1762 rfl rfl, otb 1761 (by decide +kernel) rfl, otb 83 (by decide +kernel) rfl, inX12, by decide, by decide +kernel, by decide +kernel, by decide +kernel⟩
set_option maxRecDepth 20000 in
theorem miX12_bookTold : oMv yX12_bookTold cX12_bookTold 2 none 0 RX12 := ⟨otb 1682 rfl rfl, otb 1681 (by decide +kernel) rfl, otb 63 (by decide +kernel) rfl, inX12, by decide, by decide +kernel, by decide +kernel, by decide +kernel⟩
set_option maxRecDepth 20000 in
theorem miX12_book : oMv yX12_book cX12_book 2 (some .int) 0 RX12 := ⟨otb 1678 rfl rfl, otb 1676 (by decide +kernel) rfl, otb 1677 (by decide +kernel) rfl, inX12, by decide, by decide +kernel, by decide +kernel, by decide +kernel⟩
set_option maxRecDepth 20000 in
theorem miX12_fault : oMv yX12_fault cX12_fault 2 (some .int) 1 RX12 := ⟨otb 1776 rfl rfl, otb 1774 (by decide +kernel) rfl, otb 1775 (by decide +kernel) rfl, inX12, by decide, by decide +kernel, by decide +kernel, by decide +kernel⟩
set_option maxRecDepth 20000 in
theorem miX12_clip : oMs yX12_clip cX12_clip 2 (some .long) 1 := ⟨otb 1894 rfl rfl, otb 1893 (by decide +kernel) rfl, inX12, by decide, by decide +kernel, by decide +kernel, by decide +kernel⟩
set_option maxRecDepth 20000 in
theorem miX12_floor : oMs yX12_floor cX12_floor 6 (some .long) 2 := ⟨otb 1899 rfl rfl, otb 1898 (by decide +kernel) rfl, inX12, by decide, by decide +kernel, by decide +kernel, by decide +kernel⟩
set_option maxRecDepth 20000 in
theorem miX12_puts : oMv yX12_puts cX12_puts 3 none 1 RX12 := ⟨otb 1887 rfl rfl, otb 1886 (by decide +kernel) rfl, otb 97 (by decide +kernel) rfl, inX12, by decide, by decide +kernel, by decide +kernel, by decide +kernel⟩
set_option maxRecDepth 20000 in
theorem miX12_joins : oMv yX12_joins cX12_joins 6 none 1 RX12 := ⟨otb 1891 rfl rfl, otb 1890 (by decide +kernel) rfl, otb 98 (by decide +kernel) rfl, inX12, by decide, by decide +kernel, by decide +kernel, by decide +kernel⟩
set_option maxRecDepth 20000 in
theorem miX12_holds : oMv yX12_holds cX12_holds 6 (some .boolean) 2 RX12 := ⟨otb 1883 rfl rfl, otb 1882 (by decide +kernel) rfl, otb 96 (by decide +kernel) rfl, inX12, by decide, by decide +kernel, by decide +kernel, by decide +kernel⟩
set_option maxRecDepth 20000 in
theorem miX12_has : oMv yX12_has cX12_has 4 (some .int) 1 RX12 := ⟨otb 1780 rfl rfl, otb 1778 (by decide +kernel) rfl, otb 1779 (by decide +kernel) rfl, inX12, by decide, by decide +kernel, by decide +kernel, by decide +kernel⟩
set_option maxRecDepth 20000 in
theorem miX12_letter : oMv yX12_letter cX12_letter 8 (some .int) 2 RX12 := ⟨otb 1784 rfl rfl, otb 1782 (by decide +kernel) rfl, otb 1783 (by decide +kernel) rfl, inX12, by decide, by decide +kernel, by decide +kernel, by decide +kernel⟩
set_option maxRecDepth 20000 in
theorem miX12_note : oMv yX12_note cX12_note 5 (some .int) 2 RX12 := ⟨otb 1789 rfl rfl, otb 1787 (by decide +kernel) rfl, otb 1788 (by decide +kernel) rfl, inX12, by decide, by decide +kernel, by decide +kernel, by decide +kernel⟩
set_option maxRecDepth 20000 in
theorem miX12_isCode : oMs yX12_isCode cX12_isCode 1 (some .boolean) 1 := ⟨otb 1807 rfl rfl, otb 1806 (by decide +kernel) rfl, inX12, by decide, by decide +kernel, by decide +kernel, by decide +kernel⟩
set_option maxRecDepth 20000 in
theorem miX12_delayOf : oMs yX12_delayOf cX12_delayOf 1 (some .int) 1 := ⟨otb 1812 rfl rfl, otb 1811 (by decide +kernel) rfl, inX12, by decide, by decide +kernel, by decide +kernel, by decide +kernel⟩
set_option maxRecDepth 20000 in
theorem miX12_highOf : oMs yX12_highOf cX12_highOf 1 (some .int) 1 := ⟨otb 1815 rfl rfl, otb 1814 (by decide +kernel) rfl, inX12, by decide, by decide +kernel, by decide +kernel, by decide +kernel⟩
set_option maxRecDepth 20000 in
theorem miX12_mirrorOf : oMs yX12_mirrorOf cX12_mirrorOf 1 (some .int) 1 := ⟨otb 1818 rfl rfl, otb 1817 (by decide +kernel) rfl, inX12, by decide, by decide +kernel, by decide +kernel, by decide +kernel⟩
set_option maxRecDepth 20000 in
theorem miX12_backOf : oMs yX12_backOf cX12_backOf 1 (some .int) 1 := ⟨otb 1821 rfl rfl, otb 1820 (by decide +kernel) rfl, inX12, by decide, by decide +kernel, by decide +kernel, by decide +kernel⟩
set_option maxRecDepth 20000 in
theorem miX12_paceOf : oMs yX12_paceOf cX12_paceOf 1 (some .int) 1 := ⟨otb 1824 rfl rfl, otb 1823 (by decide +kernel) rfl, inX12, by decide, by decide +kernel, by decide +kernel, by decide +kernel⟩
set_option maxRecDepth 20000 in
theorem miX12_codeOf : oMs yX12_codeOf cX12_codeOf 5 (some .int) 5 := ⟨otb 1800 rfl rfl, otb 1799 (by decide +kernel) rfl, inX12, by decide, by decide +kernel, by decide +kernel, by decide +kernel⟩
set_option maxRecDepth 20000 in
theorem miX12_canBe : oMv yX12_canBe cX12_canBe 3 (some .boolean) 1 RX12 := ⟨otb 1828 rfl rfl, otb 1827 (by decide +kernel) rfl, otb 86 (by decide +kernel) rfl, inX12, by decide, by decide +kernel, by decide +kernel, by decide +kernel⟩
set_option maxRecDepth 20000 in
theorem miX12_overAt : oMv yX12_overAt cX12_overAt 3 (some .int) 1 RX12 := ⟨otb 1832 rfl rfl, otb 1831 (by decide +kernel) rfl, otb 87 (by decide +kernel) rfl, inX12, by decide, by decide +kernel, by decide +kernel, by decide +kernel⟩
set_option maxRecDepth 20000 in
theorem miX12_noteAt : oMv yX12_noteAt cX12_noteAt 5 (some .int) 2 RX12 := ⟨otb 1845 rfl rfl, otb 1844 (by decide +kernel) rfl, otb 89 (by decide +kernel) rfl, inX12, by decide, by decide +kernel, by decide +kernel, by decide +kernel⟩
set_option maxRecDepth 20000 in
theorem miX12_stepBy : oMv yX12_stepBy cX12_stepBy 4 (some .int) 2 RX12 := ⟨otb 1849 rfl rfl, otb 1848 (by decide +kernel) rfl, otb 90 (by decide +kernel) rfl, inX12, by decide, by decide +kernel, by decide +kernel, by decide +kernel⟩
set_option maxRecDepth 20000 in
theorem miX12_singsIn : oMv yX12_singsIn cX12_singsIn 3 (some .int) 2 RX12 := ⟨otb 1841 rfl rfl, otb 1840 (by decide +kernel) rfl, otb 88 (by decide +kernel) rfl, inX12, by decide, by decide +kernel, by decide +kernel, by decide +kernel⟩
set_option maxRecDepth 20000 in
theorem miX12_code : oMv yX12_code cX12_code 7 (some .int) 5 RX12 := ⟨otb 1793 rfl rfl, otb 1791 (by decide +kernel) rfl, otb 1792 (by decide +kernel) rfl, inX12, by decide, by decide +kernel, by decide +kernel, by decide +kernel⟩
set_option maxRecDepth 20000 in
theorem miX12_follower : oMv yX12_follower cX12_follower 3 (some .int) 2 RX12 := ⟨otb 1804 rfl rfl, otb 1802 (by decide +kernel) rfl, otb 1803 (by decide +kernel) rfl, inX12, by decide, by decide +kernel, by decide +kernel, by decide +kernel⟩
set_option maxRecDepth 20000 in
theorem miX12_sings : oMv yX12_sings cX12_sings 3 (some .int) 2 RX12 := ⟨otb 1836 rfl rfl, otb 1834 (by decide +kernel) rfl, otb 1835 (by decide +kernel) rfl, inX12, by decide, by decide +kernel, by decide +kernel, by decide +kernel⟩
set_option maxRecDepth 20000 in
theorem miX12_apart : oMs yX12_apart cX12_apart 2 (some .int) 2 := ⟨otb 1875 rfl rfl, otb 1874 (by decide +kernel) rfl, inX12, by decide, by decide +kernel, by decide +kernel, by decide +kernel⟩
set_option maxRecDepth 20000 in
theorem miX12_asksAll : oMv yX12_asksAll cX12_asksAll 3 none 2 RX12 := ⟨otb 1872 rfl rfl, otb 1871 (by decide +kernel) rfl, otb 94 (by decide +kernel) rfl, inX12, by decide, by decide +kernel, by decide +kernel, by decide +kernel⟩
set_option maxRecDepth 20000 in
theorem miX12_firstRule : oMv yX12_firstRule cX12_firstRule 2 (some .int) 0 RX12 := ⟨otb 1879 rfl rfl, otb 1878 (by decide +kernel) rfl, otb 95 (by decide +kernel) rfl, inX12, by decide, by decide +kernel, by decide +kernel, by decide +kernel⟩
set_option maxRecDepth 20000 in
theorem miX12_isFirst : oMs yX12_isFirst cX12_isFirst 2 (some .boolean) 2 := ⟨otb 1864 rfl rfl, otb 1863 (by decide +kernel) rfl, inX12, by decide, by decide +kernel, by decide +kernel, by decide +kernel⟩
set_option maxRecDepth 20000 in
theorem miX12_brokenBy : oMv yX12_brokenBy cX12_brokenBy 8 (some .int) 3 RX12 := ⟨otb 1868 rfl rfl, otb 1867 (by decide +kernel) rfl, otb 93 (by decide +kernel) rfl, inX12, by decide, by decide +kernel, by decide +kernel, by decide +kernel⟩
set_option maxRecDepth 20000 in
theorem miX12_breachOf : oMv yX12_breachOf cX12_breachOf 7 (some .int) 2 RX12 := ⟨otb 1861 rfl rfl, otb 1860 (by decide +kernel) rfl, otb 92 (by decide +kernel) rfl, inX12, by decide, by decide +kernel, by decide +kernel, by decide +kernel⟩
set_option maxRecDepth 20000 in
theorem miX12_areTwo : oMv yX12_areTwo cX12_areTwo 3 (some .boolean) 2 RX12 := ⟨otb 1857 rfl rfl, otb 1856 (by decide +kernel) rfl, otb 91 (by decide +kernel) rfl, inX12, by decide, by decide +kernel, by decide +kernel, by decide +kernel⟩
set_option maxRecDepth 20000 in
theorem miX12_breach : oMv yX12_breach cX12_breach 5 (some .int) 3 RX12 := ⟨otb 1853 rfl rfl, otb 1851 (by decide +kernel) rfl, otb 1852 (by decide +kernel) rfl, inX12, by decide, by decide +kernel, by decide +kernel, by decide +kernel⟩
set_option maxRecDepth 20000 in
theorem miX12_together : oMv yX12_together cX12_together 12 (some .int) 3 RX12 := ⟨otb 1903 rfl rfl, otb 1901 (by decide +kernel) rfl, otb 1902 (by decide +kernel) rfl, inX12, by decide, by decide +kernel, by decide +kernel, by decide +kernel⟩
set_option maxRecDepth 20000 in
theorem miX12_broken : oMv yX12_broken cX12_broken 9 (some .int) 3 RX12 := ⟨otb 1907 rfl rfl, otb 1905 (by decide +kernel) rfl, otb 1906 (by decide +kernel) rfl, inX12, by decide, by decide +kernel, by decide +kernel, by decide +kernel⟩
set_option maxRecDepth 20000 in
theorem miX12_span : oMv yX12_span cX12_span 6 (some .int) 2 RX12 := ⟨otb 1911 rfl rfl, otb 1909 (by decide +kernel) rfl, otb 1910 (by decide +kernel) rfl, inX12, by decide, by decide +kernel, by decide +kernel, by decide +kernel⟩
set_option maxRecDepth 20000 in
theorem miX12_isBound : oMv yX12_isBound cX12_isBound 2 (some .boolean) 1 RX12 := ⟨otb 1920 rfl rfl, otb 1919 (by decide +kernel) rfl, otb 99 (by decide +kernel) rfl, inX12, by decide, by decide +kernel, by decide +kernel, by decide +kernel⟩
set_option maxRecDepth 20000 in
theorem miX12_waysNow : oMv yX12_waysNow cX12_waysNow 3 (some .int) 0 RX12 := ⟨otb 1937 rfl rfl, otb 1936 (by decide +kernel) rfl, otb 102 (by decide +kernel) rfl, inX12, by decide, by decide +kernel, by decide +kernel, by decide +kernel⟩
set_option maxRecDepth 20000 in
theorem miX12_knows : oMv yX12_knows cX12_knows 5 none 0 RX12 := ⟨otb 1933 rfl rfl, otb 1932 (by decide +kernel) rfl, otb 101 (by decide +kernel) rfl, inX12, by decide, by decide +kernel, by decide +kernel, by decide +kernel⟩
set_option maxRecDepth 20000 in
theorem miX12_chosen : oMv yX12_chosen cX12_chosen 1 (some .int) 0 RX12 := ⟨otb 1941 rfl rfl, otb 1940 (by decide +kernel) rfl, otb 103 (by decide +kernel) rfl, inX12, by decide, by decide +kernel, by decide +kernel, by decide +kernel⟩
set_option maxRecDepth 20000 in
theorem miX12_bounds : oMv yX12_bounds cX12_bounds 6 (some .int) 3 RX12 := ⟨otb 1915 rfl rfl, otb 1913 (by decide +kernel) rfl, otb 1914 (by decide +kernel) rfl, inX12, by decide, by decide +kernel, by decide +kernel, by decide +kernel⟩
set_option maxRecDepth 20000 in
theorem miX12_picks : oMv yX12_picks cX12_picks 7 (some .int) 2 RX12 := ⟨otb 1929 rfl rfl, otb 1928 (by decide +kernel) rfl, otb 100 (by decide +kernel) rfl, inX12, by decide, by decide +kernel, by decide +kernel, by decide +kernel⟩
set_option maxRecDepth 20000 in
theorem miX12_ways : oMv yX12_ways cX12_ways 2 (some .int) 1 RX12 := ⟨otb 1924 rfl rfl, otb 1922 (by decide +kernel) rfl, otb 1923 (by decide +kernel) rfl, inX12, by decide, by decide +kernel, by decide +kernel, by decide +kernel⟩
set_option maxRecDepth 20000 in
theorem miX12_isWayOf : oMv yX12_isWayOf cX12_isWayOf 3 (some .boolean) 2 RX12 := ⟨otb 1949 rfl rfl, otb 1948 (by decide +kernel) rfl, otb 104 (by decide +kernel) rfl, inX12, by decide, by decide +kernel, by decide +kernel, by decide +kernel⟩
set_option maxRecDepth 20000 in
theorem miX12_way : oMv yX12_way cX12_way 5 (some .int) 3 RX12 := ⟨otb 1945 rfl rfl, otb 1943 (by decide +kernel) rfl, otb 1944 (by decide +kernel) rfl, inX12, by decide, by decide +kernel, by decide +kernel, by decide +kernel⟩
set_option maxRecDepth 20000 in
theorem miX12_isWay : oMv yX12_isWay cX12_isWay 2 (some .boolean) 1 RX12 := ⟨otb 1957 rfl rfl, otb 1956 (by decide +kernel) rfl, otb 105 (by decide +kernel) rfl, inX12, by decide, by decide +kernel, by decide +kernel, by decide +kernel⟩
set_option maxRecDepth 20000 in
theorem miX12_isLike : oMs yX12_isLike cX12_isLike 3 (some .boolean) 3 := ⟨otb 1967 rfl rfl, otb 1966 (by decide +kernel) rfl, inX12, by decide, by decide +kernel, by decide +kernel, by decide +kernel⟩
set_option maxRecDepth 20000 in
theorem miX12_likeMany : oMv yX12_likeMany cX12_likeMany 5 (some .int) 2 RX12 := ⟨otb 1964 rfl rfl, otb 1963 (by decide +kernel) rfl, otb 106 (by decide +kernel) rfl, inX12, by decide, by decide +kernel, by decide +kernel, by decide +kernel⟩
set_option maxRecDepth 20000 in
theorem miX12_bits : oMs yX12_bits cX12_bits 3 (some .int) 1 := ⟨otb 1960 rfl rfl, otb 1959 (by decide +kernel) rfl, inX12, by decide, by decide +kernel, by decide +kernel, by decide +kernel⟩
set_option maxRecDepth 20000 in
theorem miX12_signs : oMv yX12_signs cX12_signs 4 (some .int) 1 RX12 := ⟨otb 1953 rfl rfl, otb 1951 (by decide +kernel) rfl, otb 1952 (by decide +kernel) rfl, inX12, by decide, by decide +kernel, by decide +kernel, by decide +kernel⟩
set_option maxRecDepth 20000 in
theorem miX12_like : oMv yX12_like cX12_like 3 (some .int) 2 RX12 := ⟨otb 1971 rfl rfl, otb 1969 (by decide +kernel) rfl, otb 1970 (by decide +kernel) rfl, inX12, by decide, by decide +kernel, by decide +kernel, by decide +kernel⟩
set_option maxRecDepth 20000 in
theorem miX12_isMeant : oMv yX12_isMeant cX12_isMeant 3 (some .boolean) 2 RX12 := ⟨otb 1984 rfl rfl, otb 1983 (by decide +kernel) rfl, otb 108 (by decide +kernel) rfl, inX12, by decide, by decide +kernel, by decide +kernel, by decide +kernel⟩
set_option maxRecDepth 20000 in
theorem miX12_isOfMottos : oMv yX12_isOfMottos cX12_isOfMottos 2 (some .boolean) 1 RX12 := ⟨otb 1980 rfl rfl, otb 1979 (by decide +kernel) rfl, otb 107 (by decide +kernel) rfl, inX12, by decide, by decide +kernel, by decide +kernel, by decide +kernel⟩
set_option maxRecDepth 20000 in
theorem miX12_means : oMv yX12_means cX12_means 5 (some .int) 2 RX12 := ⟨otb 1976 rfl rfl, otb 1974 (by decide +kernel) rfl, otb 1975 (by decide +kernel) rfl, inX12, by decide, by decide +kernel, by decide +kernel, by decide +kernel⟩
set_option maxRecDepth 20000 in
theorem miX12_isMeantByAll : oMv yX12_isMeantByAll cX12_isMeantByAll 4 (some .boolean) 2 RX12 := ⟨otb 1996 rfl rfl, otb 1995 (by decide +kernel) rfl, otb 110 (by decide +kernel) rfl, inX12, by decide, by decide +kernel, by decide +kernel, by decide +kernel⟩
set_option maxRecDepth 20000 in
theorem miX12_meanMany : oMv yX12_meanMany cX12_meanMany 4 (some .int) 1 RX12 := ⟨otb 1992 rfl rfl, otb 1991 (by decide +kernel) rfl, otb 109 (by decide +kernel) rfl, inX12, by decide, by decide +kernel, by decide +kernel, by decide +kernel⟩
set_option maxRecDepth 20000 in
theorem miX12_mean : oMv yX12_mean cX12_mean 2 (some .int) 1 RX12 := ⟨otb 1988 rfl rfl, otb 1986 (by decide +kernel) rfl, otb 1987 (by decide +kernel) rfl, inX12, by decide, by decide +kernel, by decide +kernel, by decide +kernel⟩
set_option maxRecDepth 20000 in
theorem miX12_mottos : oMv yX12_mottos cX12_mottos 4 (some .int) 1 RX12 := ⟨otb 2000 rfl rfl, otb 1998 (by decide +kernel) rfl, otb 1999 (by decide +kernel) rfl, inX12, by decide, by decide +kernel, by decide +kernel, by decide +kernel⟩
set_option maxRecDepth 20000 in
theorem miX12_common : oMv yX12_common cX12_common 5 (some .int) 1 RX12 := ⟨otb 2004 rfl rfl, otb 2002 (by decide +kernel) rfl, otb 2003 (by decide +kernel) rfl, inX12, by decide, by decide +kernel, by decide +kernel, by decide +kernel⟩
set_option maxRecDepth 20000 in
theorem miX12_over : oMv yX12_over cX12_over 7 (some .int) 2 RX12 := ⟨otb 2009 rfl rfl, otb 2007 (by decide +kernel) rfl, otb 2008 (by decide +kernel) rfl, inX12, by decide, by decide +kernel, by decide +kernel, by decide +kernel⟩
set_option maxRecDepth 20000 in
theorem miX12_areAlike : oMv yX12_areAlike cX12_areAlike 5 (some .boolean) 2 RX12 := ⟨otb 2021 rfl rfl, otb 2020 (by decide +kernel) rfl, otb 112 (by decide +kernel) rfl, inX12, by decide, by decide +kernel, by decide +kernel, by decide +kernel⟩
set_option maxRecDepth 20000 in
theorem miX12_alikeTo : oMv yX12_alikeTo cX12_alikeTo 3 (some .int) 1 RX12 := ⟨otb 2017 rfl rfl, otb 2016 (by decide +kernel) rfl, otb 111 (by decide +kernel) rfl, inX12, by decide, by decide +kernel, by decide +kernel, by decide +kernel⟩
set_option maxRecDepth 20000 in
theorem miX12_alike : oMv yX12_alike cX12_alike 2 (some .int) 1 RX12 := ⟨otb 2013 rfl rfl, otb 2011 (by decide +kernel) rfl, otb 2012 (by decide +kernel) rfl, inX12, by decide, by decide +kernel, by decide +kernel, by decide +kernel⟩
set_option maxRecDepth 20000 in
theorem miX12_unlike : oMv yX12_unlike cX12_unlike 3 (some .int) 0 RX12 := ⟨otb 2025 rfl rfl, otb 2023 (by decide +kernel) rfl, otb 2024 (by decide +kernel) rfl, inX12, by decide, by decide +kernel, by decide +kernel, by decide +kernel⟩
set_option maxRecDepth 20000 in
theorem miX12_rule : oMv yX12_rule cX12_rule 6 (some .int) 2 RX12 := ⟨otb 2029 rfl rfl, otb 2027 (by decide +kernel) rfl, otb 2028 (by decide +kernel) rfl, inX12, by decide, by decide +kernel, by decide +kernel, by decide +kernel⟩
set_option maxRecDepth 20000 in
theorem miX12_meant : oMv yX12_meant cX12_meant 7 (some .int) 2 RX12 := ⟨otb 2033 rfl rfl, otb 2031 (by decide +kernel) rfl, otb 2032 (by decide +kernel) rfl, inX12, by decide, by decide +kernel, by decide +kernel, by decide +kernel⟩
set_option maxRecDepth 20000 in
theorem miX12_within : oMs yX12_within cX12_within 2 (some .int) 2 := ⟨otb 2045 rfl rfl, otb 2044 (by decide +kernel) rfl, inX12, by decide, by decide +kernel, by decide +kernel, by decide +kernel⟩
set_option maxRecDepth 20000 in
theorem miX12_roundNote : oMv yX12_roundNote cX12_roundNote 4 (some .int) 2 RX12 := ⟨otb 2042 rfl rfl, otb 2041 (by decide +kernel) rfl, otb 113 (by decide +kernel) rfl, inX12, by decide, by decide +kernel, by decide +kernel, by decide +kernel⟩
set_option maxRecDepth 20000 in
theorem miX12_round : oMv yX12_round cX12_round 7 (some .int) 1 RX12 := ⟨otb 2038 rfl rfl, otb 2036 (by decide +kernel) rfl, otb 2037 (by decide +kernel) rfl, inX12, by decide, by decide +kernel, by decide +kernel, by decide +kernel⟩
set_option maxRecDepth 20000 in
theorem miX12_putsAside : oMv yX12_putsAside cX12_putsAside 2 none 0 RX12 := ⟨otb 2057 rfl rfl, otb 2056 (by decide +kernel) rfl, otb 114 (by decide +kernel) rfl, inX12, by decide, by decide +kernel, by decide +kernel, by decide +kernel⟩
set_option maxRecDepth 20000 in
theorem miX12_takesBack : oMv yX12_takesBack cX12_takesBack 2 none 0 RX12 := ⟨otb 2073 rfl rfl, otb 2072 (by decide +kernel) rfl, otb 118 (by decide +kernel) rfl, inX12, by decide, by decide +kernel, by decide +kernel, by decide +kernel⟩
set_option maxRecDepth 20000 in
theorem miX12_firstLine : oMv yX12_firstLine cX12_firstLine 4 (some .boolean) 2 RX12 := ⟨otb 2065 rfl rfl, otb 2064 (by decide +kernel) rfl, otb 116 (by decide +kernel) rfl, inX12, by decide, by decide +kernel, by decide +kernel, by decide +kernel⟩
set_option maxRecDepth 20000 in
theorem miX12_nextLine : oMv yX12_nextLine cX12_nextLine 4 (some .boolean) 1 RX12 := ⟨otb 2069 rfl rfl, otb 2068 (by decide +kernel) rfl, otb 117 (by decide +kernel) rfl, inX12, by decide, by decide +kernel, by decide +kernel, by decide +kernel⟩
set_option maxRecDepth 20000 in
theorem miX12_makes : oMv yX12_makes cX12_makes 5 (some .boolean) 3 RX12 := ⟨otb 2061 rfl rfl, otb 2060 (by decide +kernel) rfl, otb 115 (by decide +kernel) rfl, inX12, by decide, by decide +kernel, by decide +kernel, by decide +kernel⟩
set_option maxRecDepth 20000 in
theorem miX12_isFollower : oMs yX12_isFollower cX12_isFollower 1 (some .boolean) 1 := ⟨otb 2052 rfl rfl, otb 2051 (by decide +kernel) rfl, inX12, by decide, by decide +kernel, by decide +kernel, by decide +kernel⟩
set_option maxRecDepth 20000 in
theorem miX12_make : oMv yX12_make cX12_make 4 (some .int) 3 RX12 := ⟨otb 2049 rfl rfl, otb 2047 (by decide +kernel) rfl, otb 2048 (by decide +kernel) rfl, inX12, by decide, by decide +kernel, by decide +kernel, by decide +kernel⟩
set_option maxRecDepth 20000 in
theorem miX12_shortest : oMv yX12_shortest cX12_shortest 5 (some .int) 2 RX12 := ⟨otb 2077 rfl rfl, otb 2075 (by decide +kernel) rfl, otb 2076 (by decide +kernel) rfl, inX12, by decide, by decide +kernel, by decide +kernel, by decide +kernel⟩
set_option maxRecDepth 20000 in
theorem miX12_richest : oMv yX12_richest cX12_richest 8 (some .int) 3 RX12 := ⟨otb 2081 rfl rfl, otb 2079 (by decide +kernel) rfl, otb 2080 (by decide +kernel) rfl, inX12, by decide, by decide +kernel, by decide +kernel, by decide +kernel⟩
set_option maxRecDepth 20000 in
theorem miX12_wrong : oMv yX12_wrong cX12_wrong 7 (some .int) 2 RX12 := ⟨otb 2085 rfl rfl, otb 2083 (by decide +kernel) rfl, otb 2084 (by decide +kernel) rfl, inX12, by decide, by decide +kernel, by decide +kernel, by decide +kernel⟩
set_option maxRecDepth 20000 in
theorem miX12_change : oMv yX12_change cX12_change 4 (some .int) 2 RX12 := ⟨otb 2089 rfl rfl, otb 2087 (by decide +kernel) rfl, otb 2088 (by decide +kernel) rfl, inX12, by decide, by decide +kernel, by decide +kernel, by decide +kernel⟩
set_option maxRecDepth 20000 in
theorem miX12_drawOf : oMv yX12_drawOf cX12_drawOf 2 (some .int) 1 RX12 := ⟨otb 2098 rfl rfl, otb 2097 (by decide +kernel) rfl, otb 119 (by decide +kernel) rfl, inX12, by decide, by decide +kernel, by decide +kernel, by decide +kernel⟩
set_option maxRecDepth 20000 in
theorem miX12_draw : oMv yX12_draw cX12_draw 6 (some .int) 3 RX12 := ⟨otb 2094 rfl rfl, otb 2092 (by decide +kernel) rfl, otb 2093 (by decide +kernel) rfl, inX12, by decide, by decide +kernel, by decide +kernel, by decide +kernel⟩
set_option maxRecDepth 20000 in
theorem miX12_writes : oMv yX12_writes cX12_writes 2 none 1 RX12 := ⟨otb 2110 rfl rfl, otb 2109 (by decide +kernel) rfl, otb 120 (by decide +kernel) rfl, inX12, by decide, by decide +kernel, by decide +kernel, by decide +kernel⟩
set_option maxRecDepth 20000 in
theorem miX12_checked : oMs yX12_checked cX12_checked 4 (some .int) 2 := ⟨otb 2113 rfl rfl, otb 2112 (by decide +kernel) rfl, inX12, by decide, by decide +kernel, by decide +kernel, by decide +kernel⟩
set_option maxRecDepth 20000 in
theorem miX12_image : oMv yX12_image cX12_image 2 (some .int) 0 RX12 := ⟨otb 2106 rfl rfl, otb 2104 (by decide +kernel) rfl, otb 2105 (by decide +kernel) rfl, inX12, by decide, by decide +kernel, by decide +kernel, by decide +kernel⟩
set_option maxRecDepth 20000 in
theorem miX12_octet : oMv yX12_octet cX12_octet 2 (some .int) 1 RX12 := ⟨otb 2117 rfl rfl, otb 2115 (by decide +kernel) rfl, otb 2116 (by decide +kernel) rfl, inX12, by decide, by decide +kernel, by decide +kernel, by decide +kernel⟩
set_option maxRecDepth 20000 in
theorem miX12_isTold : oMv yX12_isTold cX12_isTold 4 (some .boolean) 1 RX12 := ⟨otb 2125 rfl rfl, otb 2124 (by decide +kernel) rfl, otb 121 (by decide +kernel) rfl, inX12, by decide, by decide +kernel, by decide +kernel, by decide +kernel⟩
set_option maxRecDepth 20000 in
theorem miX12_on : oMv yX12_on cX12_on 3 (some .boolean) 0 RX12 := ⟨otb 2121 rfl rfl, otb 2119 (by decide +kernel) rfl, otb 2120 (by decide +kernel) rfl, inX12, by decide, by decide +kernel, by decide +kernel, by decide +kernel⟩
set_option maxRecDepth 20000 in
theorem miJ6_bitCount_0f7a4 : oMs yJ6_bitCount_0f7a4 cJ6_bitCount_0f7a4 1 (some .int) 1 := ⟨otb 1018 rfl rfl, otb 1017 (by decide +kernel) rfl, inJ6, by decide, by decide +kernel, by decide +kernel, by decide +kernel⟩
set_option maxRecDepth 20000 in
theorem miJ9_floorDiv_7cf53 : oMs yJ9_floorDiv_7cf53 cJ9_floorDiv_7cf53 3 (some .int) 2 := ⟨otb 1002 rfl rfl, otb 1001 (by decide +kernel) rfl, inJ9, by decide, by decide +kernel, by decide +kernel, by decide +kernel⟩
set_option maxRecDepth 20000 in
theorem miJ9_floorMod_7cf53 : oMs yJ9_floorMod_7cf53 cJ9_floorMod_7cf53 3 (some .int) 2 := ⟨otb 1064 rfl rfl, otb 1063 (by decide +kernel) rfl, inJ9, by decide, by decide +kernel, by decide +kernel, by decide +kernel⟩
set_option maxRecDepth 20000 in
theorem miJ9_abs_0f7a4 : oMs yJ9_abs_0f7a4 cJ9_abs_0f7a4 1 (some .int) 1 := ⟨otb 950 rfl rfl, otb 949 (by decide +kernel) rfl, inJ9, by decide, by decide +kernel, by decide +kernel, by decide +kernel⟩
set_option maxRecDepth 20000 in
theorem miJ9_max_7cf53 : oMs yJ9_max_7cf53 cJ9_max_7cf53 2 (some .int) 2 := ⟨otb 938 rfl rfl, otb 937 (by decide +kernel) rfl, inJ9, by decide, by decide +kernel, by decide +kernel, by decide +kernel⟩
set_option maxRecDepth 20000 in
theorem miJ9_min_7cf53 : oMs yJ9_min_7cf53 cJ9_min_7cf53 2 (some .int) 2 := ⟨otb 719 rfl rfl, otb 718 (by decide +kernel) rfl, inJ9, by decide, by decide +kernel, by decide +kernel, by decide +kernel⟩
set_option maxRecDepth 20000 in
theorem miJ0_length_8abf5 : oMv yJ0_length_8abf5 cJ0_length_8abf5 1 (some .int) 0 RJ0 := ⟨otb 653 rfl rfl, otb 651 (by decide +kernel) rfl, otb 652 (by decide +kernel) rfl, inJ0, by decide, by decide +kernel, by decide +kernel, by decide +kernel⟩
set_option maxRecDepth 20000 in
theorem miJ0_charAt_5068e : oMv yJ0_charAt_5068e cJ0_charAt_5068e 2 (some .char) 1 RJ0 := ⟨otb 663 rfl rfl, otb 661 (by decide +kernel) rfl, otb 662 (by decide +kernel) rfl, inJ0, by decide, by decide +kernel, by decide +kernel, by decide +kernel⟩
set_option maxRecDepth 20000 in
theorem miJ0_coder_7d493 : oMv yJ0_coder_7d493 cJ0_coder_7d493 1 (some .byte) 0 RJ0 := ⟨otb 657 rfl rfl, otb 655 (by decide +kernel) rfl, otb 656 (by decide +kernel) rfl, inJ0, by decide, by decide +kernel, by decide +kernel, by decide +kernel⟩
set_option maxRecDepth 20000 in
theorem miJ0_isLatin1_aae02 : oMv yJ0_isLatin1_aae02 cJ0_isLatin1_aae02 1 (some .boolean) 0 RJ0 := ⟨otb 667 rfl rfl, otb 665 (by decide +kernel) rfl, otb 666 (by decide +kernel) rfl, inJ0, by decide, by decide +kernel, by decide +kernel, by decide +kernel⟩
set_option maxRecDepth 20000 in
theorem miJ0_checkIndex_df160 : oMs yJ0_checkIndex_df160 cJ0_checkIndex_df160 2 none 2 := ⟨otb 673 rfl rfl, otb 672 (by decide +kernel) rfl, inJ0, by decide, by decide +kernel, by decide +kernel, by decide +kernel⟩
set_option maxRecDepth 20000 in
theorem miJ1_charAt_3b067 : oMs yJ1_charAt_3b067 cJ1_charAt_3b067 2 (some .char) 2 := ⟨otb 670 rfl rfl, otb 669 (by decide +kernel) rfl, inJ1, by decide, by decide +kernel, by decide +kernel, by decide +kernel⟩
set_option maxRecDepth 20000 in
theorem miJ2_getChar_3b067 : oMs yJ2_getChar_3b067 cJ2_getChar_3b067 2 (some .char) 2 := ⟨otb 691 rfl rfl, otb 690 (by decide +kernel) rfl, inJ2, by decide, by decide +kernel, by decide +kernel, by decide +kernel⟩
set_option maxRecDepth 20000 in
theorem miJ2_length_9d52b : oMs yJ2_length_9d52b cJ2_length_9d52b 1 (some .int) 1 := ⟨otb 687 rfl rfl, otb 686 (by decide +kernel) rfl, inJ2, by decide, by decide +kernel, by decide +kernel, by decide +kernel⟩
set_option maxRecDepth 20000 in
theorem miJ2_charAt_3b067 : oMs yJ2_charAt_3b067 cJ2_charAt_3b067 2 (some .char) 2 := ⟨otb 681 rfl rfl, otb 680 (by decide +kernel) rfl, inJ2, by decide, by decide +kernel, by decide +kernel, by decide +kernel⟩
set_option maxRecDepth 20000 in
theorem miJ2_checkIndex_2214a : oMs yJ2_checkIndex_2214a cJ2_checkIndex_2214a 2 none 2 := ⟨otb 684 rfl rfl, otb 683 (by decide +kernel) rfl, inJ2, by decide, by decide +kernel, by decide +kernel, by decide +kernel⟩
set_option maxRecDepth 20000 in
theorem miJ7_fill_53178 : oMs yJ7_fill_53178 cJ7_fill_53178 4 none 2 := ⟨otb 304 rfl rfl, otb 303 (by decide +kernel) rfl, inJ7, by decide, by decide +kernel, by decide +kernel, by decide +kernel⟩
set_option maxRecDepth 20000 in
theorem miJ3_checkIndex_8e157 : oMs yJ3_checkIndex_8e157 cJ3_checkIndex_8e157 3 (some .int) 3 := ⟨otb 678 rfl rfl, otb 677 (by decide +kernel) rfl, inJ3, by decide, by decide +kernel, by decide +kernel, by decide +kernel⟩
