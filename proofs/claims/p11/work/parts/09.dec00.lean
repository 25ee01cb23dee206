theorem dX0_init_0 : decode cX0_init 0 = .ok (.aload_n 0, 1) := by decide +kernel
theorem dX0_init_1 : decode cX0_init 1 = .ok (.invokespecial 3, 3) := by decide +kernel
theorem dX0_init_4 : decode cX0_init 4 = .ok (.aload_n 0, 1) := by decide +kernel
theorem dX0_init_5 : decode cX0_init 5 = .ok (.sipush 1600, 3) := by decide +kernel
theorem dX0_init_8 : decode cX0_init 8 = .ok (.newarray .int, 2) := by decide +kernel
theorem dX0_init_10 : decode cX0_init 10 = .ok (.putfield 11, 3) := by decide +kernel
theorem dX0_init_13 : decode cX0_init 13 = .ok (.aload_n 0, 1) := by decide +kernel
theorem dX0_init_14 : decode cX0_init 14 = .ok (.bipush 18, 2) := by decide +kernel
theorem dX0_init_16 : decode cX0_init 16 = .ok (.newarray .int, 2) := by decide +kernel
theorem dX0_init_18 : decode cX0_init 18 = .ok (.putfield 17, 3) := by decide +kernel
theorem dX0_init_21 : decode cX0_init 21 = .ok (.aload_n 0, 1) := by decide +kernel
theorem dX0_init_22 : decode cX0_init 22 = .ok (.bipush 18, 2) := by decide +kernel
theorem dX0_init_24 : decode cX0_init 24 = .ok (.newarray .int, 2) := by decide +kernel
theorem dX0_init_26 : decode cX0_init 26 = .ok (.putfield 20, 3) := by decide +kernel
theorem dX0_init_29 : decode cX0_init 29 = .ok (.aload_n 0, 1) := by decide +kernel
theorem dX0_init_30 : decode cX0_init 30 = .ok (.bipush 36, 2) := by decide +kernel
theorem dX0_init_32 : decode cX0_init 32 = .ok (.newarray .int, 2) := by decide +kernel
theorem dX0_init_34 : decode cX0_init 34 = .ok (.putfield 23, 3) := by decide +kernel
theorem dX0_init_37 : decode cX0_init 37 = .ok (.aload_n 0, 1) := by decide +kernel
theorem dX0_init_38 : decode cX0_init 38 = .ok (.bipush 64, 2) := by decide +kernel
theorem dX0_init_40 : decode cX0_init 40 = .ok (.newarray .int, 2) := by decide +kernel
theorem dX0_init_42 : decode cX0_init 42 = .ok (.putfield 26, 3) := by decide +kernel
theorem dX0_init_45 : decode cX0_init 45 = .ok (.aload_n 0, 1) := by decide +kernel
theorem dX0_init_46 : decode cX0_init 46 = .ok (.iconst 4, 1) := by decide +kernel
theorem dX0_init_47 : decode cX0_init 47 = .ok (.putfield 29, 3) := by decide +kernel
theorem dX0_init_50 : decode cX0_init 50 = .ok (.return_, 1) := by decide +kernel
theorem dX0_clear_0 : decode cX0_clear 0 = .ok (.aload_n 0, 1) := by decide +kernel
theorem dX0_clear_1 : decode cX0_clear 1 = .ok (.iconst 0, 1) := by decide +kernel
theorem dX0_clear_2 : decode cX0_clear 2 = .ok (.putfield 33, 3) := by decide +kernel
theorem dX0_clear_5 : decode cX0_clear 5 = .ok (.aload_n 0, 1) := by decide +kernel
theorem dX0_clear_6 : decode cX0_clear 6 = .ok (.iconst 0, 1) := by decide +kernel
theorem dX0_clear_7 : decode cX0_clear 7 = .ok (.putfield 36, 3) := by decide +kernel
theorem dX0_clear_10 : decode cX0_clear 10 = .ok (.aload_n 0, 1) := by decide +kernel
theorem dX0_clear_11 : decode cX0_clear 11 = .ok (.iconst 0, 1) := by decide +kernel
theorem dX0_clear_12 : decode cX0_clear 12 = .ok (.putfield 39, 3) := by decide +kernel
theorem dX0_clear_15 : decode cX0_clear 15 = .ok (.aload_n 0, 1) := by decide +kernel
theorem dX0_clear_16 : decode cX0_clear 16 = .ok (.iconst 4, 1) := by decide +kernel
theorem dX0_clear_17 : decode cX0_clear 17 = .ok (.putfield 29, 3) := by decide +kernel
theorem dX0_clear_20 : decode cX0_clear 20 = .ok (.return_, 1) := by decide +kernel
theorem dX0_emit_0 : decode cX0_emit 0 = .ok (.aload_n 0, 1) := by decide +kernel
theorem dX0_emit_1 : decode cX0_emit 1 = .ok (.getfield 33, 3) := by decide +kernel
theorem dX0_emit_4 : decode cX0_emit 4 = .ok (.aload_n 0, 1) := by decide +kernel
theorem dX0_emit_5 : decode cX0_emit 5 = .ok (.getfield 11, 3) := by decide +kernel
theorem dX0_emit_8 : decode cX0_emit 8 = .ok (.arraylength, 1) := by decide +kernel
theorem dX0_emit_9 : decode cX0_emit 9 = .ok (.if_icmp .ge 23, 3) := by decide +kernel
theorem dX0_emit_12 : decode cX0_emit 12 = .ok (.aload_n 0, 1) := by decide +kernel
theorem dX0_emit_13 : decode cX0_emit 13 = .ok (.getfield 11, 3) := by decide +kernel
theorem dX0_emit_16 : decode cX0_emit 16 = .ok (.aload_n 0, 1) := by decide +kernel
theorem dX0_emit_17 : decode cX0_emit 17 = .ok (.getfield 33, 3) := by decide +kernel
theorem dX0_emit_20 : decode cX0_emit 20 = .ok (.iload_n 1, 1) := by decide +kernel
theorem dX0_emit_21 : decode cX0_emit 21 = .ok (.iastore, 1) := by decide +kernel
theorem dX0_emit_22 : decode cX0_emit 22 = .ok (.aload_n 0, 1) := by decide +kernel
theorem dX0_emit_23 : decode cX0_emit 23 = .ok (.dup, 1) := by decide +kernel
theorem dX0_emit_24 : decode cX0_emit 24 = .ok (.getfield 33, 3) := by decide +kernel
theorem dX0_emit_27 : decode cX0_emit 27 = .ok (.iconst 1, 1) := by decide +kernel
theorem dX0_emit_28 : decode cX0_emit 28 = .ok (.iadd, 1) := by decide +kernel
theorem dX0_emit_29 : decode cX0_emit 29 = .ok (.putfield 33, 3) := by decide +kernel
theorem dX0_emit_32 : decode cX0_emit 32 = .ok (.return_, 1) := by decide +kernel
theorem dX0_close_0 : decode cX0_close 0 = .ok (.iload_n 1, 1) := by decide +kernel
theorem dX0_close_1 : decode cX0_close 1 = .ok (.ifCond .eq 13, 3) := by decide +kernel
theorem dX0_close_4 : decode cX0_close 4 = .ok (.bipush 12, 2) := by decide +kernel
theorem dX0_close_6 : decode cX0_close 6 = .ok (.aload_n 0, 1) := by decide +kernel
theorem dX0_close_7 : decode cX0_close 7 = .ok (.getfield 39, 3) := by decide +kernel
theorem dX0_close_10 : decode cX0_close 10 = .ok (.iadd, 1) := by decide +kernel
theorem dX0_close_11 : decode cX0_close 11 = .ok (.goto 7, 3) := by decide +kernel
theorem dX0_close_14 : decode cX0_close 14 = .ok (.aload_n 0, 1) := by decide +kernel
theorem dX0_close_15 : decode cX0_close 15 = .ok (.getfield 36, 3) := by decide +kernel
theorem dX0_close_18 : decode cX0_close 18 = .ok (.istore_n 3, 1) := by decide +kernel
theorem dX0_close_19 : decode cX0_close 19 = .ok (.iload_n 3, 1) := by decide +kernel
theorem dX0_close_20 : decode cX0_close 20 = .ok (.bipush 18, 2) := by decide +kernel
theorem dX0_close_22 : decode cX0_close 22 = .ok (.if_icmp .lt 4, 3) := by decide +kernel
theorem dX0_close_25 : decode cX0_close 25 = .ok (.return_, 1) := by decide +kernel
theorem dX0_close_26 : decode cX0_close 26 = .ok (.aload_n 0, 1) := by decide +kernel
theorem dX0_close_27 : decode cX0_close 27 = .ok (.getfield 17, 3) := by decide +kernel
theorem dX0_close_30 : decode cX0_close 30 = .ok (.iload_n 3, 1) := by decide +kernel
theorem dX0_close_31 : decode cX0_close 31 = .ok (.iload_n 2, 1) := by decide +kernel
theorem dX0_close_32 : decode cX0_close 32 = .ok (.iastore, 1) := by decide +kernel
theorem dX0_close_33 : decode cX0_close 33 = .ok (.aload_n 0, 1) := by decide +kernel
theorem dX0_close_34 : decode cX0_close 34 = .ok (.getfield 20, 3) := by decide +kernel
theorem dX0_close_37 : decode cX0_close 37 = .ok (.iload_n 3, 1) := by decide +kernel
theorem dX0_close_38 : decode cX0_close 38 = .ok (.aload_n 0, 1) := by decide +kernel
theorem dX0_close_39 : decode cX0_close 39 = .ok (.getfield 33, 3) := by decide +kernel
theorem dX0_close_42 : decode cX0_close 42 = .ok (.iastore, 1) := by decide +kernel
theorem dX0_close_43 : decode cX0_close 43 = .ok (.aload_n 0, 1) := by decide +kernel
theorem dX0_close_44 : decode cX0_close 44 = .ok (.dup, 1) := by decide +kernel
theorem dX0_close_45 : decode cX0_close 45 = .ok (.getfield 39, 3) := by decide +kernel
theorem dX0_close_48 : decode cX0_close 48 = .ok (.iload_n 1, 1) := by decide +kernel
theorem dX0_close_49 : decode cX0_close 49 = .ok (.ifCond .eq 7, 3) := by decide +kernel
theorem dX0_close_52 : decode cX0_close 52 = .ok (.iconst 1, 1) := by decide +kernel
theorem dX0_close_53 : decode cX0_close 53 = .ok (.goto 4, 3) := by decide +kernel
theorem dX0_close_56 : decode cX0_close 56 = .ok (.iconst 0, 1) := by decide +kernel
theorem dX0_close_57 : decode cX0_close 57 = .ok (.iadd, 1) := by decide +kernel
theorem dX0_close_58 : decode cX0_close 58 = .ok (.putfield 39, 3) := by decide +kernel
theorem dX0_close_61 : decode cX0_close 61 = .ok (.aload_n 0, 1) := by decide +kernel
theorem dX0_close_62 : decode cX0_close 62 = .ok (.dup, 1) := by decide +kernel
theorem dX0_close_63 : decode cX0_close 63 = .ok (.getfield 36, 3) := by decide +kernel
theorem dX0_close_66 : decode cX0_close 66 = .ok (.iload_n 1, 1) := by decide +kernel
theorem dX0_close_67 : decode cX0_close 67 = .ok (.ifCond .eq 7, 3) := by decide +kernel
theorem dX0_close_70 : decode cX0_close 70 = .ok (.iconst 0, 1) := by decide +kernel
theorem dX0_close_71 : decode cX0_close 71 = .ok (.goto 4, 3) := by decide +kernel
theorem dX0_close_74 : decode cX0_close 74 = .ok (.iconst 1, 1) := by decide +kernel
theorem dX0_close_75 : decode cX0_close 75 = .ok (.iadd, 1) := by decide +kernel
theorem dX0_close_76 : decode cX0_close 76 = .ok (.putfield 36, 3) := by decide +kernel
theorem dX0_close_79 : decode cX0_close 79 = .ok (.return_, 1) := by decide +kernel
theorem dX0_spell_0 : decode cX0_spell 0 = .ok (.aload_n 0, 1) := by decide +kernel
theorem dX0_spell_1 : decode cX0_spell 1 = .ok (.getfield 39, 3) := by decide +kernel
theorem dX0_spell_4 : decode cX0_spell 4 = .ok (.bipush 6, 2) := by decide +kernel
theorem dX0_spell_6 : decode cX0_spell 6 = .ok (.if_icmp .ge 28, 3) := by decide +kernel
theorem dX0_spell_9 : decode cX0_spell 9 = .ok (.iload_n 1, 1) := by decide +kernel
theorem dX0_spell_10 : decode cX0_spell 10 = .ok (.ifCond .lt 24, 3) := by decide +kernel
theorem dX0_spell_13 : decode cX0_spell 13 = .ok (.iload_n 1, 1) := by decide +kernel
theorem dX0_spell_14 : decode cX0_spell 14 = .ok (.bipush 6, 2) := by decide +kernel
theorem dX0_spell_16 : decode cX0_spell 16 = .ok (.if_icmp .ge 18, 3) := by decide +kernel
theorem dX0_spell_19 : decode cX0_spell 19 = .ok (.aload_n 0, 1) := by decide +kernel
theorem dX0_spell_20 : decode cX0_spell 20 = .ok (.getfield 23, 3) := by decide +kernel
theorem dX0_spell_23 : decode cX0_spell 23 = .ok (.aload_n 0, 1) := by decide +kernel
theorem dX0_spell_24 : decode cX0_spell 24 = .ok (.getfield 39, 3) := by decide +kernel
theorem dX0_spell_27 : decode cX0_spell 27 = .ok (.bipush 6, 2) := by decide +kernel
theorem dX0_spell_29 : decode cX0_spell 29 = .ok (.imul, 1) := by decide +kernel
theorem dX0_spell_30 : decode cX0_spell 30 = .ok (.iload_n 1, 1) := by decide +kernel
theorem dX0_spell_31 : decode cX0_spell 31 = .ok (.iadd, 1) := by decide +kernel
theorem dX0_spell_32 : decode cX0_spell 32 = .ok (.iload_n 2, 1) := by decide +kernel
theorem dX0_spell_33 : decode cX0_spell 33 = .ok (.iastore, 1) := by decide +kernel
theorem dX0_spell_34 : decode cX0_spell 34 = .ok (.return_, 1) := by decide +kernel
theorem dX0_isNameTaken_0 : decode cX0_isNameTaken 0 = .ok (.iconst 0, 1) := by decide +kernel
theorem dX0_isNameTaken_1 : decode cX0_isNameTaken 1 = .ok (.istore_n 1, 1) := by decide +kernel
theorem dX0_isNameTaken_2 : decode cX0_isNameTaken 2 = .ok (.iload_n 1, 1) := by decide +kernel
theorem dX0_isNameTaken_3 : decode cX0_isNameTaken 3 = .ok (.aload_n 0, 1) := by decide +kernel
theorem dX0_isNameTaken_4 : decode cX0_isNameTaken 4 = .ok (.getfield 39, 3) := by decide +kernel
theorem dX0_isNameTaken_7 : decode cX0_isNameTaken 7 = .ok (.if_icmp .ge 82, 3) := by decide +kernel
theorem dX0_isNameTaken_10 : decode cX0_isNameTaken 10 = .ok (.aload_n 0, 1) := by decide +kernel
theorem dX0_isNameTaken_11 : decode cX0_isNameTaken 11 = .ok (.getfield 39, 3) := by decide +kernel
theorem dX0_isNameTaken_14 : decode cX0_isNameTaken 14 = .ok (.bipush 6, 2) := by decide +kernel
theorem dX0_isNameTaken_16 : decode cX0_isNameTaken 16 = .ok (.if_icmp .ge 7, 3) := by decide +kernel
theorem dX0_isNameTaken_19 : decode cX0_isNameTaken 19 = .ok (.iconst 1, 1) := by decide +kernel
theorem dX0_isNameTaken_20 : decode cX0_isNameTaken 20 = .ok (.goto 4, 3) := by decide +kernel
theorem dX0_isNameTaken_23 : decode cX0_isNameTaken 23 = .ok (.iconst 0, 1) := by decide +kernel
theorem dX0_isNameTaken_24 : decode cX0_isNameTaken 24 = .ok (.istore_n 2, 1) := by decide +kernel
theorem dX0_isNameTaken_25 : decode cX0_isNameTaken 25 = .ok (.iconst 0, 1) := by decide +kernel
theorem dX0_isNameTaken_26 : decode cX0_isNameTaken 26 = .ok (.istore_n 3, 1) := by decide +kernel
theorem dX0_isNameTaken_27 : decode cX0_isNameTaken 27 = .ok (.iload_n 3, 1) := by decide +kernel
theorem dX0_isNameTaken_28 : decode cX0_isNameTaken 28 = .ok (.bipush 6, 2) := by decide +kernel
theorem dX0_isNameTaken_30 : decode cX0_isNameTaken 30 = .ok (.if_icmp .ge 47, 3) := by decide +kernel
theorem dX0_isNameTaken_33 : decode cX0_isNameTaken 33 = .ok (.iload_n 2, 1) := by decide +kernel
theorem dX0_isNameTaken_34 : decode cX0_isNameTaken 34 = .ok (.ifCond .eq 43, 3) := by decide +kernel
theorem dX0_isNameTaken_37 : decode cX0_isNameTaken 37 = .ok (.aload_n 0, 1) := by decide +kernel
theorem dX0_isNameTaken_38 : decode cX0_isNameTaken 38 = .ok (.getfield 23, 3) := by decide +kernel
theorem dX0_isNameTaken_41 : decode cX0_isNameTaken 41 = .ok (.iload_n 1, 1) := by decide +kernel
theorem dX0_isNameTaken_42 : decode cX0_isNameTaken 42 = .ok (.bipush 6, 2) := by decide +kernel
theorem dX0_isNameTaken_44 : decode cX0_isNameTaken 44 = .ok (.imul, 1) := by decide +kernel
theorem dX0_isNameTaken_45 : decode cX0_isNameTaken 45 = .ok (.iload_n 3, 1) := by decide +kernel
theorem dX0_isNameTaken_46 : decode cX0_isNameTaken 46 = .ok (.iadd, 1) := by decide +kernel
theorem dX0_isNameTaken_47 : decode cX0_isNameTaken 47 = .ok (.iaload, 1) := by decide +kernel
theorem dX0_isNameTaken_48 : decode cX0_isNameTaken 48 = .ok (.aload_n 0, 1) := by decide +kernel
theorem dX0_isNameTaken_49 : decode cX0_isNameTaken 49 = .ok (.getfield 23, 3) := by decide +kernel
theorem dX0_isNameTaken_52 : decode cX0_isNameTaken 52 = .ok (.aload_n 0, 1) := by decide +kernel
theorem dX0_isNameTaken_53 : decode cX0_isNameTaken 53 = .ok (.getfield 39, 3) := by decide +kernel
theorem dX0_isNameTaken_56 : decode cX0_isNameTaken 56 = .ok (.bipush 6, 2) := by decide +kernel
theorem dX0_isNameTaken_58 : decode cX0_isNameTaken 58 = .ok (.imul, 1) := by decide +kernel
theorem dX0_isNameTaken_59 : decode cX0_isNameTaken 59 = .ok (.iload_n 3, 1) := by decide +kernel
theorem dX0_isNameTaken_60 : decode cX0_isNameTaken 60 = .ok (.iadd, 1) := by decide +kernel
theorem dX0_isNameTaken_61 : decode cX0_isNameTaken 61 = .ok (.iaload, 1) := by decide +kernel
theorem dX0_isNameTaken_62 : decode cX0_isNameTaken 62 = .ok (.if_icmp .ne 7, 3) := by decide +kernel
theorem dX0_isNameTaken_65 : decode cX0_isNameTaken 65 = .ok (.iconst 1, 1) := by decide +kernel
theorem dX0_isNameTaken_66 : decode cX0_isNameTaken 66 = .ok (.goto 4, 3) := by decide +kernel
theorem dX0_isNameTaken_69 : decode cX0_isNameTaken 69 = .ok (.iconst 0, 1) := by decide +kernel
theorem dX0_isNameTaken_70 : decode cX0_isNameTaken 70 = .ok (.istore_n 2, 1) := by decide +kernel
theorem dX0_isNameTaken_71 : decode cX0_isNameTaken 71 = .ok (.iinc 3 1, 3) := by decide +kernel
theorem dX0_isNameTaken_74 : decode cX0_isNameTaken 74 = .ok (.goto (-47), 3) := by decide +kernel
theorem dX0_isNameTaken_77 : decode cX0_isNameTaken 77 = .ok (.iload_n 2, 1) := by decide +kernel
theorem dX0_isNameTaken_78 : decode cX0_isNameTaken 78 = .ok (.ifCond .eq 5, 3) := by decide +kernel
theorem dX0_isNameTaken_81 : decode cX0_isNameTaken 81 = .ok (.iconst 1, 1) := by decide +kernel
theorem dX0_isNameTaken_82 : decode cX0_isNameTaken 82 = .ok (.ireturn, 1) := by decide +kernel
theorem dX0_isNameTaken_83 : decode cX0_isNameTaken 83 = .ok (.iinc 1 1, 3) := by decide +kernel
theorem dX0_isNameTaken_86 : decode cX0_isNameTaken 86 = .ok (.goto (-84), 3) := by decide +kernel
theorem dX0_isNameTaken_89 : decode cX0_isNameTaken 89 = .ok (.iconst 0, 1) := by decide +kernel
theorem dX0_isNameTaken_90 : decode cX0_isNameTaken 90 = .ok (.ireturn, 1) := by decide +kernel
theorem dX0_letterOf_0 : decode cX0_letterOf 0 = .ok (.iload_n 1, 1) := by decide +kernel
theorem dX0_letterOf_1 : decode cX0_letterOf 1 = .ok (.ifCond .lt 27, 3) := by decide +kernel
theorem dX0_letterOf_4 : decode cX0_letterOf 4 = .ok (.iload_n 1, 1) := by decide +kernel
theorem dX0_letterOf_5 : decode cX0_letterOf 5 = .ok (.aload_n 0, 1) := by decide +kernel
theorem dX0_letterOf_6 : decode cX0_letterOf 6 = .ok (.getfield 39, 3) := by decide +kernel
theorem dX0_letterOf_9 : decode cX0_letterOf 9 = .ok (.if_icmp .ge 19, 3) := by decide +kernel
theorem dX0_letterOf_12 : decode cX0_letterOf 12 = .ok (.iload_n 1, 1) := by decide +kernel
theorem dX0_letterOf_13 : decode cX0_letterOf 13 = .ok (.bipush 6, 2) := by decide +kernel
theorem dX0_letterOf_15 : decode cX0_letterOf 15 = .ok (.if_icmp .ge 13, 3) := by decide +kernel
theorem dX0_letterOf_18 : decode cX0_letterOf 18 = .ok (.iload_n 2, 1) := by decide +kernel
theorem dX0_letterOf_19 : decode cX0_letterOf 19 = .ok (.ifCond .lt 9, 3) := by decide +kernel
theorem dX0_letterOf_22 : decode cX0_letterOf 22 = .ok (.iload_n 2, 1) := by decide +kernel
theorem dX0_letterOf_23 : decode cX0_letterOf 23 = .ok (.bipush 6, 2) := by decide +kernel
theorem dX0_letterOf_25 : decode cX0_letterOf 25 = .ok (.if_icmp .lt 5, 3) := by decide +kernel
theorem dX0_letterOf_28 : decode cX0_letterOf 28 = .ok (.iconst (-1), 1) := by decide +kernel
theorem dX0_letterOf_29 : decode cX0_letterOf 29 = .ok (.ireturn, 1) := by decide +kernel
theorem dX0_letterOf_30 : decode cX0_letterOf 30 = .ok (.aload_n 0, 1) := by decide +kernel
theorem dX0_letterOf_31 : decode cX0_letterOf 31 = .ok (.getfield 23, 3) := by decide +kernel
theorem dX0_letterOf_34 : decode cX0_letterOf 34 = .ok (.iload_n 1, 1) := by decide +kernel
theorem dX0_letterOf_35 : decode cX0_letterOf 35 = .ok (.bipush 6, 2) := by decide +kernel
theorem dX0_letterOf_37 : decode cX0_letterOf 37 = .ok (.imul, 1) := by decide +kernel
theorem dX0_letterOf_38 : decode cX0_letterOf 38 = .ok (.iload_n 2, 1) := by decide +kernel
theorem dX0_letterOf_39 : decode cX0_letterOf 39 = .ok (.iadd, 1) := by decide +kernel
theorem dX0_letterOf_40 : decode cX0_letterOf 40 = .ok (.iaload, 1) := by decide +kernel
theorem dX0_letterOf_41 : decode cX0_letterOf 41 = .ok (.ireturn, 1) := by decide +kernel
theorem dX0_holds_0 : decode cX0_holds 0 = .ok (.iload_n 1, 1) := by decide +kernel
theorem dX0_holds_1 : decode cX0_holds 1 = .ok (.ifCond .lt 9, 3) := by decide +kernel
theorem dX0_holds_4 : decode cX0_holds 4 = .ok (.iload_n 1, 1) := by decide +kernel
theorem dX0_holds_5 : decode cX0_holds 5 = .ok (.bipush 18, 2) := by decide +kernel
theorem dX0_holds_7 : decode cX0_holds 7 = .ok (.if_icmp .lt 5, 3) := by decide +kernel
theorem dX0_holds_10 : decode cX0_holds 10 = .ok (.iconst 0, 1) := by decide +kernel
theorem dX0_holds_11 : decode cX0_holds 11 = .ok (.ireturn, 1) := by decide +kernel
theorem dX0_holds_12 : decode cX0_holds 12 = .ok (.iconst 0, 1) := by decide +kernel
theorem dX0_holds_13 : decode cX0_holds 13 = .ok (.istore_n 3, 1) := by decide +kernel
theorem dX0_holds_14 : decode cX0_holds 14 = .ok (.aload_n 0, 1) := by decide +kernel
theorem dX0_holds_15 : decode cX0_holds 15 = .ok (.getfield 17, 3) := by decide +kernel
theorem dX0_holds_18 : decode cX0_holds 18 = .ok (.iload_n 1, 1) := by decide +kernel
theorem dX0_holds_19 : decode cX0_holds 19 = .ok (.iaload, 1) := by decide +kernel
theorem dX0_holds_20 : decode cX0_holds 20 = .ok (.istore 4, 2) := by decide +kernel
theorem dX0_holds_22 : decode cX0_holds 22 = .ok (.iload 4, 2) := by decide +kernel
theorem dX0_holds_24 : decode cX0_holds 24 = .ok (.aload_n 0, 1) := by decide +kernel
theorem dX0_holds_25 : decode cX0_holds 25 = .ok (.getfield 20, 3) := by decide +kernel
theorem dX0_holds_28 : decode cX0_holds 28 = .ok (.iload_n 1, 1) := by decide +kernel
theorem dX0_holds_29 : decode cX0_holds 29 = .ok (.iaload, 1) := by decide +kernel
theorem dX0_holds_30 : decode cX0_holds 30 = .ok (.if_icmp .ge 148, 3) := by decide +kernel
theorem dX0_holds_33 : decode cX0_holds 33 = .ok (.iload 4, 2) := by decide +kernel
theorem dX0_holds_35 : decode cX0_holds 35 = .ok (.aload_n 0, 1) := by decide +kernel
theorem dX0_holds_36 : decode cX0_holds 36 = .ok (.getfield 11, 3) := by decide +kernel
theorem dX0_holds_39 : decode cX0_holds 39 = .ok (.arraylength, 1) := by decide +kernel
theorem dX0_holds_40 : decode cX0_holds 40 = .ok (.if_icmp .ge 138, 3) := by decide +kernel
theorem dX0_holds_43 : decode cX0_holds 43 = .ok (.aload_n 0, 1) := by decide +kernel
theorem dX0_holds_44 : decode cX0_holds 44 = .ok (.getfield 11, 3) := by decide +kernel
theorem dX0_holds_47 : decode cX0_holds 47 = .ok (.iload 4, 2) := by decide +kernel
theorem dX0_holds_49 : decode cX0_holds 49 = .ok (.iaload, 1) := by decide +kernel
theorem dX0_holds_50 : decode cX0_holds 50 = .ok (.istore 5, 2) := by decide +kernel
theorem dX0_holds_52 : decode cX0_holds 52 = .ok (.iload 5, 2) := by decide +kernel
theorem dX0_holds_54 : decode cX0_holds 54 = .ok (.sipush 10020, 3) := by decide +kernel
theorem dX0_holds_57 : decode cX0_holds 57 = .ok (.if_icmp .ge 47, 3) := by decide +kernel
theorem dX0_holds_60 : decode cX0_holds 60 = .ok (.iload_n 3, 1) := by decide +kernel
theorem dX0_holds_61 : decode cX0_holds 61 = .ok (.aload_n 0, 1) := by decide +kernel
theorem dX0_holds_62 : decode cX0_holds 62 = .ok (.getfield 26, 3) := by decide +kernel
theorem dX0_holds_65 : decode cX0_holds 65 = .ok (.arraylength, 1) := by decide +kernel
theorem dX0_holds_66 : decode cX0_holds 66 = .ok (.if_icmp .ge 106, 3) := by decide +kernel
theorem dX0_holds_69 : decode cX0_holds 69 = .ok (.aload_n 0, 1) := by decide +kernel
theorem dX0_holds_70 : decode cX0_holds 70 = .ok (.getfield 26, 3) := by decide +kernel
theorem dX0_holds_73 : decode cX0_holds 73 = .ok (.iload_n 3, 1) := by decide +kernel
theorem dX0_holds_74 : decode cX0_holds 74 = .ok (.iload 5, 2) := by decide +kernel
theorem dX0_holds_76 : decode cX0_holds 76 = .ok (.sipush 10000, 3) := by decide +kernel
theorem dX0_holds_79 : decode cX0_holds 79 = .ok (.if_icmp .ge 8, 3) := by decide +kernel
theorem dX0_holds_82 : decode cX0_holds 82 = .ok (.iload 5, 2) := by decide +kernel
theorem dX0_holds_84 : decode cX0_holds 84 = .ok (.goto 13, 3) := by decide +kernel
theorem dX0_holds_87 : decode cX0_holds 87 = .ok (.aload_n 2, 1) := by decide +kernel
theorem dX0_holds_88 : decode cX0_holds 88 = .ok (.iload 5, 2) := by decide +kernel
theorem dX0_holds_90 : decode cX0_holds 90 = .ok (.sipush 10000, 3) := by decide +kernel
theorem dX0_holds_93 : decode cX0_holds 93 = .ok (.isub, 1) := by decide +kernel
theorem dX0_holds_94 : decode cX0_holds 94 = .ok (.invokestatic 42, 3) := by decide +kernel
theorem dX0_holds_97 : decode cX0_holds 97 = .ok (.iastore, 1) := by decide +kernel
theorem dX0_holds_98 : decode cX0_holds 98 = .ok (.iinc 3 1, 3) := by decide +kernel
theorem dX0_holds_101 : decode cX0_holds 101 = .ok (.goto 71, 3) := by decide +kernel
theorem dX0_holds_104 : decode cX0_holds 104 = .ok (.iload 5, 2) := by decide +kernel
theorem dX0_holds_106 : decode cX0_holds 106 = .ok (.sipush 10020, 3) := by decide +kernel
theorem dX0_holds_109 : decode cX0_holds 109 = .ok (.if_icmp .ne 28, 3) := by decide +kernel
theorem dX0_holds_112 : decode cX0_holds 112 = .ok (.iload_n 3, 1) := by decide +kernel
theorem dX0_holds_113 : decode cX0_holds 113 = .ok (.ifCond .le 59, 3) := by decide +kernel
theorem dX0_holds_116 : decode cX0_holds 116 = .ok (.aload_n 0, 1) := by decide +kernel
theorem dX0_holds_117 : decode cX0_holds 117 = .ok (.getfield 26, 3) := by decide +kernel
theorem dX0_holds_120 : decode cX0_holds 120 = .ok (.iload_n 3, 1) := by decide +kernel
theorem dX0_holds_121 : decode cX0_holds 121 = .ok (.iconst 1, 1) := by decide +kernel
theorem dX0_holds_122 : decode cX0_holds 122 = .ok (.isub, 1) := by decide +kernel
theorem dX0_holds_123 : decode cX0_holds 123 = .ok (.iconst 1, 1) := by decide +kernel
theorem dX0_holds_124 : decode cX0_holds 124 = .ok (.aload_n 0, 1) := by decide +kernel
theorem dX0_holds_125 : decode cX0_holds 125 = .ok (.getfield 26, 3) := by decide +kernel
theorem dX0_holds_128 : decode cX0_holds 128 = .ok (.iload_n 3, 1) := by decide +kernel
theorem dX0_holds_129 : decode cX0_holds 129 = .ok (.iconst 1, 1) := by decide +kernel
theorem dX0_holds_130 : decode cX0_holds 130 = .ok (.isub, 1) := by decide +kernel
theorem dX0_holds_131 : decode cX0_holds 131 = .ok (.iaload, 1) := by decide +kernel
theorem dX0_holds_132 : decode cX0_holds 132 = .ok (.isub, 1) := by decide +kernel
theorem dX0_holds_133 : decode cX0_holds 133 = .ok (.iastore, 1) := by decide +kernel
theorem dX0_holds_134 : decode cX0_holds 134 = .ok (.goto 38, 3) := by decide +kernel
theorem dX0_holds_137 : decode cX0_holds 137 = .ok (.iload_n 3, 1) := by decide +kernel
theorem dX0_holds_138 : decode cX0_holds 138 = .ok (.iconst 1, 1) := by decide +kernel
theorem dX0_holds_139 : decode cX0_holds 139 = .ok (.if_icmp .le 33, 3) := by decide +kernel
theorem dX0_holds_142 : decode cX0_holds 142 = .ok (.iinc 3 (-1), 3) := by decide +kernel
theorem dX0_holds_145 : decode cX0_holds 145 = .ok (.aload_n 0, 1) := by decide +kernel
theorem dX0_holds_146 : decode cX0_holds 146 = .ok (.getfield 26, 3) := by decide +kernel
theorem dX0_holds_149 : decode cX0_holds 149 = .ok (.iload_n 3, 1) := by decide +kernel
theorem dX0_holds_150 : decode cX0_holds 150 = .ok (.iconst 1, 1) := by decide +kernel
theorem dX0_holds_151 : decode cX0_holds 151 = .ok (.isub, 1) := by decide +kernel
theorem dX0_holds_152 : decode cX0_holds 152 = .ok (.iload 5, 2) := by decide +kernel
theorem dX0_holds_154 : decode cX0_holds 154 = .ok (.aload_n 0, 1) := by decide +kernel
theorem dX0_holds_155 : decode cX0_holds 155 = .ok (.getfield 26, 3) := by decide +kernel
theorem dX0_holds_158 : decode cX0_holds 158 = .ok (.iload_n 3, 1) := by decide +kernel
theorem dX0_holds_159 : decode cX0_holds 159 = .ok (.iconst 1, 1) := by decide +kernel
theorem dX0_holds_160 : decode cX0_holds 160 = .ok (.isub, 1) := by decide +kernel
theorem dX0_holds_161 : decode cX0_holds 161 = .ok (.iaload, 1) := by decide +kernel
theorem dX0_holds_162 : decode cX0_holds 162 = .ok (.aload_n 0, 1) := by decide +kernel
theorem dX0_holds_163 : decode cX0_holds 163 = .ok (.getfield 26, 3) := by decide +kernel
theorem dX0_holds_166 : decode cX0_holds 166 = .ok (.iload_n 3, 1) := by decide +kernel
theorem dX0_holds_167 : decode cX0_holds 167 = .ok (.iaload, 1) := by decide +kernel
theorem dX0_holds_168 : decode cX0_holds 168 = .ok (.invokestatic 46, 3) := by decide +kernel
theorem dX0_holds_171 : decode cX0_holds 171 = .ok (.iastore, 1) := by decide +kernel
theorem dX0_holds_172 : decode cX0_holds 172 = .ok (.iinc 4 1, 3) := by decide +kernel
theorem dX0_holds_175 : decode cX0_holds 175 = .ok (.goto (-153), 3) := by decide +kernel
theorem dX0_holds_178 : decode cX0_holds 178 = .ok (.iload_n 3, 1) := by decide +kernel
theorem dX0_holds_179 : decode cX0_holds 179 = .ok (.ifCond .le 17, 3) := by decide +kernel
theorem dX0_holds_182 : decode cX0_holds 182 = .ok (.aload_n 0, 1) := by decide +kernel
theorem dX0_holds_183 : decode cX0_holds 183 = .ok (.getfield 26, 3) := by decide +kernel
theorem dX0_holds_186 : decode cX0_holds 186 = .ok (.iconst 0, 1) := by decide +kernel
theorem dX0_holds_187 : decode cX0_holds 187 = .ok (.iaload, 1) := by decide +kernel
theorem dX0_holds_188 : decode cX0_holds 188 = .ok (.iconst 1, 1) := by decide +kernel
theorem dX0_holds_189 : decode cX0_holds 189 = .ok (.if_icmp .ne 7, 3) := by decide +kernel
theorem dX0_holds_192 : decode cX0_holds 192 = .ok (.iconst 1, 1) := by decide +kernel
theorem dX0_holds_193 : decode cX0_holds 193 = .ok (.goto 4, 3) := by decide +kernel
theorem dX0_holds_196 : decode cX0_holds 196 = .ok (.iconst 0, 1) := by decide +kernel
theorem dX0_holds_197 : decode cX0_holds 197 = .ok (.ireturn, 1) := by decide +kernel
theorem dX0_factAt_0 : decode cX0_factAt 0 = .ok (.iload_n 1, 1) := by decide +kernel
theorem dX0_factAt_1 : decode cX0_factAt 1 = .ok (.ifCond .lt 15, 3) := by decide +kernel
theorem dX0_factAt_4 : decode cX0_factAt 4 = .ok (.iload_n 1, 1) := by decide +kernel
theorem dX0_factAt_5 : decode cX0_factAt 5 = .ok (.aload_n 0, 1) := by decide +kernel
theorem dX0_factAt_6 : decode cX0_factAt 6 = .ok (.arraylength, 1) := by decide +kernel
theorem dX0_factAt_7 : decode cX0_factAt 7 = .ok (.if_icmp .ge 9, 3) := by decide +kernel
theorem dX0_factAt_10 : decode cX0_factAt 10 = .ok (.aload_n 0, 1) := by decide +kernel
theorem dX0_factAt_11 : decode cX0_factAt 11 = .ok (.iload_n 1, 1) := by decide +kernel
theorem dX0_factAt_12 : decode cX0_factAt 12 = .ok (.iaload, 1) := by decide +kernel
theorem dX0_factAt_13 : decode cX0_factAt 13 = .ok (.goto 4, 3) := by decide +kernel
theorem dX0_factAt_16 : decode cX0_factAt 16 = .ok (.iconst 0, 1) := by decide +kernel
theorem dX0_factAt_17 : decode cX0_factAt 17 = .ok (.ireturn, 1) := by decide +kernel
theorem dX0_join_0 : decode cX0_join 0 = .ok (.iload_n 0, 1) := by decide +kernel
theorem dX0_join_1 : decode cX0_join 1 = .ok (.tableswitch 143 10021 10030 #[55, 59, 63, 74, 85, 96, 105, 114, 123, 137], 55) := by decide +kernel
theorem dX0_join_56 : decode cX0_join 56 = .ok (.iload_n 1, 1) := by decide +kernel
theorem dX0_join_57 : decode cX0_join 57 = .ok (.iload_n 2, 1) := by decide +kernel
theorem dX0_join_58 : decode cX0_join 58 = .ok (.ior, 1) := by decide +kernel
theorem dX0_join_59 : decode cX0_join 59 = .ok (.ireturn, 1) := by decide +kernel
theorem dX0_join_60 : decode cX0_join 60 = .ok (.iload_n 1, 1) := by decide +kernel
theorem dX0_join_61 : decode cX0_join 61 = .ok (.iload_n 2, 1) := by decide +kernel
theorem dX0_join_62 : decode cX0_join 62 = .ok (.iand, 1) := by decide +kernel
theorem dX0_join_63 : decode cX0_join 63 = .ok (.ireturn, 1) := by decide +kernel
theorem dX0_join_64 : decode cX0_join 64 = .ok (.iload_n 1, 1) := by decide +kernel
theorem dX0_join_65 : decode cX0_join 65 = .ok (.iload_n 2, 1) := by decide +kernel
theorem dX0_join_66 : decode cX0_join 66 = .ok (.if_icmp .ge 7, 3) := by decide +kernel
theorem dX0_join_69 : decode cX0_join 69 = .ok (.iconst 1, 1) := by decide +kernel
theorem dX0_join_70 : decode cX0_join 70 = .ok (.goto 4, 3) := by decide +kernel
theorem dX0_join_73 : decode cX0_join 73 = .ok (.iconst 0, 1) := by decide +kernel
theorem dX0_join_74 : decode cX0_join 74 = .ok (.ireturn, 1) := by decide +kernel
theorem dX0_join_75 : decode cX0_join 75 = .ok (.iload_n 1, 1) := by decide +kernel
theorem dX0_join_76 : decode cX0_join 76 = .ok (.iload_n 2, 1) := by decide +kernel
theorem dX0_join_77 : decode cX0_join 77 = .ok (.if_icmp .le 7, 3) := by decide +kernel
theorem dX0_join_80 : decode cX0_join 80 = .ok (.iconst 1, 1) := by decide +kernel
theorem dX0_join_81 : decode cX0_join 81 = .ok (.goto 4, 3) := by decide +kernel
theorem dX0_join_84 : decode cX0_join 84 = .ok (.iconst 0, 1) := by decide +kernel
theorem dX0_join_85 : decode cX0_join 85 = .ok (.ireturn, 1) := by decide +kernel
theorem dX0_join_86 : decode cX0_join 86 = .ok (.iload_n 1, 1) := by decide +kernel
theorem dX0_join_87 : decode cX0_join 87 = .ok (.iload_n 2, 1) := by decide +kernel
theorem dX0_join_88 : decode cX0_join 88 = .ok (.if_icmp .ne 7, 3) := by decide +kernel
theorem dX0_join_91 : decode cX0_join 91 = .ok (.iconst 1, 1) := by decide +kernel
theorem dX0_join_92 : decode cX0_join 92 = .ok (.goto 4, 3) := by decide +kernel
theorem dX0_join_95 : decode cX0_join 95 = .ok (.iconst 0, 1) := by decide +kernel
theorem dX0_join_96 : decode cX0_join 96 = .ok (.ireturn, 1) := by decide +kernel
theorem dX0_join_97 : decode cX0_join 97 = .ok (.iload_n 1, 1) := by decide +kernel
theorem dX0_join_98 : decode cX0_join 98 = .ok (.i2l, 1) := by decide +kernel
theorem dX0_join_99 : decode cX0_join 99 = .ok (.iload_n 2, 1) := by decide +kernel
theorem dX0_join_100 : decode cX0_join 100 = .ok (.i2l, 1) := by decide +kernel
theorem dX0_join_101 : decode cX0_join 101 = .ok (.ladd, 1) := by decide +kernel
theorem dX0_join_102 : decode cX0_join 102 = .ok (.invokestatic 50, 3) := by decide +kernel
theorem dX0_join_105 : decode cX0_join 105 = .ok (.ireturn, 1) := by decide +kernel
theorem dX0_join_106 : decode cX0_join 106 = .ok (.iload_n 1, 1) := by decide +kernel
theorem dX0_join_107 : decode cX0_join 107 = .ok (.i2l, 1) := by decide +kernel
theorem dX0_join_108 : decode cX0_join 108 = .ok (.iload_n 2, 1) := by decide +kernel
theorem dX0_join_109 : decode cX0_join 109 = .ok (.i2l, 1) := by decide +kernel
theorem dX0_join_110 : decode cX0_join 110 = .ok (.lsub, 1) := by decide +kernel
theorem dX0_join_111 : decode cX0_join 111 = .ok (.invokestatic 50, 3) := by decide +kernel
theorem dX0_join_114 : decode cX0_join 114 = .ok (.ireturn, 1) := by decide +kernel
theorem dX0_join_115 : decode cX0_join 115 = .ok (.iload_n 1, 1) := by decide +kernel
theorem dX0_join_116 : decode cX0_join 116 = .ok (.i2l, 1) := by decide +kernel
theorem dX0_join_117 : decode cX0_join 117 = .ok (.iload_n 2, 1) := by decide +kernel
theorem dX0_join_118 : decode cX0_join 118 = .ok (.i2l, 1) := by decide +kernel
theorem dX0_join_119 : decode cX0_join 119 = .ok (.lmul, 1) := by decide +kernel
theorem dX0_join_120 : decode cX0_join 120 = .ok (.invokestatic 50, 3) := by decide +kernel
theorem dX0_join_123 : decode cX0_join 123 = .ok (.ireturn, 1) := by decide +kernel
theorem dX0_join_124 : decode cX0_join 124 = .ok (.iload_n 2, 1) := by decide +kernel
theorem dX0_join_125 : decode cX0_join 125 = .ok (.ifCond .ne 7, 3) := by decide +kernel
theorem dX0_join_128 : decode cX0_join 128 = .ok (.iconst 0, 1) := by decide +kernel
theorem dX0_join_129 : decode cX0_join 129 = .ok (.goto 8, 3) := by decide +kernel
theorem dX0_join_132 : decode cX0_join 132 = .ok (.iload_n 1, 1) := by decide +kernel
theorem dX0_join_133 : decode cX0_join 133 = .ok (.iload_n 2, 1) := by decide +kernel
theorem dX0_join_134 : decode cX0_join 134 = .ok (.invokestatic 54, 3) := by decide +kernel
theorem dX0_join_137 : decode cX0_join 137 = .ok (.ireturn, 1) := by decide +kernel
theorem dX0_join_138 : decode cX0_join 138 = .ok (.iload_n 1, 1) := by decide +kernel
theorem dX0_join_139 : decode cX0_join 139 = .ok (.iload_n 2, 1) := by decide +kernel
theorem dX0_join_140 : decode cX0_join 140 = .ok (.invokestatic 60, 3) := by decide +kernel
theorem dX0_join_143 : decode cX0_join 143 = .ok (.ireturn, 1) := by decide +kernel
theorem dX0_join_144 : decode cX0_join 144 = .ok (.iload_n 1, 1) := by decide +kernel
theorem dX0_join_145 : decode cX0_join 145 = .ok (.iload_n 2, 1) := by decide +kernel
theorem dX0_join_146 : decode cX0_join 146 = .ok (.invokestatic 63, 3) := by decide +kernel
theorem dX0_join_149 : decode cX0_join 149 = .ok (.ireturn, 1) := by decide +kernel
theorem dX0_limited_0 : decode cX0_limited 0 = .ok (.lload_n 0, 1) := by decide +kernel
theorem dX0_limited_1 : decode cX0_limited 1 = .ok (.ldc2_w 66, 3) := by decide +kernel
theorem dX0_limited_4 : decode cX0_limited 4 = .ok (.lcmp, 1) := by decide +kernel
theorem dX0_limited_5 : decode cX0_limited 5 = .ok (.ifCond .le 6, 3) := by decide +kernel
theorem dX0_limited_8 : decode cX0_limited 8 = .ok (.ldc 68, 2) := by decide +kernel
theorem dX0_limited_10 : decode cX0_limited 10 = .ok (.ireturn, 1) := by decide +kernel
theorem dX0_limited_11 : decode cX0_limited 11 = .ok (.lload_n 0, 1) := by decide +kernel
theorem dX0_limited_12 : decode cX0_limited 12 = .ok (.ldc2_w 69, 3) := by decide +kernel
theorem dX0_limited_15 : decode cX0_limited 15 = .ok (.lcmp, 1) := by decide +kernel
theorem dX0_limited_16 : decode cX0_limited 16 = .ok (.ifCond .ge 8, 3) := by decide +kernel
theorem dX0_limited_19 : decode cX0_limited 19 = .ok (.ldc 71, 2) := by decide +kernel
theorem dX0_limited_21 : decode cX0_limited 21 = .ok (.goto 5, 3) := by decide +kernel
theorem dX0_limited_24 : decode cX0_limited 24 = .ok (.lload_n 0, 1) := by decide +kernel
theorem dX0_limited_25 : decode cX0_limited 25 = .ok (.l2i, 1) := by decide +kernel
theorem dX0_limited_26 : decode cX0_limited 26 = .ok (.ireturn, 1) := by decide +kernel
theorem dX1_init_0 : decode cX1_init 0 = .ok (.aload_n 0, 1) := by decide +kernel
theorem dX1_init_1 : decode cX1_init 1 = .ok (.invokespecial 3, 3) := by decide +kernel
theorem dX1_init_4 : decode cX1_init 4 = .ok (.aload_n 0, 1) := by decide +kernel
theorem dX1_init_5 : decode cX1_init 5 = .ok (.bipush 48, 2) := by decide +kernel
theorem dX1_init_7 : decode cX1_init 7 = .ok (.newarray .int, 2) := by decide +kernel
theorem dX1_init_9 : decode cX1_init 9 = .ok (.putfield 11, 3) := by decide +kernel
theorem dX1_init_12 : decode cX1_init 12 = .ok (.aload_n 0, 1) := by decide +kernel
theorem dX1_init_13 : decode cX1_init 13 = .ok (.bipush 48, 2) := by decide +kernel
theorem dX1_init_15 : decode cX1_init 15 = .ok (.newarray .int, 2) := by decide +kernel
theorem dX1_init_17 : decode cX1_init 17 = .ok (.putfield 15, 3) := by decide +kernel
theorem dX1_init_20 : decode cX1_init 20 = .ok (.aload_n 0, 1) := by decide +kernel
theorem dX1_init_21 : decode cX1_init 21 = .ok (.bipush 48, 2) := by decide +kernel
theorem dX1_init_23 : decode cX1_init 23 = .ok (.newarray .int, 2) := by decide +kernel
theorem dX1_init_25 : decode cX1_init 25 = .ok (.putfield 18, 3) := by decide +kernel
theorem dX1_init_28 : decode cX1_init 28 = .ok (.aload_n 0, 1) := by decide +kernel
theorem dX1_init_29 : decode cX1_init 29 = .ok (.bipush 48, 2) := by decide +kernel
theorem dX1_init_31 : decode cX1_init 31 = .ok (.newarray .int, 2) := by decide +kernel
theorem dX1_init_33 : decode cX1_init 33 = .ok (.putfield 21, 3) := by decide +kernel
theorem dX1_init_36 : decode cX1_init 36 = .ok (.aload_n 0, 1) := by decide +kernel
theorem dX1_init_37 : decode cX1_init 37 = .ok (.new 24, 3) := by decide +kernel
theorem dX1_init_40 : decode cX1_init 40 = .ok (.dup, 1) := by decide +kernel
theorem dX1_init_41 : decode cX1_init 41 = .ok (.invokespecial 26, 3) := by decide +kernel
theorem dX1_init_44 : decode cX1_init 44 = .ok (.putfield 27, 3) := by decide +kernel
theorem dX1_init_47 : decode cX1_init 47 = .ok (.aload_n 0, 1) := by decide +kernel
theorem dX1_init_48 : decode cX1_init 48 = .ok (.new 24, 3) := by decide +kernel
theorem dX1_init_51 : decode cX1_init 51 = .ok (.dup, 1) := by decide +kernel
theorem dX1_init_52 : decode cX1_init 52 = .ok (.invokespecial 26, 3) := by decide +kernel
theorem dX1_init_55 : decode cX1_init 55 = .ok (.putfield 31, 3) := by decide +kernel
theorem dX1_init_58 : decode cX1_init 58 = .ok (.return_, 1) := by decide +kernel
theorem dX1_hear_0 : decode cX1_hear 0 = .ok (.aload_n 0, 1) := by decide +kernel
theorem dX1_hear_1 : decode cX1_hear 1 = .ok (.iload_n 3, 1) := by decide +kernel
theorem dX1_hear_2 : decode cX1_hear 2 = .ok (.iload 4, 2) := by decide +kernel
theorem dX1_hear_4 : decode cX1_hear 4 = .ok (.invokevirtual 34, 3) := by decide +kernel
theorem dX1_hear_7 : decode cX1_hear 7 = .ok (.aload_n 0, 1) := by decide +kernel
theorem dX1_hear_8 : decode cX1_hear 8 = .ok (.getfield 27, 3) := by decide +kernel
theorem dX1_hear_11 : decode cX1_hear 11 = .ok (.getfield 38, 3) := by decide +kernel
theorem dX1_hear_14 : decode cX1_hear 14 = .ok (.aload_n 0, 1) := by decide +kernel
theorem dX1_hear_15 : decode cX1_hear 15 = .ok (.getfield 31, 3) := by decide +kernel
theorem dX1_hear_18 : decode cX1_hear 18 = .ok (.getfield 38, 3) := by decide +kernel
theorem dX1_hear_21 : decode cX1_hear 21 = .ok (.invokestatic 42, 3) := by decide +kernel
theorem dX1_hear_24 : decode cX1_hear 24 = .ok (.istore 5, 2) := by decide +kernel
theorem dX1_hear_26 : decode cX1_hear 26 = .ok (.aload_n 0, 1) := by decide +kernel
theorem dX1_hear_27 : decode cX1_hear 27 = .ok (.getfield 27, 3) := by decide +kernel
theorem dX1_hear_30 : decode cX1_hear 30 = .ok (.aload_n 1, 1) := by decide +kernel
theorem dX1_hear_31 : decode cX1_hear 31 = .ok (.invokevirtual 48, 3) := by decide +kernel
theorem dX1_hear_34 : decode cX1_hear 34 = .ok (.aload_n 0, 1) := by decide +kernel
theorem dX1_hear_35 : decode cX1_hear 35 = .ok (.getfield 31, 3) := by decide +kernel
theorem dX1_hear_38 : decode cX1_hear 38 = .ok (.aload_n 1, 1) := by decide +kernel
theorem dX1_hear_39 : decode cX1_hear 39 = .ok (.invokevirtual 48, 3) := by decide +kernel
theorem dX1_hear_42 : decode cX1_hear 42 = .ok (.invokestatic 52, 3) := by decide +kernel
theorem dX1_hear_45 : decode cX1_hear 45 = .ok (.istore 6, 2) := by decide +kernel
theorem dX1_hear_47 : decode cX1_hear 47 = .ok (.aload_n 0, 1) := by decide +kernel
theorem dX1_hear_48 : decode cX1_hear 48 = .ok (.getfield 27, 3) := by decide +kernel
theorem dX1_hear_51 : decode cX1_hear 51 = .ok (.aload_n 1, 1) := by decide +kernel
theorem dX1_hear_52 : decode cX1_hear 52 = .ok (.iload 5, 2) := by decide +kernel
theorem dX1_hear_54 : decode cX1_hear 54 = .ok (.iconst 1, 1) := by decide +kernel
theorem dX1_hear_55 : decode cX1_hear 55 = .ok (.isub, 1) := by decide +kernel
theorem dX1_hear_56 : decode cX1_hear 56 = .ok (.invokevirtual 55, 3) := by decide +kernel
theorem dX1_hear_59 : decode cX1_hear 59 = .ok (.istore 7, 2) := by decide +kernel
theorem dX1_hear_61 : decode cX1_hear 61 = .ok (.aload_n 0, 1) := by decide +kernel
theorem dX1_hear_62 : decode cX1_hear 62 = .ok (.getfield 31, 3) := by decide +kernel
theorem dX1_hear_65 : decode cX1_hear 65 = .ok (.aload_n 1, 1) := by decide +kernel
theorem dX1_hear_66 : decode cX1_hear 66 = .ok (.iload 5, 2) := by decide +kernel
theorem dX1_hear_68 : decode cX1_hear 68 = .ok (.iconst 1, 1) := by decide +kernel
theorem dX1_hear_69 : decode cX1_hear 69 = .ok (.isub, 1) := by decide +kernel
theorem dX1_hear_70 : decode cX1_hear 70 = .ok (.invokevirtual 55, 3) := by decide +kernel
theorem dX1_hear_73 : decode cX1_hear 73 = .ok (.istore 8, 2) := by decide +kernel
theorem dX1_hear_75 : decode cX1_hear 75 = .ok (.aload_n 0, 1) := by decide +kernel
theorem dX1_hear_76 : decode cX1_hear 76 = .ok (.getfield 27, 3) := by decide +kernel
theorem dX1_hear_79 : decode cX1_hear 79 = .ok (.aload_n 1, 1) := by decide +kernel
theorem dX1_hear_80 : decode cX1_hear 80 = .ok (.iload 5, 2) := by decide +kernel
theorem dX1_hear_82 : decode cX1_hear 82 = .ok (.invokevirtual 55, 3) := by decide +kernel
theorem dX1_hear_85 : decode cX1_hear 85 = .ok (.istore 9, 2) := by decide +kernel
theorem dX1_hear_87 : decode cX1_hear 87 = .ok (.aload_n 0, 1) := by decide +kernel
theorem dX1_hear_88 : decode cX1_hear 88 = .ok (.getfield 31, 3) := by decide +kernel
theorem dX1_hear_91 : decode cX1_hear 91 = .ok (.aload_n 1, 1) := by decide +kernel
theorem dX1_hear_92 : decode cX1_hear 92 = .ok (.iload 5, 2) := by decide +kernel
theorem dX1_hear_94 : decode cX1_hear 94 = .ok (.invokevirtual 55, 3) := by decide +kernel
theorem dX1_hear_97 : decode cX1_hear 97 = .ok (.istore 10, 2) := by decide +kernel
theorem dX1_hear_99 : decode cX1_hear 99 = .ok (.iload 5, 2) := by decide +kernel
theorem dX1_hear_101 : decode cX1_hear 101 = .ok (.istore 11, 2) := by decide +kernel
theorem dX1_hear_103 : decode cX1_hear 103 = .ok (.iload 11, 2) := by decide +kernel
theorem dX1_hear_105 : decode cX1_hear 105 = .ok (.iload 6, 2) := by decide +kernel
theorem dX1_hear_107 : decode cX1_hear 107 = .ok (.if_icmp .ge 185, 3) := by decide +kernel
theorem dX1_hear_110 : decode cX1_hear 110 = .ok (.aload_n 0, 1) := by decide +kernel
theorem dX1_hear_111 : decode cX1_hear 111 = .ok (.getfield 27, 3) := by decide +kernel
theorem dX1_hear_114 : decode cX1_hear 114 = .ok (.aload_n 1, 1) := by decide +kernel
theorem dX1_hear_115 : decode cX1_hear 115 = .ok (.iload 11, 2) := by decide +kernel
theorem dX1_hear_117 : decode cX1_hear 117 = .ok (.iconst 1, 1) := by decide +kernel
theorem dX1_hear_118 : decode cX1_hear 118 = .ok (.iadd, 1) := by decide +kernel
theorem dX1_hear_119 : decode cX1_hear 119 = .ok (.invokevirtual 55, 3) := by decide +kernel
theorem dX1_hear_122 : decode cX1_hear 122 = .ok (.istore 12, 2) := by decide +kernel
theorem dX1_hear_124 : decode cX1_hear 124 = .ok (.aload_n 0, 1) := by decide +kernel
theorem dX1_hear_125 : decode cX1_hear 125 = .ok (.getfield 31, 3) := by decide +kernel
theorem dX1_hear_128 : decode cX1_hear 128 = .ok (.aload_n 1, 1) := by decide +kernel
theorem dX1_hear_129 : decode cX1_hear 129 = .ok (.iload 11, 2) := by decide +kernel
theorem dX1_hear_131 : decode cX1_hear 131 = .ok (.iconst 1, 1) := by decide +kernel
theorem dX1_hear_132 : decode cX1_hear 132 = .ok (.iadd, 1) := by decide +kernel
theorem dX1_hear_133 : decode cX1_hear 133 = .ok (.invokevirtual 55, 3) := by decide +kernel
theorem dX1_hear_136 : decode cX1_hear 136 = .ok (.istore 13, 2) := by decide +kernel
theorem dX1_hear_138 : decode cX1_hear 138 = .ok (.aload_n 0, 1) := by decide +kernel
theorem dX1_hear_139 : decode cX1_hear 139 = .ok (.aload_n 1, 1) := by decide +kernel
theorem dX1_hear_140 : decode cX1_hear 140 = .ok (.iload 9, 2) := by decide +kernel
theorem dX1_hear_142 : decode cX1_hear 142 = .ok (.iload 10, 2) := by decide +kernel
theorem dX1_hear_144 : decode cX1_hear 144 = .ok (.invokevirtual 59, 3) := by decide +kernel
theorem dX1_hear_147 : decode cX1_hear 147 = .ok (.istore 14, 2) := by decide +kernel
theorem dX1_hear_149 : decode cX1_hear 149 = .ok (.iload 14, 2) := by decide +kernel
theorem dX1_hear_151 : decode cX1_hear 151 = .ok (.ldc 63, 2) := by decide +kernel
theorem dX1_hear_153 : decode cX1_hear 153 = .ok (.if_icmp .eq 117, 3) := by decide +kernel
theorem dX1_hear_156 : decode cX1_hear 156 = .ok (.aload_n 0, 1) := by decide +kernel
theorem dX1_hear_157 : decode cX1_hear 157 = .ok (.dup, 1) := by decide +kernel
theorem dX1_hear_158 : decode cX1_hear 158 = .ok (.getfield 64, 3) := by decide +kernel
theorem dX1_hear_161 : decode cX1_hear 161 = .ok (.iconst 1, 1) := by decide +kernel
theorem dX1_hear_162 : decode cX1_hear 162 = .ok (.iadd, 1) := by decide +kernel
theorem dX1_hear_163 : decode cX1_hear 163 = .ok (.putfield 64, 3) := by decide +kernel
theorem dX1_hear_166 : decode cX1_hear 166 = .ok (.aload_n 0, 1) := by decide +kernel
theorem dX1_hear_167 : decode cX1_hear 167 = .ok (.aload_n 0, 1) := by decide +kernel
theorem dX1_hear_168 : decode cX1_hear 168 = .ok (.getfield 67, 3) := by decide +kernel
theorem dX1_hear_171 : decode cX1_hear 171 = .ok (.iload 14, 2) := by decide +kernel
theorem dX1_hear_173 : decode cX1_hear 173 = .ok (.invokestatic 70, 3) := by decide +kernel
theorem dX1_hear_176 : decode cX1_hear 176 = .ok (.invokestatic 42, 3) := by decide +kernel
theorem dX1_hear_179 : decode cX1_hear 179 = .ok (.putfield 67, 3) := by decide +kernel
theorem dX1_hear_182 : decode cX1_hear 182 = .ok (.iload 9, 2) := by decide +kernel
theorem dX1_hear_184 : decode cX1_hear 184 = .ok (.iload 7, 2) := by decide +kernel
theorem dX1_hear_186 : decode cX1_hear 186 = .ok (.if_icmp .ne 10, 3) := by decide +kernel
theorem dX1_hear_189 : decode cX1_hear 189 = .ok (.iload 10, 2) := by decide +kernel
theorem dX1_hear_191 : decode cX1_hear 191 = .ok (.iload 8, 2) := by decide +kernel
theorem dX1_hear_193 : decode cX1_hear 193 = .ok (.if_icmp .eq 77, 3) := by decide +kernel
theorem dX1_hear_196 : decode cX1_hear 196 = .ok (.aload_n 0, 1) := by decide +kernel
theorem dX1_hear_197 : decode cX1_hear 197 = .ok (.aload_n 1, 1) := by decide +kernel
theorem dX1_hear_198 : decode cX1_hear 198 = .ok (.iload 12, 2) := by decide +kernel
theorem dX1_hear_200 : decode cX1_hear 200 = .ok (.iload 13, 2) := by decide +kernel
theorem dX1_hear_202 : decode cX1_hear 202 = .ok (.invokevirtual 59, 3) := by decide +kernel
theorem dX1_hear_205 : decode cX1_hear 205 = .ok (.ldc 63, 2) := by decide +kernel
theorem dX1_hear_207 : decode cX1_hear 207 = .ok (.if_icmp .ne 7, 3) := by decide +kernel
theorem dX1_hear_210 : decode cX1_hear 210 = .ok (.iconst 1, 1) := by decide +kernel
theorem dX1_hear_211 : decode cX1_hear 211 = .ok (.goto 4, 3) := by decide +kernel
theorem dX1_hear_214 : decode cX1_hear 214 = .ok (.iconst 0, 1) := by decide +kernel
theorem dX1_hear_215 : decode cX1_hear 215 = .ok (.istore 15, 2) := by decide +kernel
theorem dX1_hear_217 : decode cX1_hear 217 = .ok (.aload_n 0, 1) := by decide +kernel
theorem dX1_hear_218 : decode cX1_hear 218 = .ok (.iload 11, 2) := by decide +kernel
theorem dX1_hear_220 : decode cX1_hear 220 = .ok (.iload 14, 2) := by decide +kernel
theorem dX1_hear_222 : decode cX1_hear 222 = .ok (.aload_n 0, 1) := by decide +kernel
theorem dX1_hear_223 : decode cX1_hear 223 = .ok (.aload_n 1, 1) := by decide +kernel
theorem dX1_hear_224 : decode cX1_hear 224 = .ok (.iload 7, 2) := by decide +kernel
theorem dX1_hear_226 : decode cX1_hear 226 = .ok (.iload 8, 2) := by decide +kernel
theorem dX1_hear_228 : decode cX1_hear 228 = .ok (.invokevirtual 59, 3) := by decide +kernel
theorem dX1_hear_231 : decode cX1_hear 231 = .ok (.invokevirtual 74, 3) := by decide +kernel
theorem dX1_hear_234 : decode cX1_hear 234 = .ok (.aload_n 0, 1) := by decide +kernel
theorem dX1_hear_235 : decode cX1_hear 235 = .ok (.iload 11, 2) := by decide +kernel
theorem dX1_hear_237 : decode cX1_hear 237 = .ok (.iload_n 2, 1) := by decide +kernel
theorem dX1_hear_238 : decode cX1_hear 238 = .ok (.invokestatic 78, 3) := by decide +kernel
theorem dX1_hear_241 : decode cX1_hear 241 = .ok (.aload_n 0, 1) := by decide +kernel
theorem dX1_hear_242 : decode cX1_hear 242 = .ok (.getfield 27, 3) := by decide +kernel
theorem dX1_hear_245 : decode cX1_hear 245 = .ok (.aload_n 1, 1) := by decide +kernel
theorem dX1_hear_246 : decode cX1_hear 246 = .ok (.iload 7, 2) := by decide +kernel
theorem dX1_hear_248 : decode cX1_hear 248 = .ok (.iload 9, 2) := by decide +kernel
theorem dX1_hear_250 : decode cX1_hear 250 = .ok (.invokestatic 81, 3) := by decide +kernel
theorem dX1_hear_253 : decode cX1_hear 253 = .ok (.aload_n 0, 1) := by decide +kernel
theorem dX1_hear_254 : decode cX1_hear 254 = .ok (.getfield 31, 3) := by decide +kernel
theorem dX1_hear_257 : decode cX1_hear 257 = .ok (.aload_n 1, 1) := by decide +kernel
theorem dX1_hear_258 : decode cX1_hear 258 = .ok (.iload 8, 2) := by decide +kernel
theorem dX1_hear_260 : decode cX1_hear 260 = .ok (.iload 10, 2) := by decide +kernel
theorem dX1_hear_262 : decode cX1_hear 262 = .ok (.invokestatic 81, 3) := by decide +kernel
theorem dX1_hear_265 : decode cX1_hear 265 = .ok (.iload 15, 2) := by decide +kernel
theorem dX1_hear_267 : decode cX1_hear 267 = .ok (.invokevirtual 85, 3) := by decide +kernel
theorem dX1_hear_270 : decode cX1_hear 270 = .ok (.iload 9, 2) := by decide +kernel
theorem dX1_hear_272 : decode cX1_hear 272 = .ok (.istore 7, 2) := by decide +kernel
theorem dX1_hear_274 : decode cX1_hear 274 = .ok (.iload 10, 2) := by decide +kernel
theorem dX1_hear_276 : decode cX1_hear 276 = .ok (.istore 8, 2) := by decide +kernel
theorem dX1_hear_278 : decode cX1_hear 278 = .ok (.iload 12, 2) := by decide +kernel
theorem dX1_hear_280 : decode cX1_hear 280 = .ok (.istore 9, 2) := by decide +kernel
theorem dX1_hear_282 : decode cX1_hear 282 = .ok (.iload 13, 2) := by decide +kernel
theorem dX1_hear_284 : decode cX1_hear 284 = .ok (.istore 10, 2) := by decide +kernel
theorem dX1_hear_286 : decode cX1_hear 286 = .ok (.iinc 11 1, 3) := by decide +kernel
theorem dX1_hear_289 : decode cX1_hear 289 = .ok (.goto (-186), 3) := by decide +kernel
theorem dX1_hear_292 : decode cX1_hear 292 = .ok (.return_, 1) := by decide +kernel
theorem dX1_hearRound_0 : decode cX1_hearRound 0 = .ok (.aload_n 0, 1) := by decide +kernel
theorem dX1_hearRound_1 : decode cX1_hearRound 1 = .ok (.bipush 84, 2) := by decide +kernel
theorem dX1_hearRound_3 : decode cX1_hearRound 3 = .ok (.iload_n 3, 1) := by decide +kernel
theorem dX1_hearRound_4 : decode cX1_hearRound 4 = .ok (.invokevirtual 34, 3) := by decide +kernel
theorem dX1_hearRound_7 : decode cX1_hearRound 7 = .ok (.aload_n 1, 1) := by decide +kernel
theorem dX1_hearRound_8 : decode cX1_hearRound 8 = .ok (.getfield 89, 3) := by decide +kernel
theorem dX1_hearRound_11 : decode cX1_hearRound 11 = .ok (.istore 4, 2) := by decide +kernel
theorem dX1_hearRound_13 : decode cX1_hearRound 13 = .ok (.iload 4, 2) := by decide +kernel
theorem dX1_hearRound_15 : decode cX1_hearRound 15 = .ok (.ifCond .ne 4, 3) := by decide +kernel
theorem dX1_hearRound_18 : decode cX1_hearRound 18 = .ok (.return_, 1) := by decide +kernel
theorem dX1_hearRound_19 : decode cX1_hearRound 19 = .ok (.aload_n 0, 1) := by decide +kernel
theorem dX1_hearRound_20 : decode cX1_hearRound 20 = .ok (.getfield 31, 3) := by decide +kernel
theorem dX1_hearRound_23 : decode cX1_hearRound 23 = .ok (.getfield 38, 3) := by decide +kernel
theorem dX1_hearRound_26 : decode cX1_hearRound 26 = .ok (.istore 5, 2) := by decide +kernel
theorem dX1_hearRound_28 : decode cX1_hearRound 28 = .ok (.iload 5, 2) := by decide +kernel
theorem dX1_hearRound_30 : decode cX1_hearRound 30 = .ok (.aload_n 0, 1) := by decide +kernel
theorem dX1_hearRound_31 : decode cX1_hearRound 31 = .ok (.getfield 31, 3) := by decide +kernel
theorem dX1_hearRound_34 : decode cX1_hearRound 34 = .ok (.getfield 38, 3) := by decide +kernel
theorem dX1_hearRound_37 : decode cX1_hearRound 37 = .ok (.iload 4, 2) := by decide +kernel
theorem dX1_hearRound_39 : decode cX1_hearRound 39 = .ok (.iadd, 1) := by decide +kernel
theorem dX1_hearRound_40 : decode cX1_hearRound 40 = .ok (.if_icmp .ge 177, 3) := by decide +kernel
theorem dX1_hearRound_43 : decode cX1_hearRound 43 = .ok (.iload 5, 2) := by decide +kernel
theorem dX1_hearRound_45 : decode cX1_hearRound 45 = .ok (.aload_n 0, 1) := by decide +kernel
theorem dX1_hearRound_46 : decode cX1_hearRound 46 = .ok (.getfield 31, 3) := by decide +kernel
theorem dX1_hearRound_49 : decode cX1_hearRound 49 = .ok (.getfield 38, 3) := by decide +kernel
theorem dX1_hearRound_52 : decode cX1_hearRound 52 = .ok (.isub, 1) := by decide +kernel
theorem dX1_hearRound_53 : decode cX1_hearRound 53 = .ok (.istore 6, 2) := by decide +kernel
theorem dX1_hearRound_55 : decode cX1_hearRound 55 = .ok (.aload_n 0, 1) := by decide +kernel
theorem dX1_hearRound_56 : decode cX1_hearRound 56 = .ok (.getfield 27, 3) := by decide +kernel
theorem dX1_hearRound_59 : decode cX1_hearRound 59 = .ok (.aload_n 1, 1) := by decide +kernel
theorem dX1_hearRound_60 : decode cX1_hearRound 60 = .ok (.iload 5, 2) := by decide +kernel
theorem dX1_hearRound_62 : decode cX1_hearRound 62 = .ok (.iconst 1, 1) := by decide +kernel
theorem dX1_hearRound_63 : decode cX1_hearRound 63 = .ok (.isub, 1) := by decide +kernel
theorem dX1_hearRound_64 : decode cX1_hearRound 64 = .ok (.iload 4, 2) := by decide +kernel
theorem dX1_hearRound_66 : decode cX1_hearRound 66 = .ok (.invokestatic 94, 3) := by decide +kernel
theorem dX1_hearRound_69 : decode cX1_hearRound 69 = .ok (.invokevirtual 97, 3) := by decide +kernel
theorem dX1_hearRound_72 : decode cX1_hearRound 72 = .ok (.istore 7, 2) := by decide +kernel
theorem dX1_hearRound_74 : decode cX1_hearRound 74 = .ok (.aload_n 0, 1) := by decide +kernel
theorem dX1_hearRound_75 : decode cX1_hearRound 75 = .ok (.getfield 27, 3) := by decide +kernel
theorem dX1_hearRound_78 : decode cX1_hearRound 78 = .ok (.aload_n 1, 1) := by decide +kernel
theorem dX1_hearRound_79 : decode cX1_hearRound 79 = .ok (.iload 5, 2) := by decide +kernel
theorem dX1_hearRound_81 : decode cX1_hearRound 81 = .ok (.iload 4, 2) := by decide +kernel
theorem dX1_hearRound_83 : decode cX1_hearRound 83 = .ok (.invokestatic 94, 3) := by decide +kernel
theorem dX1_hearRound_86 : decode cX1_hearRound 86 = .ok (.invokevirtual 97, 3) := by decide +kernel
theorem dX1_hearRound_89 : decode cX1_hearRound 89 = .ok (.istore 8, 2) := by decide +kernel
theorem dX1_hearRound_91 : decode cX1_hearRound 91 = .ok (.aload_n 0, 1) := by decide +kernel
theorem dX1_hearRound_92 : decode cX1_hearRound 92 = .ok (.getfield 31, 3) := by decide +kernel
theorem dX1_hearRound_95 : decode cX1_hearRound 95 = .ok (.aload_n 1, 1) := by decide +kernel
theorem dX1_hearRound_96 : decode cX1_hearRound 96 = .ok (.iload 6, 2) := by decide +kernel
theorem dX1_hearRound_98 : decode cX1_hearRound 98 = .ok (.iconst 1, 1) := by decide +kernel
theorem dX1_hearRound_99 : decode cX1_hearRound 99 = .ok (.isub, 1) := by decide +kernel
theorem dX1_hearRound_100 : decode cX1_hearRound 100 = .ok (.iload 4, 2) := by decide +kernel
theorem dX1_hearRound_102 : decode cX1_hearRound 102 = .ok (.invokestatic 94, 3) := by decide +kernel
theorem dX1_hearRound_105 : decode cX1_hearRound 105 = .ok (.invokevirtual 97, 3) := by decide +kernel
theorem dX1_hearRound_108 : decode cX1_hearRound 108 = .ok (.istore 9, 2) := by decide +kernel
theorem dX1_hearRound_110 : decode cX1_hearRound 110 = .ok (.aload_n 0, 1) := by decide +kernel
theorem dX1_hearRound_111 : decode cX1_hearRound 111 = .ok (.getfield 31, 3) := by decide +kernel
theorem dX1_hearRound_114 : decode cX1_hearRound 114 = .ok (.aload_n 1, 1) := by decide +kernel
theorem dX1_hearRound_115 : decode cX1_hearRound 115 = .ok (.iload 6, 2) := by decide +kernel
theorem dX1_hearRound_117 : decode cX1_hearRound 117 = .ok (.iload 4, 2) := by decide +kernel
theorem dX1_hearRound_119 : decode cX1_hearRound 119 = .ok (.invokestatic 94, 3) := by decide +kernel
theorem dX1_hearRound_122 : decode cX1_hearRound 122 = .ok (.invokevirtual 97, 3) := by decide +kernel
theorem dX1_hearRound_125 : decode cX1_hearRound 125 = .ok (.istore 10, 2) := by decide +kernel
theorem dX1_hearRound_127 : decode cX1_hearRound 127 = .ok (.aload_n 0, 1) := by decide +kernel
theorem dX1_hearRound_128 : decode cX1_hearRound 128 = .ok (.aload_n 1, 1) := by decide +kernel
theorem dX1_hearRound_129 : decode cX1_hearRound 129 = .ok (.iload 8, 2) := by decide +kernel
theorem dX1_hearRound_131 : decode cX1_hearRound 131 = .ok (.iload 10, 2) := by decide +kernel
theorem dX1_hearRound_133 : decode cX1_hearRound 133 = .ok (.invokevirtual 59, 3) := by decide +kernel
theorem dX1_hearRound_136 : decode cX1_hearRound 136 = .ok (.istore 11, 2) := by decide +kernel
theorem dX1_hearRound_138 : decode cX1_hearRound 138 = .ok (.iload 11, 2) := by decide +kernel
theorem dX1_hearRound_140 : decode cX1_hearRound 140 = .ok (.ldc 63, 2) := by decide +kernel
theorem dX1_hearRound_142 : decode cX1_hearRound 142 = .ok (.if_icmp .eq 69, 3) := by decide +kernel
theorem dX1_hearRound_145 : decode cX1_hearRound 145 = .ok (.iload 8, 2) := by decide +kernel
theorem dX1_hearRound_147 : decode cX1_hearRound 147 = .ok (.iload 7, 2) := by decide +kernel
theorem dX1_hearRound_149 : decode cX1_hearRound 149 = .ok (.if_icmp .ne 10, 3) := by decide +kernel
theorem dX1_hearRound_152 : decode cX1_hearRound 152 = .ok (.iload 10, 2) := by decide +kernel
theorem dX1_hearRound_154 : decode cX1_hearRound 154 = .ok (.iload 9, 2) := by decide +kernel
theorem dX1_hearRound_156 : decode cX1_hearRound 156 = .ok (.if_icmp .eq 55, 3) := by decide +kernel
theorem dX1_hearRound_159 : decode cX1_hearRound 159 = .ok (.aload_n 0, 1) := by decide +kernel
theorem dX1_hearRound_160 : decode cX1_hearRound 160 = .ok (.iload 5, 2) := by decide +kernel
theorem dX1_hearRound_162 : decode cX1_hearRound 162 = .ok (.iload 11, 2) := by decide +kernel
theorem dX1_hearRound_164 : decode cX1_hearRound 164 = .ok (.aload_n 0, 1) := by decide +kernel
theorem dX1_hearRound_165 : decode cX1_hearRound 165 = .ok (.aload_n 1, 1) := by decide +kernel
theorem dX1_hearRound_166 : decode cX1_hearRound 166 = .ok (.iload 7, 2) := by decide +kernel
theorem dX1_hearRound_168 : decode cX1_hearRound 168 = .ok (.iload 9, 2) := by decide +kernel
theorem dX1_hearRound_170 : decode cX1_hearRound 170 = .ok (.invokevirtual 59, 3) := by decide +kernel
theorem dX1_hearRound_173 : decode cX1_hearRound 173 = .ok (.invokevirtual 74, 3) := by decide +kernel
theorem dX1_hearRound_176 : decode cX1_hearRound 176 = .ok (.aload_n 0, 1) := by decide +kernel
theorem dX1_hearRound_177 : decode cX1_hearRound 177 = .ok (.iload 5, 2) := by decide +kernel
theorem dX1_hearRound_179 : decode cX1_hearRound 179 = .ok (.iload_n 2, 1) := by decide +kernel
theorem dX1_hearRound_180 : decode cX1_hearRound 180 = .ok (.invokestatic 78, 3) := by decide +kernel
theorem dX1_hearRound_183 : decode cX1_hearRound 183 = .ok (.aload_n 0, 1) := by decide +kernel
theorem dX1_hearRound_184 : decode cX1_hearRound 184 = .ok (.getfield 27, 3) := by decide +kernel
theorem dX1_hearRound_187 : decode cX1_hearRound 187 = .ok (.aload_n 1, 1) := by decide +kernel
theorem dX1_hearRound_188 : decode cX1_hearRound 188 = .ok (.iload 7, 2) := by decide +kernel
theorem dX1_hearRound_190 : decode cX1_hearRound 190 = .ok (.iload 8, 2) := by decide +kernel
theorem dX1_hearRound_192 : decode cX1_hearRound 192 = .ok (.invokestatic 81, 3) := by decide +kernel
theorem dX1_hearRound_195 : decode cX1_hearRound 195 = .ok (.aload_n 0, 1) := by decide +kernel
theorem dX1_hearRound_196 : decode cX1_hearRound 196 = .ok (.getfield 31, 3) := by decide +kernel
theorem dX1_hearRound_199 : decode cX1_hearRound 199 = .ok (.aload_n 1, 1) := by decide +kernel
theorem dX1_hearRound_200 : decode cX1_hearRound 200 = .ok (.iload 9, 2) := by decide +kernel
theorem dX1_hearRound_202 : decode cX1_hearRound 202 = .ok (.iload 10, 2) := by decide +kernel
theorem dX1_hearRound_204 : decode cX1_hearRound 204 = .ok (.invokestatic 81, 3) := by decide +kernel
theorem dX1_hearRound_207 : decode cX1_hearRound 207 = .ok (.iconst 0, 1) := by decide +kernel
theorem dX1_hearRound_208 : decode cX1_hearRound 208 = .ok (.invokevirtual 85, 3) := by decide +kernel
theorem dX1_hearRound_211 : decode cX1_hearRound 211 = .ok (.iinc 5 1, 3) := by decide +kernel
theorem dX1_hearRound_214 : decode cX1_hearRound 214 = .ok (.goto (-186), 3) := by decide +kernel
theorem dX1_hearRound_217 : decode cX1_hearRound 217 = .ok (.return_, 1) := by decide +kernel
theorem dX1_begin_0 : decode cX1_begin 0 = .ok (.iload_n 1, 1) := by decide +kernel
theorem dX1_begin_1 : decode cX1_begin 1 = .ok (.bipush 84, 2) := by decide +kernel
theorem dX1_begin_3 : decode cX1_begin 3 = .ok (.if_icmp .eq 14, 3) := by decide +kernel
theorem dX1_begin_6 : decode cX1_begin 6 = .ok (.iload_n 2, 1) := by decide +kernel
theorem dX1_begin_7 : decode cX1_begin 7 = .ok (.bipush 84, 2) := by decide +kernel
theorem dX1_begin_9 : decode cX1_begin 9 = .ok (.if_icmp .eq 12, 3) := by decide +kernel
theorem dX1_begin_12 : decode cX1_begin 12 = .ok (.iload_n 1, 1) := by decide +kernel
theorem dX1_begin_13 : decode cX1_begin 13 = .ok (.iload_n 2, 1) := by decide +kernel
theorem dX1_begin_14 : decode cX1_begin 14 = .ok (.if_icmp .ge 7, 3) := by decide +kernel
theorem dX1_begin_17 : decode cX1_begin 17 = .ok (.iconst 1, 1) := by decide +kernel
theorem dX1_begin_18 : decode cX1_begin 18 = .ok (.goto 4, 3) := by decide +kernel
theorem dX1_begin_21 : decode cX1_begin 21 = .ok (.iconst 0, 1) := by decide +kernel
theorem dX1_begin_22 : decode cX1_begin 22 = .ok (.istore_n 3, 1) := by decide +kernel
theorem dX1_begin_23 : decode cX1_begin 23 = .ok (.aload_n 0, 1) := by decide +kernel
theorem dX1_begin_24 : decode cX1_begin 24 = .ok (.getfield 27, 3) := by decide +kernel
theorem dX1_begin_27 : decode cX1_begin 27 = .ok (.iload_n 3, 1) := by decide +kernel
theorem dX1_begin_28 : decode cX1_begin 28 = .ok (.ifCond .eq 7, 3) := by decide +kernel
theorem dX1_begin_31 : decode cX1_begin 31 = .ok (.iload_n 1, 1) := by decide +kernel
theorem dX1_begin_32 : decode cX1_begin 32 = .ok (.goto 4, 3) := by decide +kernel
theorem dX1_begin_35 : decode cX1_begin 35 = .ok (.iload_n 2, 1) := by decide +kernel
theorem dX1_begin_36 : decode cX1_begin 36 = .ok (.invokevirtual 100, 3) := by decide +kernel
theorem dX1_begin_39 : decode cX1_begin 39 = .ok (.aload_n 0, 1) := by decide +kernel
theorem dX1_begin_40 : decode cX1_begin 40 = .ok (.getfield 31, 3) := by decide +kernel
theorem dX1_begin_43 : decode cX1_begin 43 = .ok (.iload_n 3, 1) := by decide +kernel
theorem dX1_begin_44 : decode cX1_begin 44 = .ok (.ifCond .eq 7, 3) := by decide +kernel
theorem dX1_begin_47 : decode cX1_begin 47 = .ok (.iload_n 2, 1) := by decide +kernel
theorem dX1_begin_48 : decode cX1_begin 48 = .ok (.goto 4, 3) := by decide +kernel
theorem dX1_begin_51 : decode cX1_begin 51 = .ok (.iload_n 1, 1) := by decide +kernel
theorem dX1_begin_52 : decode cX1_begin 52 = .ok (.invokevirtual 100, 3) := by decide +kernel
theorem dX1_begin_55 : decode cX1_begin 55 = .ok (.aload_n 0, 1) := by decide +kernel
theorem dX1_begin_56 : decode cX1_begin 56 = .ok (.iconst 0, 1) := by decide +kernel
theorem dX1_begin_57 : decode cX1_begin 57 = .ok (.putfield 104, 3) := by decide +kernel
theorem dX1_begin_60 : decode cX1_begin 60 = .ok (.aload_n 0, 1) := by decide +kernel
theorem dX1_begin_61 : decode cX1_begin 61 = .ok (.iconst 0, 1) := by decide +kernel
theorem dX1_begin_62 : decode cX1_begin 62 = .ok (.putfield 64, 3) := by decide +kernel
theorem dX1_begin_65 : decode cX1_begin 65 = .ok (.aload_n 0, 1) := by decide +kernel
theorem dX1_begin_66 : decode cX1_begin 66 = .ok (.iconst 0, 1) := by decide +kernel
theorem dX1_begin_67 : decode cX1_begin 67 = .ok (.putfield 67, 3) := by decide +kernel
theorem dX1_begin_70 : decode cX1_begin 70 = .ok (.return_, 1) := by decide +kernel
theorem dX1_beatOf_0 : decode cX1_beatOf 0 = .ok (.iload_n 1, 1) := by decide +kernel
theorem dX1_beatOf_1 : decode cX1_beatOf 1 = .ok (.ifCond .le 9, 3) := by decide +kernel
theorem dX1_beatOf_4 : decode cX1_beatOf 4 = .ok (.iload_n 0, 1) := by decide +kernel
theorem dX1_beatOf_5 : decode cX1_beatOf 5 = .ok (.iload_n 1, 1) := by decide +kernel
theorem dX1_beatOf_6 : decode cX1_beatOf 6 = .ok (.irem, 1) := by decide +kernel
theorem dX1_beatOf_7 : decode cX1_beatOf 7 = .ok (.goto 4, 3) := by decide +kernel
theorem dX1_beatOf_10 : decode cX1_beatOf 10 = .ok (.iconst 0, 1) := by decide +kernel
theorem dX1_beatOf_11 : decode cX1_beatOf 11 = .ok (.ireturn, 1) := by decide +kernel
theorem dX1_apartAt_0 : decode cX1_apartAt 0 = .ok (.aload_n 0, 1) := by decide +kernel
theorem dX1_apartAt_1 : decode cX1_apartAt 1 = .ok (.getfield 27, 3) := by decide +kernel
theorem dX1_apartAt_4 : decode cX1_apartAt 4 = .ok (.aload_n 1, 1) := by decide +kernel
theorem dX1_apartAt_5 : decode cX1_apartAt 5 = .ok (.iload_n 2, 1) := by decide +kernel
theorem dX1_apartAt_6 : decode cX1_apartAt 6 = .ok (.invokevirtual 107, 3) := by decide +kernel
theorem dX1_apartAt_9 : decode cX1_apartAt 9 = .ok (.istore 4, 2) := by decide +kernel
theorem dX1_apartAt_11 : decode cX1_apartAt 11 = .ok (.aload_n 0, 1) := by decide +kernel
theorem dX1_apartAt_12 : decode cX1_apartAt 12 = .ok (.getfield 31, 3) := by decide +kernel
theorem dX1_apartAt_15 : decode cX1_apartAt 15 = .ok (.aload_n 1, 1) := by decide +kernel
theorem dX1_apartAt_16 : decode cX1_apartAt 16 = .ok (.iload_n 3, 1) := by decide +kernel
theorem dX1_apartAt_17 : decode cX1_apartAt 17 = .ok (.invokevirtual 107, 3) := by decide +kernel
theorem dX1_apartAt_20 : decode cX1_apartAt 20 = .ok (.istore 5, 2) := by decide +kernel
theorem dX1_apartAt_22 : decode cX1_apartAt 22 = .ok (.iload 4, 2) := by decide +kernel
theorem dX1_apartAt_24 : decode cX1_apartAt 24 = .ok (.ldc 63, 2) := by decide +kernel
theorem dX1_apartAt_26 : decode cX1_apartAt 26 = .ok (.if_icmp .eq 10, 3) := by decide +kernel
theorem dX1_apartAt_29 : decode cX1_apartAt 29 = .ok (.iload 5, 2) := by decide +kernel
theorem dX1_apartAt_31 : decode cX1_apartAt 31 = .ok (.ldc 63, 2) := by decide +kernel
theorem dX1_apartAt_33 : decode cX1_apartAt 33 = .ok (.if_icmp .ne 8, 3) := by decide +kernel
theorem dX1_apartAt_36 : decode cX1_apartAt 36 = .ok (.ldc 63, 2) := by decide +kernel
theorem dX1_apartAt_38 : decode cX1_apartAt 38 = .ok (.goto 8, 3) := by decide +kernel
theorem dX1_apartAt_41 : decode cX1_apartAt 41 = .ok (.iload 5, 2) := by decide +kernel
theorem dX1_apartAt_43 : decode cX1_apartAt 43 = .ok (.iload 4, 2) := by decide +kernel
theorem dX1_apartAt_45 : decode cX1_apartAt 45 = .ok (.isub, 1) := by decide +kernel
theorem dX1_apartAt_46 : decode cX1_apartAt 46 = .ok (.ireturn, 1) := by decide +kernel
theorem dX1_rise_0 : decode cX1_rise 0 = .ok (.aload_n 0, 1) := by decide +kernel
theorem dX1_rise_1 : decode cX1_rise 1 = .ok (.aload_n 1, 1) := by decide +kernel
theorem dX1_rise_2 : decode cX1_rise 2 = .ok (.iload_n 2, 1) := by decide +kernel
theorem dX1_rise_3 : decode cX1_rise 3 = .ok (.invokevirtual 107, 3) := by decide +kernel
theorem dX1_rise_6 : decode cX1_rise 6 = .ok (.istore 4, 2) := by decide +kernel
theorem dX1_rise_8 : decode cX1_rise 8 = .ok (.iload 4, 2) := by decide +kernel
theorem dX1_rise_10 : decode cX1_rise 10 = .ok (.ldc 63, 2) := by decide +kernel
theorem dX1_rise_12 : decode cX1_rise 12 = .ok (.if_icmp .ne 7, 3) := by decide +kernel
theorem dX1_rise_15 : decode cX1_rise 15 = .ok (.iconst 0, 1) := by decide +kernel
theorem dX1_rise_16 : decode cX1_rise 16 = .ok (.goto 12, 3) := by decide +kernel
theorem dX1_rise_19 : decode cX1_rise 19 = .ok (.aload_n 0, 1) := by decide +kernel
theorem dX1_rise_20 : decode cX1_rise 20 = .ok (.aload_n 1, 1) := by decide +kernel
theorem dX1_rise_21 : decode cX1_rise 21 = .ok (.iload_n 3, 1) := by decide +kernel
theorem dX1_rise_22 : decode cX1_rise 22 = .ok (.invokevirtual 107, 3) := by decide +kernel
theorem dX1_rise_25 : decode cX1_rise 25 = .ok (.iload 4, 2) := by decide +kernel
theorem dX1_rise_27 : decode cX1_rise 27 = .ok (.isub, 1) := by decide +kernel
theorem dX1_rise_28 : decode cX1_rise 28 = .ok (.ireturn, 1) := by decide +kernel
theorem dX1_mark_0 : decode cX1_mark 0 = .ok (.aload_n 0, 1) := by decide +kernel
theorem dX1_mark_1 : decode cX1_mark 1 = .ok (.getfield 104, 3) := by decide +kernel
theorem dX1_mark_4 : decode cX1_mark 4 = .ok (.bipush 48, 2) := by decide +kernel
theorem dX1_mark_6 : decode cX1_mark 6 = .ok (.if_icmp .ge 33, 3) := by decide +kernel
theorem dX1_mark_9 : decode cX1_mark 9 = .ok (.aload_n 0, 1) := by decide +kernel
theorem dX1_mark_10 : decode cX1_mark 10 = .ok (.getfield 11, 3) := by decide +kernel
theorem dX1_mark_13 : decode cX1_mark 13 = .ok (.aload_n 0, 1) := by decide +kernel
theorem dX1_mark_14 : decode cX1_mark 14 = .ok (.getfield 104, 3) := by decide +kernel
theorem dX1_mark_17 : decode cX1_mark 17 = .ok (.iload_n 1, 1) := by decide +kernel
theorem dX1_mark_18 : decode cX1_mark 18 = .ok (.iastore, 1) := by decide +kernel
theorem dX1_mark_19 : decode cX1_mark 19 = .ok (.aload_n 0, 1) := by decide +kernel
theorem dX1_mark_20 : decode cX1_mark 20 = .ok (.getfield 15, 3) := by decide +kernel
theorem dX1_mark_23 : decode cX1_mark 23 = .ok (.aload_n 0, 1) := by decide +kernel
theorem dX1_mark_24 : decode cX1_mark 24 = .ok (.getfield 104, 3) := by decide +kernel
theorem dX1_mark_27 : decode cX1_mark 27 = .ok (.iload_n 2, 1) := by decide +kernel
theorem dX1_mark_28 : decode cX1_mark 28 = .ok (.iastore, 1) := by decide +kernel
theorem dX1_mark_29 : decode cX1_mark 29 = .ok (.aload_n 0, 1) := by decide +kernel
theorem dX1_mark_30 : decode cX1_mark 30 = .ok (.getfield 18, 3) := by decide +kernel
theorem dX1_mark_33 : decode cX1_mark 33 = .ok (.aload_n 0, 1) := by decide +kernel
theorem dX1_mark_34 : decode cX1_mark 34 = .ok (.getfield 104, 3) := by decide +kernel
theorem dX1_mark_37 : decode cX1_mark 37 = .ok (.iload_n 3, 1) := by decide +kernel
theorem dX1_mark_38 : decode cX1_mark 38 = .ok (.iastore, 1) := by decide +kernel
theorem dX1_mark_39 : decode cX1_mark 39 = .ok (.return_, 1) := by decide +kernel
theorem dX1_moved_0 : decode cX1_moved 0 = .ok (.aload_n 0, 1) := by decide +kernel
theorem dX1_moved_1 : decode cX1_moved 1 = .ok (.getfield 104, 3) := by decide +kernel
theorem dX1_moved_4 : decode cX1_moved 4 = .ok (.bipush 48, 2) := by decide +kernel
theorem dX1_moved_6 : decode cX1_moved 6 = .ok (.if_icmp .ge 30, 3) := by decide +kernel
theorem dX1_moved_9 : decode cX1_moved 9 = .ok (.aload_n 0, 1) := by decide +kernel
theorem dX1_moved_10 : decode cX1_moved 10 = .ok (.getfield 21, 3) := by decide +kernel
theorem dX1_moved_13 : decode cX1_moved 13 = .ok (.aload_n 0, 1) := by decide +kernel
theorem dX1_moved_14 : decode cX1_moved 14 = .ok (.getfield 104, 3) := by decide +kernel
theorem dX1_moved_17 : decode cX1_moved 17 = .ok (.iload_n 1, 1) := by decide +kernel
theorem dX1_moved_18 : decode cX1_moved 18 = .ok (.iload_n 2, 1) := by decide +kernel
theorem dX1_moved_19 : decode cX1_moved 19 = .ok (.iload_n 3, 1) := by decide +kernel
theorem dX1_moved_20 : decode cX1_moved 20 = .ok (.iload 4, 2) := by decide +kernel
theorem dX1_moved_22 : decode cX1_moved 22 = .ok (.invokestatic 110, 3) := by decide +kernel
theorem dX1_moved_25 : decode cX1_moved 25 = .ok (.iastore, 1) := by decide +kernel
theorem dX1_moved_26 : decode cX1_moved 26 = .ok (.aload_n 0, 1) := by decide +kernel
theorem dX1_moved_27 : decode cX1_moved 27 = .ok (.dup, 1) := by decide +kernel
theorem dX1_moved_28 : decode cX1_moved 28 = .ok (.getfield 104, 3) := by decide +kernel
theorem dX1_moved_31 : decode cX1_moved 31 = .ok (.iconst 1, 1) := by decide +kernel
theorem dX1_moved_32 : decode cX1_moved 32 = .ok (.iadd, 1) := by decide +kernel
theorem dX1_moved_33 : decode cX1_moved 33 = .ok (.putfield 104, 3) := by decide +kernel
theorem dX1_moved_36 : decode cX1_moved 36 = .ok (.return_, 1) := by decide +kernel
theorem dX1_tickOf_0 : decode cX1_tickOf 0 = .ok (.iload_n 1, 1) := by decide +kernel
theorem dX1_tickOf_1 : decode cX1_tickOf 1 = .ok (.ifCond .lt 26, 3) := by decide +kernel
theorem dX1_tickOf_4 : decode cX1_tickOf 4 = .ok (.iload_n 1, 1) := by decide +kernel
theorem dX1_tickOf_5 : decode cX1_tickOf 5 = .ok (.aload_n 0, 1) := by decide +kernel
theorem dX1_tickOf_6 : decode cX1_tickOf 6 = .ok (.getfield 104, 3) := by decide +kernel
theorem dX1_tickOf_9 : decode cX1_tickOf 9 = .ok (.if_icmp .ge 18, 3) := by decide +kernel
theorem dX1_tickOf_12 : decode cX1_tickOf 12 = .ok (.iload_n 1, 1) := by decide +kernel
theorem dX1_tickOf_13 : decode cX1_tickOf 13 = .ok (.bipush 48, 2) := by decide +kernel
theorem dX1_tickOf_15 : decode cX1_tickOf 15 = .ok (.if_icmp .ge 12, 3) := by decide +kernel
theorem dX1_tickOf_18 : decode cX1_tickOf 18 = .ok (.aload_n 0, 1) := by decide +kernel
theorem dX1_tickOf_19 : decode cX1_tickOf 19 = .ok (.getfield 11, 3) := by decide +kernel
theorem dX1_tickOf_22 : decode cX1_tickOf 22 = .ok (.iload_n 1, 1) := by decide +kernel
theorem dX1_tickOf_23 : decode cX1_tickOf 23 = .ok (.iaload, 1) := by decide +kernel
theorem dX1_tickOf_24 : decode cX1_tickOf 24 = .ok (.goto 4, 3) := by decide +kernel
theorem dX1_tickOf_27 : decode cX1_tickOf 27 = .ok (.iconst (-1), 1) := by decide +kernel
theorem dX1_tickOf_28 : decode cX1_tickOf 28 = .ok (.ireturn, 1) := by decide +kernel
theorem dX2_init_0 : decode cX2_init 0 = .ok (.aload_n 0, 1) := by decide +kernel
theorem dX2_init_1 : decode cX2_init 1 = .ok (.invokespecial 3, 3) := by decide +kernel
theorem dX2_init_4 : decode cX2_init 4 = .ok (.aload_n 0, 1) := by decide +kernel
theorem dX2_init_5 : decode cX2_init 5 = .ok (.sipush 4096, 3) := by decide +kernel
theorem dX2_init_8 : decode cX2_init 8 = .ok (.newarray .int, 2) := by decide +kernel
theorem dX2_init_10 : decode cX2_init 10 = .ok (.putfield 11, 3) := by decide +kernel
theorem dX2_init_13 : decode cX2_init 13 = .ok (.aload_n 0, 1) := by decide +kernel
theorem dX2_init_14 : decode cX2_init 14 = .ok (.sipush 4096, 3) := by decide +kernel
theorem dX2_init_17 : decode cX2_init 17 = .ok (.newarray .int, 2) := by decide +kernel
theorem dX2_init_19 : decode cX2_init 19 = .ok (.putfield 15, 3) := by decide +kernel
theorem dX2_init_22 : decode cX2_init 22 = .ok (.aload_n 0, 1) := by decide +kernel
theorem dX2_init_23 : decode cX2_init 23 = .ok (.bipush 8, 2) := by decide +kernel
theorem dX2_init_25 : decode cX2_init 25 = .ok (.newarray .int, 2) := by decide +kernel
theorem dX2_init_27 : decode cX2_init 27 = .ok (.putfield 18, 3) := by decide +kernel
theorem dX2_init_30 : decode cX2_init 30 = .ok (.aload_n 0, 1) := by decide +kernel
theorem dX2_init_31 : decode cX2_init 31 = .ok (.aload_n 1, 1) := by decide +kernel
theorem dX2_init_32 : decode cX2_init 32 = .ok (.invokevirtual 21, 3) := by decide +kernel
theorem dX2_init_35 : decode cX2_init 35 = .ok (.return_, 1) := by decide +kernel
theorem dX2_follow_0 : decode cX2_follow 0 = .ok (.aload_n 0, 1) := by decide +kernel
theorem dX2_follow_1 : decode cX2_follow 1 = .ok (.aload_n 1, 1) := by decide +kernel
theorem dX2_follow_2 : decode cX2_follow 2 = .ok (.putfield 25, 3) := by decide +kernel
theorem dX2_follow_5 : decode cX2_follow 5 = .ok (.aload_n 0, 1) := by decide +kernel
theorem dX2_follow_6 : decode cX2_follow 6 = .ok (.getfield 11, 3) := by decide +kernel
theorem dX2_follow_9 : decode cX2_follow 9 = .ok (.iconst (-1), 1) := by decide +kernel
theorem dX2_follow_10 : decode cX2_follow 10 = .ok (.invokestatic 29, 3) := by decide +kernel
theorem dX2_follow_13 : decode cX2_follow 13 = .ok (.return_, 1) := by decide +kernel
theorem dX2_packMoves_0 : decode cX2_packMoves 0 = .ok (.iload_n 0, 1) := by decide +kernel
theorem dX2_packMoves_1 : decode cX2_packMoves 1 = .ok (.bipush 64, 2) := by decide +kernel
theorem dX2_packMoves_3 : decode cX2_packMoves 3 = .ok (.imul, 1) := by decide +kernel
theorem dX2_packMoves_4 : decode cX2_packMoves 4 = .ok (.iload_n 1, 1) := by decide +kernel
theorem dX2_packMoves_5 : decode cX2_packMoves 5 = .ok (.iadd, 1) := by decide +kernel
theorem dX2_packMoves_6 : decode cX2_packMoves 6 = .ok (.bipush 32, 2) := by decide +kernel
theorem dX2_packMoves_8 : decode cX2_packMoves 8 = .ok (.iadd, 1) := by decide +kernel
theorem dX2_packMoves_9 : decode cX2_packMoves 9 = .ok (.bipush 64, 2) := by decide +kernel
theorem dX2_packMoves_11 : decode cX2_packMoves 11 = .ok (.imul, 1) := by decide +kernel
theorem dX2_packMoves_12 : decode cX2_packMoves 12 = .ok (.iload_n 2, 1) := by decide +kernel
theorem dX2_packMoves_13 : decode cX2_packMoves 13 = .ok (.iadd, 1) := by decide +kernel
theorem dX2_packMoves_14 : decode cX2_packMoves 14 = .ok (.bipush 32, 2) := by decide +kernel
theorem dX2_packMoves_16 : decode cX2_packMoves 16 = .ok (.iadd, 1) := by decide +kernel
theorem dX2_packMoves_17 : decode cX2_packMoves 17 = .ok (.iconst 2, 1) := by decide +kernel
theorem dX2_packMoves_18 : decode cX2_packMoves 18 = .ok (.imul, 1) := by decide +kernel
theorem dX2_packMoves_19 : decode cX2_packMoves 19 = .ok (.iload_n 3, 1) := by decide +kernel
theorem dX2_packMoves_20 : decode cX2_packMoves 20 = .ok (.iadd, 1) := by decide +kernel
theorem dX2_packMoves_21 : decode cX2_packMoves 21 = .ok (.ireturn, 1) := by decide +kernel
theorem dX2_verdict_0 : decode cX2_verdict 0 = .ok (.aload_n 0, 1) := by decide +kernel
theorem dX2_verdict_1 : decode cX2_verdict 1 = .ok (.getfield 25, 3) := by decide +kernel
theorem dX2_verdict_4 : decode cX2_verdict 4 = .ok (.getfield 35, 3) := by decide +kernel
theorem dX2_verdict_7 : decode cX2_verdict 7 = .ok (.ifCond .eq 21, 3) := by decide +kernel
theorem dX2_verdict_10 : decode cX2_verdict 10 = .ok (.iload_n 2, 1) := by decide +kernel
theorem dX2_verdict_11 : decode cX2_verdict 11 = .ok (.ifCond .lt 17, 3) := by decide +kernel
theorem dX2_verdict_14 : decode cX2_verdict 14 = .ok (.iload_n 2, 1) := by decide +kernel
theorem dX2_verdict_15 : decode cX2_verdict 15 = .ok (.aload_n 1, 1) := by decide +kernel
theorem dX2_verdict_16 : decode cX2_verdict 16 = .ok (.getfield 41, 3) := by decide +kernel
theorem dX2_verdict_19 : decode cX2_verdict 19 = .ok (.if_icmp .ge 9, 3) := by decide +kernel
theorem dX2_verdict_22 : decode cX2_verdict 22 = .ok (.iload_n 2, 1) := by decide +kernel
theorem dX2_verdict_23 : decode cX2_verdict 23 = .ok (.bipush 48, 2) := by decide +kernel
theorem dX2_verdict_25 : decode cX2_verdict 25 = .ok (.if_icmp .lt 5, 3) := by decide +kernel
theorem dX2_verdict_28 : decode cX2_verdict 28 = .ok (.iconst 0, 1) := by decide +kernel
theorem dX2_verdict_29 : decode cX2_verdict 29 = .ok (.ireturn, 1) := by decide +kernel
theorem dX2_verdict_30 : decode cX2_verdict 30 = .ok (.aload_n 1, 1) := by decide +kernel
theorem dX2_verdict_31 : decode cX2_verdict 31 = .ok (.getfield 46, 3) := by decide +kernel
theorem dX2_verdict_34 : decode cX2_verdict 34 = .ok (.iload_n 2, 1) := by decide +kernel
theorem dX2_verdict_35 : decode cX2_verdict 35 = .ok (.iaload, 1) := by decide +kernel
theorem dX2_verdict_36 : decode cX2_verdict 36 = .ok (.iload_n 3, 1) := by decide +kernel
theorem dX2_verdict_37 : decode cX2_verdict 37 = .ok (.iadd, 1) := by decide +kernel
theorem dX2_verdict_38 : decode cX2_verdict 38 = .ok (.istore 4, 2) := by decide +kernel
theorem dX2_verdict_40 : decode cX2_verdict 40 = .ok (.aload_n 1, 1) := by decide +kernel
theorem dX2_verdict_41 : decode cX2_verdict 41 = .ok (.getfield 49, 3) := by decide +kernel
theorem dX2_verdict_44 : decode cX2_verdict 44 = .ok (.iload_n 2, 1) := by decide +kernel
theorem dX2_verdict_45 : decode cX2_verdict 45 = .ok (.iaload, 1) := by decide +kernel
theorem dX2_verdict_46 : decode cX2_verdict 46 = .ok (.istore 5, 2) := by decide +kernel
theorem dX2_verdict_48 : decode cX2_verdict 48 = .ok (.iload 5, 2) := by decide +kernel
theorem dX2_verdict_50 : decode cX2_verdict 50 = .ok (.ldc 52, 2) := by decide +kernel
theorem dX2_verdict_52 : decode cX2_verdict 52 = .ok (.if_icmp .ne 8, 3) := by decide +kernel
theorem dX2_verdict_55 : decode cX2_verdict 55 = .ok (.bipush 7, 2) := by decide +kernel
theorem dX2_verdict_57 : decode cX2_verdict 57 = .ok (.goto 13, 3) := by decide +kernel
theorem dX2_verdict_60 : decode cX2_verdict 60 = .ok (.iload 5, 2) := by decide +kernel
theorem dX2_verdict_62 : decode cX2_verdict 62 = .ok (.iload_n 3, 1) := by decide +kernel
theorem dX2_verdict_63 : decode cX2_verdict 63 = .ok (.iadd, 1) := by decide +kernel
theorem dX2_verdict_64 : decode cX2_verdict 64 = .ok (.invokestatic 53, 3) := by decide +kernel
theorem dX2_verdict_67 : decode cX2_verdict 67 = .ok (.bipush 7, 2) := by decide +kernel
theorem dX2_verdict_69 : decode cX2_verdict 69 = .ok (.irem, 1) := by decide +kernel
theorem dX2_verdict_70 : decode cX2_verdict 70 = .ok (.istore 6, 2) := by decide +kernel
theorem dX2_verdict_72 : decode cX2_verdict 72 = .ok (.iload 4, 2) := by decide +kernel
theorem dX2_verdict_74 : decode cX2_verdict 74 = .ok (.sipush 128, 3) := by decide +kernel
theorem dX2_verdict_77 : decode cX2_verdict 77 = .ok (.iadd, 1) := by decide +kernel
theorem dX2_verdict_78 : decode cX2_verdict 78 = .ok (.bipush 8, 2) := by decide +kernel
theorem dX2_verdict_80 : decode cX2_verdict 80 = .ok (.imul, 1) := by decide +kernel
theorem dX2_verdict_81 : decode cX2_verdict 81 = .ok (.iload 6, 2) := by decide +kernel
theorem dX2_verdict_83 : decode cX2_verdict 83 = .ok (.iadd, 1) := by decide +kernel
theorem dX2_verdict_84 : decode cX2_verdict 84 = .ok (.bipush 17, 2) := by decide +kernel
theorem dX2_verdict_86 : decode cX2_verdict 86 = .ok (.ishl, 1) := by decide +kernel
theorem dX2_verdict_87 : decode cX2_verdict 87 = .ok (.aload_n 1, 1) := by decide +kernel
theorem dX2_verdict_88 : decode cX2_verdict 88 = .ok (.getfield 59, 3) := by decide +kernel
theorem dX2_verdict_91 : decode cX2_verdict 91 = .ok (.iload_n 2, 1) := by decide +kernel
theorem dX2_verdict_92 : decode cX2_verdict 92 = .ok (.iaload, 1) := by decide +kernel
theorem dX2_verdict_93 : decode cX2_verdict 93 = .ok (.ior, 1) := by decide +kernel
theorem dX2_verdict_94 : decode cX2_verdict 94 = .ok (.istore 7, 2) := by decide +kernel
theorem dX2_verdict_96 : decode cX2_verdict 96 = .ok (.iload 7, 2) := by decide +kernel
theorem dX2_verdict_98 : decode cX2_verdict 98 = .ok (.ldc 62, 2) := by decide +kernel
theorem dX2_verdict_100 : decode cX2_verdict 100 = .ok (.imul, 1) := by decide +kernel
theorem dX2_verdict_101 : decode cX2_verdict 101 = .ok (.bipush 20, 2) := by decide +kernel
theorem dX2_verdict_103 : decode cX2_verdict 103 = .ok (.iushr, 1) := by decide +kernel
theorem dX2_verdict_104 : decode cX2_verdict 104 = .ok (.istore 8, 2) := by decide +kernel
theorem dX2_verdict_106 : decode cX2_verdict 106 = .ok (.aload_n 0, 1) := by decide +kernel
theorem dX2_verdict_107 : decode cX2_verdict 107 = .ok (.getfield 11, 3) := by decide +kernel
theorem dX2_verdict_110 : decode cX2_verdict 110 = .ok (.iload 8, 2) := by decide +kernel
theorem dX2_verdict_112 : decode cX2_verdict 112 = .ok (.iaload, 1) := by decide +kernel
theorem dX2_verdict_113 : decode cX2_verdict 113 = .ok (.iload 7, 2) := by decide +kernel
theorem dX2_verdict_115 : decode cX2_verdict 115 = .ok (.if_icmp .eq 88, 3) := by decide +kernel
theorem dX2_verdict_118 : decode cX2_verdict 118 = .ok (.aload_n 0, 1) := by decide +kernel
theorem dX2_verdict_119 : decode cX2_verdict 119 = .ok (.iload 4, 2) := by decide +kernel
theorem dX2_verdict_121 : decode cX2_verdict 121 = .ok (.iload 6, 2) := by decide +kernel
theorem dX2_verdict_123 : decode cX2_verdict 123 = .ok (.aload_n 1, 1) := by decide +kernel
theorem dX2_verdict_124 : decode cX2_verdict 124 = .ok (.getfield 59, 3) := by decide +kernel
theorem dX2_verdict_127 : decode cX2_verdict 127 = .ok (.iload_n 2, 1) := by decide +kernel
theorem dX2_verdict_128 : decode cX2_verdict 128 = .ok (.iaload, 1) := by decide +kernel
theorem dX2_verdict_129 : decode cX2_verdict 129 = .ok (.invokevirtual 63, 3) := by decide +kernel
theorem dX2_verdict_132 : decode cX2_verdict 132 = .ok (.iconst 0, 1) := by decide +kernel
theorem dX2_verdict_133 : decode cX2_verdict 133 = .ok (.istore 9, 2) := by decide +kernel
theorem dX2_verdict_135 : decode cX2_verdict 135 = .ok (.iconst 0, 1) := by decide +kernel
theorem dX2_verdict_136 : decode cX2_verdict 136 = .ok (.istore 10, 2) := by decide +kernel
theorem dX2_verdict_138 : decode cX2_verdict 138 = .ok (.iload 10, 2) := by decide +kernel
theorem dX2_verdict_140 : decode cX2_verdict 140 = .ok (.aload_n 0, 1) := by decide +kernel
theorem dX2_verdict_141 : decode cX2_verdict 141 = .ok (.getfield 25, 3) := by decide +kernel
theorem dX2_verdict_144 : decode cX2_verdict 144 = .ok (.getfield 35, 3) := by decide +kernel
theorem dX2_verdict_147 : decode cX2_verdict 147 = .ok (.if_icmp .ge 38, 3) := by decide +kernel
theorem dX2_verdict_150 : decode cX2_verdict 150 = .ok (.iload 9, 2) := by decide +kernel
theorem dX2_verdict_152 : decode cX2_verdict 152 = .ok (.aload_n 0, 1) := by decide +kernel
theorem dX2_verdict_153 : decode cX2_verdict 153 = .ok (.getfield 25, 3) := by decide +kernel
theorem dX2_verdict_156 : decode cX2_verdict 156 = .ok (.iload 10, 2) := by decide +kernel
theorem dX2_verdict_158 : decode cX2_verdict 158 = .ok (.aload_n 0, 1) := by decide +kernel
theorem dX2_verdict_159 : decode cX2_verdict 159 = .ok (.getfield 18, 3) := by decide +kernel
theorem dX2_verdict_162 : decode cX2_verdict 162 = .ok (.invokevirtual 67, 3) := by decide +kernel
theorem dX2_verdict_165 : decode cX2_verdict 165 = .ok (.ifCond .eq 10, 3) := by decide +kernel
theorem dX2_verdict_168 : decode cX2_verdict 168 = .ok (.iconst 1, 1) := by decide +kernel
theorem dX2_verdict_169 : decode cX2_verdict 169 = .ok (.iload 10, 2) := by decide +kernel
theorem dX2_verdict_171 : decode cX2_verdict 171 = .ok (.ishl, 1) := by decide +kernel
theorem dX2_verdict_172 : decode cX2_verdict 172 = .ok (.goto 4, 3) := by decide +kernel
theorem dX2_verdict_175 : decode cX2_verdict 175 = .ok (.iconst 0, 1) := by decide +kernel
theorem dX2_verdict_176 : decode cX2_verdict 176 = .ok (.ior, 1) := by decide +kernel
theorem dX2_verdict_177 : decode cX2_verdict 177 = .ok (.istore 9, 2) := by decide +kernel
theorem dX2_verdict_179 : decode cX2_verdict 179 = .ok (.iinc 10 1, 3) := by decide +kernel
theorem dX2_verdict_182 : decode cX2_verdict 182 = .ok (.goto (-44), 3) := by decide +kernel
theorem dX2_verdict_185 : decode cX2_verdict 185 = .ok (.aload_n 0, 1) := by decide +kernel
theorem dX2_verdict_186 : decode cX2_verdict 186 = .ok (.getfield 11, 3) := by decide +kernel
theorem dX2_verdict_189 : decode cX2_verdict 189 = .ok (.iload 8, 2) := by decide +kernel
theorem dX2_verdict_191 : decode cX2_verdict 191 = .ok (.iload 7, 2) := by decide +kernel
theorem dX2_verdict_193 : decode cX2_verdict 193 = .ok (.iastore, 1) := by decide +kernel
theorem dX2_verdict_194 : decode cX2_verdict 194 = .ok (.aload_n 0, 1) := by decide +kernel
theorem dX2_verdict_195 : decode cX2_verdict 195 = .ok (.getfield 15, 3) := by decide +kernel
theorem dX2_verdict_198 : decode cX2_verdict 198 = .ok (.iload 8, 2) := by decide +kernel
theorem dX2_verdict_200 : decode cX2_verdict 200 = .ok (.iload 9, 2) := by decide +kernel
theorem dX2_verdict_202 : decode cX2_verdict 202 = .ok (.iastore, 1) := by decide +kernel
theorem dX2_verdict_203 : decode cX2_verdict 203 = .ok (.aload_n 0, 1) := by decide +kernel
theorem dX2_verdict_204 : decode cX2_verdict 204 = .ok (.getfield 15, 3) := by decide +kernel
theorem dX2_verdict_207 : decode cX2_verdict 207 = .ok (.iload 8, 2) := by decide +kernel
theorem dX2_verdict_209 : decode cX2_verdict 209 = .ok (.iaload, 1) := by decide +kernel
theorem dX2_verdict_210 : decode cX2_verdict 210 = .ok (.ireturn, 1) := by decide +kernel
theorem dX2_setFacts_0 : decode cX2_setFacts 0 = .ok (.aload_n 0, 1) := by decide +kernel
theorem dX2_setFacts_1 : decode cX2_setFacts 1 = .ok (.getfield 18, 3) := by decide +kernel
theorem dX2_setFacts_4 : decode cX2_setFacts 4 = .ok (.iconst 0, 1) := by decide +kernel
theorem dX2_setFacts_5 : decode cX2_setFacts 5 = .ok (.iload_n 1, 1) := by decide +kernel
theorem dX2_setFacts_6 : decode cX2_setFacts 6 = .ok (.invokestatic 53, 3) := by decide +kernel
theorem dX2_setFacts_9 : decode cX2_setFacts 9 = .ok (.iastore, 1) := by decide +kernel
theorem dX2_setFacts_10 : decode cX2_setFacts 10 = .ok (.aload_n 0, 1) := by decide +kernel
theorem dX2_setFacts_11 : decode cX2_setFacts 11 = .ok (.getfield 18, 3) := by decide +kernel
theorem dX2_setFacts_14 : decode cX2_setFacts 14 = .ok (.iconst 1, 1) := by decide +kernel
theorem dX2_setFacts_15 : decode cX2_setFacts 15 = .ok (.iload_n 1, 1) := by decide +kernel
theorem dX2_setFacts_16 : decode cX2_setFacts 16 = .ok (.invokestatic 53, 3) := by decide +kernel
theorem dX2_setFacts_19 : decode cX2_setFacts 19 = .ok (.bipush 7, 2) := by decide +kernel
theorem dX2_setFacts_21 : decode cX2_setFacts 21 = .ok (.irem, 1) := by decide +kernel
theorem dX2_setFacts_22 : decode cX2_setFacts 22 = .ok (.iastore, 1) := by decide +kernel
theorem dX2_setFacts_23 : decode cX2_setFacts 23 = .ok (.aload_n 0, 1) := by decide +kernel
theorem dX2_setFacts_24 : decode cX2_setFacts 24 = .ok (.getfield 18, 3) := by decide +kernel
theorem dX2_setFacts_27 : decode cX2_setFacts 27 = .ok (.iconst 2, 1) := by decide +kernel
theorem dX2_setFacts_28 : decode cX2_setFacts 28 = .ok (.iload_n 1, 1) := by decide +kernel
theorem dX2_setFacts_29 : decode cX2_setFacts 29 = .ok (.ifCond .ge 7, 3) := by decide +kernel
theorem dX2_setFacts_32 : decode cX2_setFacts 32 = .ok (.iconst 1, 1) := by decide +kernel
theorem dX2_setFacts_33 : decode cX2_setFacts 33 = .ok (.goto 4, 3) := by decide +kernel
theorem dX2_setFacts_36 : decode cX2_setFacts 36 = .ok (.iconst 0, 1) := by decide +kernel
theorem dX2_setFacts_37 : decode cX2_setFacts 37 = .ok (.iastore, 1) := by decide +kernel
theorem dX2_setFacts_38 : decode cX2_setFacts 38 = .ok (.aload_n 0, 1) := by decide +kernel
theorem dX2_setFacts_39 : decode cX2_setFacts 39 = .ok (.getfield 18, 3) := by decide +kernel
theorem dX2_setFacts_42 : decode cX2_setFacts 42 = .ok (.iconst 3, 1) := by decide +kernel
theorem dX2_setFacts_43 : decode cX2_setFacts 43 = .ok (.iload_n 3, 1) := by decide +kernel
theorem dX2_setFacts_44 : decode cX2_setFacts 44 = .ok (.bipush 13, 2) := by decide +kernel
theorem dX2_setFacts_46 : decode cX2_setFacts 46 = .ok (.ishr, 1) := by decide +kernel
theorem dX2_setFacts_47 : decode cX2_setFacts 47 = .ok (.iastore, 1) := by decide +kernel
theorem dX2_setFacts_48 : decode cX2_setFacts 48 = .ok (.aload_n 0, 1) := by decide +kernel
theorem dX2_setFacts_49 : decode cX2_setFacts 49 = .ok (.getfield 18, 3) := by decide +kernel
theorem dX2_setFacts_52 : decode cX2_setFacts 52 = .ok (.iconst 4, 1) := by decide +kernel
theorem dX2_setFacts_53 : decode cX2_setFacts 53 = .ok (.iload_n 3, 1) := by decide +kernel
theorem dX2_setFacts_54 : decode cX2_setFacts 54 = .ok (.bipush 7, 2) := by decide +kernel
theorem dX2_setFacts_56 : decode cX2_setFacts 56 = .ok (.ishr, 1) := by decide +kernel
theorem dX2_setFacts_57 : decode cX2_setFacts 57 = .ok (.bipush 63, 2) := by decide +kernel
theorem dX2_setFacts_59 : decode cX2_setFacts 59 = .ok (.iand, 1) := by decide +kernel
theorem dX2_setFacts_60 : decode cX2_setFacts 60 = .ok (.bipush 32, 2) := by decide +kernel
theorem dX2_setFacts_62 : decode cX2_setFacts 62 = .ok (.isub, 1) := by decide +kernel
theorem dX2_setFacts_63 : decode cX2_setFacts 63 = .ok (.iastore, 1) := by decide +kernel
theorem dX2_setFacts_64 : decode cX2_setFacts 64 = .ok (.aload_n 0, 1) := by decide +kernel
theorem dX2_setFacts_65 : decode cX2_setFacts 65 = .ok (.getfield 18, 3) := by decide +kernel
theorem dX2_setFacts_68 : decode cX2_setFacts 68 = .ok (.iconst 5, 1) := by decide +kernel
theorem dX2_setFacts_69 : decode cX2_setFacts 69 = .ok (.iload_n 3, 1) := by decide +kernel
theorem dX2_setFacts_70 : decode cX2_setFacts 70 = .ok (.iconst 1, 1) := by decide +kernel
theorem dX2_setFacts_71 : decode cX2_setFacts 71 = .ok (.ishr, 1) := by decide +kernel
theorem dX2_setFacts_72 : decode cX2_setFacts 72 = .ok (.bipush 63, 2) := by decide +kernel
theorem dX2_setFacts_74 : decode cX2_setFacts 74 = .ok (.iand, 1) := by decide +kernel
theorem dX2_setFacts_75 : decode cX2_setFacts 75 = .ok (.bipush 32, 2) := by decide +kernel
theorem dX2_setFacts_77 : decode cX2_setFacts 77 = .ok (.isub, 1) := by decide +kernel
theorem dX2_setFacts_78 : decode cX2_setFacts 78 = .ok (.iastore, 1) := by decide +kernel
theorem dX2_setFacts_79 : decode cX2_setFacts 79 = .ok (.aload_n 0, 1) := by decide +kernel
theorem dX2_setFacts_80 : decode cX2_setFacts 80 = .ok (.getfield 18, 3) := by decide +kernel
theorem dX2_setFacts_83 : decode cX2_setFacts 83 = .ok (.bipush 6, 2) := by decide +kernel
theorem dX2_setFacts_85 : decode cX2_setFacts 85 = .ok (.iload_n 2, 1) := by decide +kernel
theorem dX2_setFacts_86 : decode cX2_setFacts 86 = .ok (.iastore, 1) := by decide +kernel
theorem dX2_setFacts_87 : decode cX2_setFacts 87 = .ok (.aload_n 0, 1) := by decide +kernel
theorem dX2_setFacts_88 : decode cX2_setFacts 88 = .ok (.getfield 18, 3) := by decide +kernel
theorem dX2_setFacts_91 : decode cX2_setFacts 91 = .ok (.bipush 7, 2) := by decide +kernel
theorem dX2_setFacts_93 : decode cX2_setFacts 93 = .ok (.iload_n 3, 1) := by decide +kernel
theorem dX2_setFacts_94 : decode cX2_setFacts 94 = .ok (.iconst 1, 1) := by decide +kernel
theorem dX2_setFacts_95 : decode cX2_setFacts 95 = .ok (.iand, 1) := by decide +kernel
theorem dX2_setFacts_96 : decode cX2_setFacts 96 = .ok (.iastore, 1) := by decide +kernel
theorem dX2_setFacts_97 : decode cX2_setFacts 97 = .ok (.return_, 1) := by decide +kernel
theorem dX2_nextBroken_0 : decode cX2_nextBroken 0 = .ok (.iload_n 2, 1) := by decide +kernel
theorem dX2_nextBroken_1 : decode cX2_nextBroken 1 = .ok (.istore_n 3, 1) := by decide +kernel
theorem dX2_nextBroken_2 : decode cX2_nextBroken 2 = .ok (.iload_n 3, 1) := by decide +kernel
theorem dX2_nextBroken_3 : decode cX2_nextBroken 3 = .ok (.aload_n 1, 1) := by decide +kernel
theorem dX2_nextBroken_4 : decode cX2_nextBroken 4 = .ok (.getfield 41, 3) := by decide +kernel
theorem dX2_nextBroken_7 : decode cX2_nextBroken 7 = .ok (.if_icmp .ge 21, 3) := by decide +kernel
theorem dX2_nextBroken_10 : decode cX2_nextBroken 10 = .ok (.aload_n 0, 1) := by decide +kernel
theorem dX2_nextBroken_11 : decode cX2_nextBroken 11 = .ok (.aload_n 1, 1) := by decide +kernel
theorem dX2_nextBroken_12 : decode cX2_nextBroken 12 = .ok (.iload_n 3, 1) := by decide +kernel
theorem dX2_nextBroken_13 : decode cX2_nextBroken 13 = .ok (.iconst 0, 1) := by decide +kernel
theorem dX2_nextBroken_14 : decode cX2_nextBroken 14 = .ok (.invokevirtual 71, 3) := by decide +kernel
theorem dX2_nextBroken_17 : decode cX2_nextBroken 17 = .ok (.ifCond .eq 5, 3) := by decide +kernel
theorem dX2_nextBroken_20 : decode cX2_nextBroken 20 = .ok (.iload_n 3, 1) := by decide +kernel
theorem dX2_nextBroken_21 : decode cX2_nextBroken 21 = .ok (.ireturn, 1) := by decide +kernel
theorem dX2_nextBroken_22 : decode cX2_nextBroken 22 = .ok (.iinc 3 1, 3) := by decide +kernel
theorem dX2_nextBroken_25 : decode cX2_nextBroken 25 = .ok (.goto (-23), 3) := by decide +kernel
theorem dX2_nextBroken_28 : decode cX2_nextBroken 28 = .ok (.iconst (-1), 1) := by decide +kernel
theorem dX2_nextBroken_29 : decode cX2_nextBroken 29 = .ok (.ireturn, 1) := by decide +kernel
theorem dX2_countBroken_0 : decode cX2_countBroken 0 = .ok (.iconst 0, 1) := by decide +kernel
theorem dX2_countBroken_1 : decode cX2_countBroken 1 = .ok (.istore_n 2, 1) := by decide +kernel
theorem dX2_countBroken_2 : decode cX2_countBroken 2 = .ok (.iconst 0, 1) := by decide +kernel
theorem dX2_countBroken_3 : decode cX2_countBroken 3 = .ok (.istore_n 3, 1) := by decide +kernel
theorem dX2_countBroken_4 : decode cX2_countBroken 4 = .ok (.iload_n 3, 1) := by decide +kernel
theorem dX2_countBroken_5 : decode cX2_countBroken 5 = .ok (.aload_n 1, 1) := by decide +kernel
theorem dX2_countBroken_6 : decode cX2_countBroken 6 = .ok (.getfield 41, 3) := by decide +kernel
theorem dX2_countBroken_9 : decode cX2_countBroken 9 = .ok (.if_icmp .ge 27, 3) := by decide +kernel
theorem dX2_countBroken_12 : decode cX2_countBroken 12 = .ok (.iload_n 2, 1) := by decide +kernel
theorem dX2_countBroken_13 : decode cX2_countBroken 13 = .ok (.aload_n 0, 1) := by decide +kernel
theorem dX2_countBroken_14 : decode cX2_countBroken 14 = .ok (.aload_n 1, 1) := by decide +kernel
theorem dX2_countBroken_15 : decode cX2_countBroken 15 = .ok (.iload_n 3, 1) := by decide +kernel
theorem dX2_countBroken_16 : decode cX2_countBroken 16 = .ok (.iconst 0, 1) := by decide +kernel
theorem dX2_countBroken_17 : decode cX2_countBroken 17 = .ok (.invokevirtual 71, 3) := by decide +kernel
theorem dX2_countBroken_20 : decode cX2_countBroken 20 = .ok (.ifCond .eq 7, 3) := by decide +kernel
theorem dX2_countBroken_23 : decode cX2_countBroken 23 = .ok (.iconst 1, 1) := by decide +kernel
theorem dX2_countBroken_24 : decode cX2_countBroken 24 = .ok (.goto 4, 3) := by decide +kernel
theorem dX2_countBroken_27 : decode cX2_countBroken 27 = .ok (.iconst 0, 1) := by decide +kernel
theorem dX2_countBroken_28 : decode cX2_countBroken 28 = .ok (.iadd, 1) := by decide +kernel
theorem dX2_countBroken_29 : decode cX2_countBroken 29 = .ok (.istore_n 2, 1) := by decide +kernel
theorem dX2_countBroken_30 : decode cX2_countBroken 30 = .ok (.iinc 3 1, 3) := by decide +kernel
theorem dX2_countBroken_33 : decode cX2_countBroken 33 = .ok (.goto (-29), 3) := by decide +kernel
theorem dX2_countBroken_36 : decode cX2_countBroken 36 = .ok (.iload_n 2, 1) := by decide +kernel
theorem dX2_countBroken_37 : decode cX2_countBroken 37 = .ok (.ireturn, 1) := by decide +kernel
theorem dX2_ruleAt_0 : decode cX2_ruleAt 0 = .ok (.aload_n 0, 1) := by decide +kernel
theorem dX2_ruleAt_1 : decode cX2_ruleAt 1 = .ok (.aload_n 1, 1) := by decide +kernel
theorem dX2_ruleAt_2 : decode cX2_ruleAt 2 = .ok (.iload_n 2, 1) := by decide +kernel
theorem dX2_ruleAt_3 : decode cX2_ruleAt 3 = .ok (.iconst 0, 1) := by decide +kernel
theorem dX2_ruleAt_4 : decode cX2_ruleAt 4 = .ok (.invokevirtual 71, 3) := by decide +kernel
theorem dX2_ruleAt_7 : decode cX2_ruleAt 7 = .ok (.invokestatic 75, 3) := by decide +kernel
theorem dX2_ruleAt_10 : decode cX2_ruleAt 10 = .ok (.iconst 1, 1) := by decide +kernel
theorem dX2_ruleAt_11 : decode cX2_ruleAt 11 = .ok (.isub, 1) := by decide +kernel
theorem dX2_ruleAt_12 : decode cX2_ruleAt 12 = .ok (.invokestatic 78, 3) := by decide +kernel
theorem dX2_ruleAt_15 : decode cX2_ruleAt 15 = .ok (.ireturn, 1) := by decide +kernel
theorem dX3_init_0 : decode cX3_init 0 = .ok (.aload_n 0, 1) := by decide +kernel
theorem dX3_init_1 : decode cX3_init 1 = .ok (.invokespecial 3, 3) := by decide +kernel
theorem dX3_init_4 : decode cX3_init 4 = .ok (.aload_n 0, 1) := by decide +kernel
theorem dX3_init_5 : decode cX3_init 5 = .ok (.sipush 4500, 3) := by decide +kernel
theorem dX3_init_8 : decode cX3_init 8 = .ok (.newarray .int, 2) := by decide +kernel
theorem dX3_init_10 : decode cX3_init 10 = .ok (.putfield 9, 3) := by decide +kernel
theorem dX3_init_13 : decode cX3_init 13 = .ok (.aload_n 0, 1) := by decide +kernel
theorem dX3_init_14 : decode cX3_init 14 = .ok (.sipush 4500, 3) := by decide +kernel
theorem dX3_init_17 : decode cX3_init 17 = .ok (.newarray .int, 2) := by decide +kernel
theorem dX3_init_19 : decode cX3_init 19 = .ok (.putfield 15, 3) := by decide +kernel
theorem dX3_init_22 : decode cX3_init 22 = .ok (.aload_n 0, 1) := by decide +kernel
theorem dX3_init_23 : decode cX3_init 23 = .ok (.sipush 1024, 3) := by decide +kernel
theorem dX3_init_26 : decode cX3_init 26 = .ok (.newarray .int, 2) := by decide +kernel
theorem dX3_init_28 : decode cX3_init 28 = .ok (.putfield 18, 3) := by decide +kernel
theorem dX3_init_31 : decode cX3_init 31 = .ok (.aload_n 0, 1) := by decide +kernel
theorem dX3_init_32 : decode cX3_init 32 = .ok (.sipush 4500, 3) := by decide +kernel
theorem dX3_init_35 : decode cX3_init 35 = .ok (.newarray .int, 2) := by decide +kernel
theorem dX3_init_37 : decode cX3_init 37 = .ok (.putfield 21, 3) := by decide +kernel
theorem dX3_init_40 : decode cX3_init 40 = .ok (.aload_n 0, 1) := by decide +kernel
theorem dX3_init_41 : decode cX3_init 41 = .ok (.new 24, 3) := by decide +kernel
theorem dX3_init_44 : decode cX3_init 44 = .ok (.dup, 1) := by decide +kernel
theorem dX3_init_45 : decode cX3_init 45 = .ok (.invokespecial 26, 3) := by decide +kernel
theorem dX3_init_48 : decode cX3_init 48 = .ok (.putfield 27, 3) := by decide +kernel
theorem dX3_init_51 : decode cX3_init 51 = .ok (.aload_n 0, 1) := by decide +kernel
theorem dX3_init_52 : decode cX3_init 52 = .ok (.new 24, 3) := by decide +kernel
theorem dX3_init_55 : decode cX3_init 55 = .ok (.dup, 1) := by decide +kernel
theorem dX3_init_56 : decode cX3_init 56 = .ok (.invokespecial 26, 3) := by decide +kernel
theorem dX3_init_59 : decode cX3_init 59 = .ok (.putfield 31, 3) := by decide +kernel
theorem dX3_init_62 : decode cX3_init 62 = .ok (.return_, 1) := by decide +kernel
theorem dX3_build_0 : decode cX3_build 0 = .ok (.aload_n 0, 1) := by decide +kernel
theorem dX3_build_1 : decode cX3_build 1 = .ok (.iconst 0, 1) := by decide +kernel
theorem dX3_build_2 : decode cX3_build 2 = .ok (.putfield 34, 3) := by decide +kernel
theorem dX3_build_5 : decode cX3_build 5 = .ok (.aload_n 0, 1) := by decide +kernel
theorem dX3_build_6 : decode cX3_build 6 = .ok (.aload_n 2, 1) := by decide +kernel
theorem dX3_build_7 : decode cX3_build 7 = .ok (.getfield 38, 3) := by decide +kernel
theorem dX3_build_10 : decode cX3_build 10 = .ok (.putfield 43, 3) := by decide +kernel
theorem dX3_build_13 : decode cX3_build 13 = .ok (.aload_n 0, 1) := by decide +kernel
theorem dX3_build_14 : decode cX3_build 14 = .ok (.getfield 18, 3) := by decide +kernel
theorem dX3_build_17 : decode cX3_build 17 = .ok (.iconst (-1), 1) := by decide +kernel
theorem dX3_build_18 : decode cX3_build 18 = .ok (.invokestatic 44, 3) := by decide +kernel
theorem dX3_build_21 : decode cX3_build 21 = .ok (.iconst 0, 1) := by decide +kernel
theorem dX3_build_22 : decode cX3_build 22 = .ok (.istore_n 3, 1) := by decide +kernel
theorem dX3_build_23 : decode cX3_build 23 = .ok (.iload_n 3, 1) := by decide +kernel
theorem dX3_build_24 : decode cX3_build 24 = .ok (.aload_n 0, 1) := by decide +kernel
theorem dX3_build_25 : decode cX3_build 25 = .ok (.getfield 43, 3) := by decide +kernel
theorem dX3_build_28 : decode cX3_build 28 = .ok (.if_icmp .ge 127, 3) := by decide +kernel
theorem dX3_build_31 : decode cX3_build 31 = .ok (.iload_n 3, 1) := by decide +kernel
theorem dX3_build_32 : decode cX3_build 32 = .ok (.sipush 4500, 3) := by decide +kernel
theorem dX3_build_35 : decode cX3_build 35 = .ok (.if_icmp .ge 120, 3) := by decide +kernel
theorem dX3_build_38 : decode cX3_build 38 = .ok (.aload_n 0, 1) := by decide +kernel
theorem dX3_build_39 : decode cX3_build 39 = .ok (.getfield 27, 3) := by decide +kernel
theorem dX3_build_42 : decode cX3_build 42 = .ok (.aload_n 1, 1) := by decide +kernel
theorem dX3_build_43 : decode cX3_build 43 = .ok (.aload_n 2, 1) := by decide +kernel
theorem dX3_build_44 : decode cX3_build 44 = .ok (.iload_n 3, 1) := by decide +kernel
theorem dX3_build_45 : decode cX3_build 45 = .ok (.invokevirtual 50, 3) := by decide +kernel
theorem dX3_build_48 : decode cX3_build 48 = .ok (.invokevirtual 54, 3) := by decide +kernel
theorem dX3_build_51 : decode cX3_build 51 = .ok (.aload_n 0, 1) := by decide +kernel
theorem dX3_build_52 : decode cX3_build 52 = .ok (.getfield 15, 3) := by decide +kernel
theorem dX3_build_55 : decode cX3_build 55 = .ok (.iload_n 3, 1) := by decide +kernel
theorem dX3_build_56 : decode cX3_build 56 = .ok (.aload_n 0, 1) := by decide +kernel
theorem dX3_build_57 : decode cX3_build 57 = .ok (.getfield 27, 3) := by decide +kernel
theorem dX3_build_60 : decode cX3_build 60 = .ok (.invokevirtual 58, 3) := by decide +kernel
theorem dX3_build_63 : decode cX3_build 63 = .ok (.iastore, 1) := by decide +kernel
theorem dX3_build_64 : decode cX3_build 64 = .ok (.aload_n 0, 1) := by decide +kernel
theorem dX3_build_65 : decode cX3_build 65 = .ok (.getfield 15, 3) := by decide +kernel
theorem dX3_build_68 : decode cX3_build 68 = .ok (.iload_n 3, 1) := by decide +kernel
theorem dX3_build_69 : decode cX3_build 69 = .ok (.iaload, 1) := by decide +kernel
theorem dX3_build_70 : decode cX3_build 70 = .ok (.sipush 1023, 3) := by decide +kernel
theorem dX3_build_73 : decode cX3_build 73 = .ok (.iand, 1) := by decide +kernel
theorem dX3_build_74 : decode cX3_build 74 = .ok (.istore 4, 2) := by decide +kernel
theorem dX3_build_76 : decode cX3_build 76 = .ok (.aload_n 0, 1) := by decide +kernel
theorem dX3_build_77 : decode cX3_build 77 = .ok (.getfield 9, 3) := by decide +kernel
theorem dX3_build_80 : decode cX3_build 80 = .ok (.iload_n 3, 1) := by decide +kernel
theorem dX3_build_81 : decode cX3_build 81 = .ok (.aload_n 0, 1) := by decide +kernel
theorem dX3_build_82 : decode cX3_build 82 = .ok (.aload_n 1, 1) := by decide +kernel
theorem dX3_build_83 : decode cX3_build 83 = .ok (.aload_n 2, 1) := by decide +kernel
theorem dX3_build_84 : decode cX3_build 84 = .ok (.aload_n 0, 1) := by decide +kernel
theorem dX3_build_85 : decode cX3_build 85 = .ok (.getfield 18, 3) := by decide +kernel
theorem dX3_build_88 : decode cX3_build 88 = .ok (.iload 4, 2) := by decide +kernel
theorem dX3_build_90 : decode cX3_build 90 = .ok (.iaload, 1) := by decide +kernel
theorem dX3_build_91 : decode cX3_build 91 = .ok (.aload_n 0, 1) := by decide +kernel
theorem dX3_build_92 : decode cX3_build 92 = .ok (.getfield 15, 3) := by decide +kernel
theorem dX3_build_95 : decode cX3_build 95 = .ok (.iload_n 3, 1) := by decide +kernel
theorem dX3_build_96 : decode cX3_build 96 = .ok (.iaload, 1) := by decide +kernel
theorem dX3_build_97 : decode cX3_build 97 = .ok (.invokevirtual 62, 3) := by decide +kernel
theorem dX3_build_100 : decode cX3_build 100 = .ok (.iastore, 1) := by decide +kernel
theorem dX3_build_101 : decode cX3_build 101 = .ok (.aload_n 0, 1) := by decide +kernel
theorem dX3_build_102 : decode cX3_build 102 = .ok (.getfield 9, 3) := by decide +kernel
theorem dX3_build_105 : decode cX3_build 105 = .ok (.iload_n 3, 1) := by decide +kernel
theorem dX3_build_106 : decode cX3_build 106 = .ok (.iaload, 1) := by decide +kernel
theorem dX3_build_107 : decode cX3_build 107 = .ok (.iconst (-1), 1) := by decide +kernel
theorem dX3_build_108 : decode cX3_build 108 = .ok (.if_icmp .ne 41, 3) := by decide +kernel
theorem dX3_build_111 : decode cX3_build 111 = .ok (.aload_n 0, 1) := by decide +kernel
theorem dX3_build_112 : decode cX3_build 112 = .ok (.getfield 9, 3) := by decide +kernel
theorem dX3_build_115 : decode cX3_build 115 = .ok (.iload_n 3, 1) := by decide +kernel
theorem dX3_build_116 : decode cX3_build 116 = .ok (.iload_n 3, 1) := by decide +kernel
theorem dX3_build_117 : decode cX3_build 117 = .ok (.iastore, 1) := by decide +kernel
theorem dX3_build_118 : decode cX3_build 118 = .ok (.aload_n 0, 1) := by decide +kernel
theorem dX3_build_119 : decode cX3_build 119 = .ok (.getfield 21, 3) := by decide +kernel
theorem dX3_build_122 : decode cX3_build 122 = .ok (.iload_n 3, 1) := by decide +kernel
theorem dX3_build_123 : decode cX3_build 123 = .ok (.aload_n 0, 1) := by decide +kernel
theorem dX3_build_124 : decode cX3_build 124 = .ok (.getfield 18, 3) := by decide +kernel
theorem dX3_build_127 : decode cX3_build 127 = .ok (.iload 4, 2) := by decide +kernel
theorem dX3_build_129 : decode cX3_build 129 = .ok (.iaload, 1) := by decide +kernel
theorem dX3_build_130 : decode cX3_build 130 = .ok (.iastore, 1) := by decide +kernel
theorem dX3_build_131 : decode cX3_build 131 = .ok (.aload_n 0, 1) := by decide +kernel
theorem dX3_build_132 : decode cX3_build 132 = .ok (.getfield 18, 3) := by decide +kernel
theorem dX3_build_135 : decode cX3_build 135 = .ok (.iload 4, 2) := by decide +kernel
theorem dX3_build_137 : decode cX3_build 137 = .ok (.iload_n 3, 1) := by decide +kernel
theorem dX3_build_138 : decode cX3_build 138 = .ok (.iastore, 1) := by decide +kernel
theorem dX3_build_139 : decode cX3_build 139 = .ok (.aload_n 0, 1) := by decide +kernel
theorem dX3_build_140 : decode cX3_build 140 = .ok (.dup, 1) := by decide +kernel
theorem dX3_build_141 : decode cX3_build 141 = .ok (.getfield 34, 3) := by decide +kernel
theorem dX3_build_144 : decode cX3_build 144 = .ok (.iconst 1, 1) := by decide +kernel
theorem dX3_build_145 : decode cX3_build 145 = .ok (.iadd, 1) := by decide +kernel
theorem dX3_build_146 : decode cX3_build 146 = .ok (.putfield 34, 3) := by decide +kernel
theorem dX3_build_149 : decode cX3_build 149 = .ok (.iinc 3 1, 3) := by decide +kernel
theorem dX3_build_152 : decode cX3_build 152 = .ok (.goto (-129), 3) := by decide +kernel
theorem dX3_build_155 : decode cX3_build 155 = .ok (.return_, 1) := by decide +kernel
theorem dX3_search_0 : decode cX3_search 0 = .ok (.iload_n 3, 1) := by decide +kernel
theorem dX3_search_1 : decode cX3_search 1 = .ok (.istore 5, 2) := by decide +kernel
theorem dX3_search_3 : decode cX3_search 3 = .ok (.iconst 0, 1) := by decide +kernel
theorem dX3_search_4 : decode cX3_search 4 = .ok (.istore 6, 2) := by decide +kernel
theorem dX3_search_6 : decode cX3_search 6 = .ok (.iload 6, 2) := by decide +kernel
theorem dX3_search_8 : decode cX3_search 8 = .ok (.sipush 4500, 3) := by decide +kernel
theorem dX3_search_11 : decode cX3_search 11 = .ok (.if_icmp .ge 74, 3) := by decide +kernel
theorem dX3_search_14 : decode cX3_search 14 = .ok (.iload 5, 2) := by decide +kernel
theorem dX3_search_16 : decode cX3_search 16 = .ok (.ifCond .lt 69, 3) := by decide +kernel
theorem dX3_search_19 : decode cX3_search 19 = .ok (.iload 5, 2) := by decide +kernel
theorem dX3_search_21 : decode cX3_search 21 = .ok (.sipush 4500, 3) := by decide +kernel
theorem dX3_search_24 : decode cX3_search 24 = .ok (.if_icmp .ge 61, 3) := by decide +kernel
theorem dX3_search_27 : decode cX3_search 27 = .ok (.aload_n 0, 1) := by decide +kernel
theorem dX3_search_28 : decode cX3_search 28 = .ok (.getfield 15, 3) := by decide +kernel
theorem dX3_search_31 : decode cX3_search 31 = .ok (.iload 5, 2) := by decide +kernel
theorem dX3_search_33 : decode cX3_search 33 = .ok (.iaload, 1) := by decide +kernel
theorem dX3_search_34 : decode cX3_search 34 = .ok (.iload 4, 2) := by decide +kernel
theorem dX3_search_36 : decode cX3_search 36 = .ok (.if_icmp .ne 34, 3) := by decide +kernel
theorem dX3_search_39 : decode cX3_search 39 = .ok (.aload_n 0, 1) := by decide +kernel
theorem dX3_search_40 : decode cX3_search 40 = .ok (.getfield 31, 3) := by decide +kernel
theorem dX3_search_43 : decode cX3_search 43 = .ok (.aload_n 1, 1) := by decide +kernel
theorem dX3_search_44 : decode cX3_search 44 = .ok (.aload_n 2, 1) := by decide +kernel
theorem dX3_search_45 : decode cX3_search 45 = .ok (.iload 5, 2) := by decide +kernel
theorem dX3_search_47 : decode cX3_search 47 = .ok (.invokevirtual 50, 3) := by decide +kernel
theorem dX3_search_50 : decode cX3_search 50 = .ok (.invokevirtual 54, 3) := by decide +kernel
theorem dX3_search_53 : decode cX3_search 53 = .ok (.aload_n 0, 1) := by decide +kernel
theorem dX3_search_54 : decode cX3_search 54 = .ok (.getfield 27, 3) := by decide +kernel
theorem dX3_search_57 : decode cX3_search 57 = .ok (.aload_n 0, 1) := by decide +kernel
theorem dX3_search_58 : decode cX3_search 58 = .ok (.getfield 31, 3) := by decide +kernel
theorem dX3_search_61 : decode cX3_search 61 = .ok (.invokevirtual 66, 3) := by decide +kernel
theorem dX3_search_64 : decode cX3_search 64 = .ok (.ifCond .eq 6, 3) := by decide +kernel
theorem dX3_search_67 : decode cX3_search 67 = .ok (.iload 5, 2) := by decide +kernel
theorem dX3_search_69 : decode cX3_search 69 = .ok (.ireturn, 1) := by decide +kernel
theorem dX3_search_70 : decode cX3_search 70 = .ok (.aload_n 0, 1) := by decide +kernel
theorem dX3_search_71 : decode cX3_search 71 = .ok (.getfield 21, 3) := by decide +kernel
theorem dX3_search_74 : decode cX3_search 74 = .ok (.iload 5, 2) := by decide +kernel
theorem dX3_search_76 : decode cX3_search 76 = .ok (.iaload, 1) := by decide +kernel
theorem dX3_search_77 : decode cX3_search 77 = .ok (.istore 5, 2) := by decide +kernel
theorem dX3_search_79 : decode cX3_search 79 = .ok (.iinc 6 1, 3) := by decide +kernel
theorem dX3_search_82 : decode cX3_search 82 = .ok (.goto (-76), 3) := by decide +kernel
theorem dX3_search_85 : decode cX3_search 85 = .ok (.iconst (-1), 1) := by decide +kernel
theorem dX3_search_86 : decode cX3_search 86 = .ok (.ireturn, 1) := by decide +kernel
theorem dX3_firstOf_0 : decode cX3_firstOf 0 = .ok (.iload_n 1, 1) := by decide +kernel
theorem dX3_firstOf_1 : decode cX3_firstOf 1 = .ok (.ifCond .lt 27, 3) := by decide +kernel
theorem dX3_firstOf_4 : decode cX3_firstOf 4 = .ok (.iload_n 1, 1) := by decide +kernel
theorem dX3_firstOf_5 : decode cX3_firstOf 5 = .ok (.aload_n 0, 1) := by decide +kernel
theorem dX3_firstOf_6 : decode cX3_firstOf 6 = .ok (.getfield 43, 3) := by decide +kernel
theorem dX3_firstOf_9 : decode cX3_firstOf 9 = .ok (.if_icmp .ge 19, 3) := by decide +kernel
theorem dX3_firstOf_12 : decode cX3_firstOf 12 = .ok (.iload_n 1, 1) := by decide +kernel
theorem dX3_firstOf_13 : decode cX3_firstOf 13 = .ok (.sipush 4500, 3) := by decide +kernel
theorem dX3_firstOf_16 : decode cX3_firstOf 16 = .ok (.if_icmp .ge 12, 3) := by decide +kernel
theorem dX3_firstOf_19 : decode cX3_firstOf 19 = .ok (.aload_n 0, 1) := by decide +kernel
theorem dX3_firstOf_20 : decode cX3_firstOf 20 = .ok (.getfield 9, 3) := by decide +kernel
theorem dX3_firstOf_23 : decode cX3_firstOf 23 = .ok (.iload_n 1, 1) := by decide +kernel
theorem dX3_firstOf_24 : decode cX3_firstOf 24 = .ok (.iaload, 1) := by decide +kernel
theorem dX3_firstOf_25 : decode cX3_firstOf 25 = .ok (.goto 4, 3) := by decide +kernel
theorem dX3_firstOf_28 : decode cX3_firstOf 28 = .ok (.iconst (-1), 1) := by decide +kernel
theorem dX3_firstOf_29 : decode cX3_firstOf 29 = .ok (.ireturn, 1) := by decide +kernel
theorem dX4_init_0 : decode cX4_init 0 = .ok (.aload_n 0, 1) := by decide +kernel
theorem dX4_init_1 : decode cX4_init 1 = .ok (.invokespecial 3, 3) := by decide +kernel
theorem dX4_init_4 : decode cX4_init 4 = .ok (.aload_n 0, 1) := by decide +kernel
theorem dX4_init_5 : decode cX4_init 5 = .ok (.bipush 24, 2) := by decide +kernel
theorem dX4_init_7 : decode cX4_init 7 = .ok (.newarray .int, 2) := by decide +kernel
theorem dX4_init_9 : decode cX4_init 9 = .ok (.putfield 9, 3) := by decide +kernel
theorem dX4_init_12 : decode cX4_init 12 = .ok (.aload_n 0, 1) := by decide +kernel
theorem dX4_init_13 : decode cX4_init 13 = .ok (.bipush 24, 2) := by decide +kernel
theorem dX4_init_15 : decode cX4_init 15 = .ok (.newarray .int, 2) := by decide +kernel
theorem dX4_init_17 : decode cX4_init 17 = .ok (.putfield 15, 3) := by decide +kernel
theorem dX4_init_20 : decode cX4_init 20 = .ok (.aload_n 0, 1) := by decide +kernel
theorem dX4_init_21 : decode cX4_init 21 = .ok (.bipush 24, 2) := by decide +kernel
theorem dX4_init_23 : decode cX4_init 23 = .ok (.newarray .int, 2) := by decide +kernel
theorem dX4_init_25 : decode cX4_init 25 = .ok (.putfield 18, 3) := by decide +kernel
theorem dX4_init_28 : decode cX4_init 28 = .ok (.aload_n 0, 1) := by decide +kernel
theorem dX4_init_29 : decode cX4_init 29 = .ok (.bipush 96, 2) := by decide +kernel
theorem dX4_init_31 : decode cX4_init 31 = .ok (.newarray .int, 2) := by decide +kernel
theorem dX4_init_33 : decode cX4_init 33 = .ok (.putfield 21, 3) := by decide +kernel
theorem dX4_init_36 : decode cX4_init 36 = .ok (.aload_n 0, 1) := by decide +kernel
theorem dX4_init_37 : decode cX4_init 37 = .ok (.iconst (-1), 1) := by decide +kernel
theorem dX4_init_38 : decode cX4_init 38 = .ok (.putfield 24, 3) := by decide +kernel
theorem dX4_init_41 : decode cX4_init 41 = .ok (.return_, 1) := by decide +kernel
theorem dX4_clear_0 : decode cX4_clear 0 = .ok (.aload_n 0, 1) := by decide +kernel
theorem dX4_clear_1 : decode cX4_clear 1 = .ok (.iconst 0, 1) := by decide +kernel
theorem dX4_clear_2 : decode cX4_clear 2 = .ok (.putfield 28, 3) := by decide +kernel
theorem dX4_clear_5 : decode cX4_clear 5 = .ok (.aload_n 0, 1) := by decide +kernel
theorem dX4_clear_6 : decode cX4_clear 6 = .ok (.iconst 0, 1) := by decide +kernel
theorem dX4_clear_7 : decode cX4_clear 7 = .ok (.putfield 31, 3) := by decide +kernel
theorem dX4_clear_10 : decode cX4_clear 10 = .ok (.aload_n 0, 1) := by decide +kernel
theorem dX4_clear_11 : decode cX4_clear 11 = .ok (.iconst (-1), 1) := by decide +kernel
theorem dX4_clear_12 : decode cX4_clear 12 = .ok (.putfield 24, 3) := by decide +kernel
theorem dX4_clear_15 : decode cX4_clear 15 = .ok (.aload_n 0, 1) := by decide +kernel
theorem dX4_clear_16 : decode cX4_clear 16 = .ok (.iconst 0, 1) := by decide +kernel
theorem dX4_clear_17 : decode cX4_clear 17 = .ok (.putfield 34, 3) := by decide +kernel
theorem dX4_clear_20 : decode cX4_clear 20 = .ok (.return_, 1) := by decide +kernel
theorem dX4_add_0 : decode cX4_add 0 = .ok (.iload_n 1, 1) := by decide +kernel
theorem dX4_add_1 : decode cX4_add 1 = .ok (.iconst (-1), 1) := by decide +kernel
theorem dX4_add_2 : decode cX4_add 2 = .ok (.if_icmp .lt 20, 3) := by decide +kernel
theorem dX4_add_5 : decode cX4_add 5 = .ok (.iload_n 1, 1) := by decide +kernel
theorem dX4_add_6 : decode cX4_add 6 = .ok (.bipush 28, 2) := by decide +kernel
theorem dX4_add_8 : decode cX4_add 8 = .ok (.if_icmp .gt 14, 3) := by decide +kernel
theorem dX4_add_11 : decode cX4_add 11 = .ok (.iload_n 2, 1) := by decide +kernel
theorem dX4_add_12 : decode cX4_add 12 = .ok (.iconst 1, 1) := by decide +kernel
theorem dX4_add_13 : decode cX4_add 13 = .ok (.if_icmp .lt 9, 3) := by decide +kernel
theorem dX4_add_16 : decode cX4_add 16 = .ok (.iload_n 2, 1) := by decide +kernel
theorem dX4_add_17 : decode cX4_add 17 = .ok (.bipush 16, 2) := by decide +kernel
theorem dX4_add_19 : decode cX4_add 19 = .ok (.if_icmp .le 5, 3) := by decide +kernel
theorem dX4_add_22 : decode cX4_add 22 = .ok (.iconst 0, 1) := by decide +kernel
theorem dX4_add_23 : decode cX4_add 23 = .ok (.ireturn, 1) := by decide +kernel
theorem dX4_add_24 : decode cX4_add 24 = .ok (.aload_n 0, 1) := by decide +kernel
theorem dX4_add_25 : decode cX4_add 25 = .ok (.getfield 28, 3) := by decide +kernel
theorem dX4_add_28 : decode cX4_add 28 = .ok (.bipush 24, 2) := by decide +kernel
theorem dX4_add_30 : decode cX4_add 30 = .ok (.if_icmp .ge 14, 3) := by decide +kernel
theorem dX4_add_33 : decode cX4_add 33 = .ok (.aload_n 0, 1) := by decide +kernel
theorem dX4_add_34 : decode cX4_add 34 = .ok (.getfield 31, 3) := by decide +kernel
theorem dX4_add_37 : decode cX4_add 37 = .ok (.iload_n 2, 1) := by decide +kernel
theorem dX4_add_38 : decode cX4_add 38 = .ok (.iadd, 1) := by decide +kernel
theorem dX4_add_39 : decode cX4_add 39 = .ok (.bipush 96, 2) := by decide +kernel
theorem dX4_add_41 : decode cX4_add 41 = .ok (.if_icmp .le 5, 3) := by decide +kernel
theorem dX4_add_44 : decode cX4_add 44 = .ok (.iconst 0, 1) := by decide +kernel
theorem dX4_add_45 : decode cX4_add 45 = .ok (.ireturn, 1) := by decide +kernel
theorem dX4_add_46 : decode cX4_add 46 = .ok (.aload_n 0, 1) := by decide +kernel
theorem dX4_add_47 : decode cX4_add 47 = .ok (.getfield 9, 3) := by decide +kernel
theorem dX4_add_50 : decode cX4_add 50 = .ok (.aload_n 0, 1) := by decide +kernel
theorem dX4_add_51 : decode cX4_add 51 = .ok (.getfield 28, 3) := by decide +kernel
theorem dX4_add_54 : decode cX4_add 54 = .ok (.iload_n 1, 1) := by decide +kernel
theorem dX4_add_55 : decode cX4_add 55 = .ok (.iastore, 1) := by decide +kernel
theorem dX4_add_56 : decode cX4_add 56 = .ok (.aload_n 0, 1) := by decide +kernel
theorem dX4_add_57 : decode cX4_add 57 = .ok (.getfield 15, 3) := by decide +kernel
theorem dX4_add_60 : decode cX4_add 60 = .ok (.aload_n 0, 1) := by decide +kernel
theorem dX4_add_61 : decode cX4_add 61 = .ok (.getfield 28, 3) := by decide +kernel
theorem dX4_add_64 : decode cX4_add 64 = .ok (.iload_n 2, 1) := by decide +kernel
theorem dX4_add_65 : decode cX4_add 65 = .ok (.iastore, 1) := by decide +kernel
theorem dX4_add_66 : decode cX4_add 66 = .ok (.aload_n 0, 1) := by decide +kernel
theorem dX4_add_67 : decode cX4_add 67 = .ok (.getfield 18, 3) := by decide +kernel
theorem dX4_add_70 : decode cX4_add 70 = .ok (.aload_n 0, 1) := by decide +kernel
theorem dX4_add_71 : decode cX4_add 71 = .ok (.getfield 28, 3) := by decide +kernel
theorem dX4_add_74 : decode cX4_add 74 = .ok (.aload_n 0, 1) := by decide +kernel
theorem dX4_add_75 : decode cX4_add 75 = .ok (.getfield 31, 3) := by decide +kernel
theorem dX4_add_78 : decode cX4_add 78 = .ok (.iastore, 1) := by decide +kernel
theorem dX4_add_79 : decode cX4_add 79 = .ok (.aload_n 0, 1) := by decide +kernel
theorem dX4_add_80 : decode cX4_add 80 = .ok (.getfield 31, 3) := by decide +kernel
theorem dX4_add_83 : decode cX4_add 83 = .ok (.istore_n 3, 1) := by decide +kernel
theorem dX4_add_84 : decode cX4_add 84 = .ok (.iload_n 3, 1) := by decide +kernel
theorem dX4_add_85 : decode cX4_add 85 = .ok (.aload_n 0, 1) := by decide +kernel
theorem dX4_add_86 : decode cX4_add 86 = .ok (.getfield 31, 3) := by decide +kernel
theorem dX4_add_89 : decode cX4_add 89 = .ok (.iload_n 2, 1) := by decide +kernel
theorem dX4_add_90 : decode cX4_add 90 = .ok (.iadd, 1) := by decide +kernel
theorem dX4_add_91 : decode cX4_add 91 = .ok (.if_icmp .ge 19, 3) := by decide +kernel
theorem dX4_add_94 : decode cX4_add 94 = .ok (.aload_n 0, 1) := by decide +kernel
theorem dX4_add_95 : decode cX4_add 95 = .ok (.getfield 21, 3) := by decide +kernel
theorem dX4_add_98 : decode cX4_add 98 = .ok (.iload_n 3, 1) := by decide +kernel
theorem dX4_add_99 : decode cX4_add 99 = .ok (.aload_n 0, 1) := by decide +kernel
theorem dX4_add_100 : decode cX4_add 100 = .ok (.getfield 28, 3) := by decide +kernel
theorem dX4_add_103 : decode cX4_add 103 = .ok (.iastore, 1) := by decide +kernel
theorem dX4_add_104 : decode cX4_add 104 = .ok (.iinc 3 1, 3) := by decide +kernel
theorem dX4_add_107 : decode cX4_add 107 = .ok (.goto (-23), 3) := by decide +kernel
theorem dX4_add_110 : decode cX4_add 110 = .ok (.aload_n 0, 1) := by decide +kernel
theorem dX4_add_111 : decode cX4_add 111 = .ok (.getfield 24, 3) := by decide +kernel
theorem dX4_add_114 : decode cX4_add 114 = .ok (.iconst (-1), 1) := by decide +kernel
theorem dX4_add_115 : decode cX4_add 115 = .ok (.if_icmp .ne 8, 3) := by decide +kernel
theorem dX4_add_118 : decode cX4_add 118 = .ok (.aload_n 0, 1) := by decide +kernel
theorem dX4_add_119 : decode cX4_add 119 = .ok (.iload_n 1, 1) := by decide +kernel
theorem dX4_add_120 : decode cX4_add 120 = .ok (.putfield 24, 3) := by decide +kernel
theorem dX4_add_123 : decode cX4_add 123 = .ok (.aload_n 0, 1) := by decide +kernel
theorem dX4_add_124 : decode cX4_add 124 = .ok (.aload_n 0, 1) := by decide +kernel
theorem dX4_add_125 : decode cX4_add 125 = .ok (.getfield 34, 3) := by decide +kernel
theorem dX4_add_128 : decode cX4_add 128 = .ok (.ifCond .ne 10, 3) := by decide +kernel
theorem dX4_add_131 : decode cX4_add 131 = .ok (.iload_n 2, 1) := by decide +kernel
theorem dX4_add_132 : decode cX4_add 132 = .ok (.iconst 2, 1) := by decide +kernel
theorem dX4_add_133 : decode cX4_add 133 = .ok (.irem, 1) := by decide +kernel
theorem dX4_add_134 : decode cX4_add 134 = .ok (.iconst 1, 1) := by decide +kernel
theorem dX4_add_135 : decode cX4_add 135 = .ok (.if_icmp .ne 7, 3) := by decide +kernel
theorem dX4_add_138 : decode cX4_add 138 = .ok (.iconst 1, 1) := by decide +kernel
theorem dX4_add_139 : decode cX4_add 139 = .ok (.goto 4, 3) := by decide +kernel
theorem dX4_add_142 : decode cX4_add 142 = .ok (.iconst 0, 1) := by decide +kernel
theorem dX4_add_143 : decode cX4_add 143 = .ok (.putfield 34, 3) := by decide +kernel
theorem dX4_add_146 : decode cX4_add 146 = .ok (.aload_n 0, 1) := by decide +kernel
theorem dX4_add_147 : decode cX4_add 147 = .ok (.dup, 1) := by decide +kernel
theorem dX4_add_148 : decode cX4_add 148 = .ok (.getfield 31, 3) := by decide +kernel
theorem dX4_add_151 : decode cX4_add 151 = .ok (.iload_n 2, 1) := by decide +kernel
theorem dX4_add_152 : decode cX4_add 152 = .ok (.iadd, 1) := by decide +kernel
theorem dX4_add_153 : decode cX4_add 153 = .ok (.putfield 31, 3) := by decide +kernel
theorem dX4_add_156 : decode cX4_add 156 = .ok (.aload_n 0, 1) := by decide +kernel
theorem dX4_add_157 : decode cX4_add 157 = .ok (.dup, 1) := by decide +kernel
theorem dX4_add_158 : decode cX4_add 158 = .ok (.getfield 28, 3) := by decide +kernel
theorem dX4_add_161 : decode cX4_add 161 = .ok (.iconst 1, 1) := by decide +kernel
theorem dX4_add_162 : decode cX4_add 162 = .ok (.iadd, 1) := by decide +kernel
theorem dX4_add_163 : decode cX4_add 163 = .ok (.putfield 28, 3) := by decide +kernel
theorem dX4_add_166 : decode cX4_add 166 = .ok (.iconst 1, 1) := by decide +kernel
theorem dX4_add_167 : decode cX4_add 167 = .ok (.ireturn, 1) := by decide +kernel
theorem dX4_copyFrom_0 : decode cX4_copyFrom 0 = .ok (.aload_n 0, 1) := by decide +kernel
theorem dX4_copyFrom_1 : decode cX4_copyFrom 1 = .ok (.invokevirtual 38, 3) := by decide +kernel
theorem dX4_copyFrom_4 : decode cX4_copyFrom 4 = .ok (.iconst 0, 1) := by decide +kernel
theorem dX4_copyFrom_5 : decode cX4_copyFrom 5 = .ok (.istore_n 2, 1) := by decide +kernel
theorem dX4_copyFrom_6 : decode cX4_copyFrom 6 = .ok (.iload_n 2, 1) := by decide +kernel
theorem dX4_copyFrom_7 : decode cX4_copyFrom 7 = .ok (.aload_n 1, 1) := by decide +kernel
theorem dX4_copyFrom_8 : decode cX4_copyFrom 8 = .ok (.getfield 28, 3) := by decide +kernel
theorem dX4_copyFrom_11 : decode cX4_copyFrom 11 = .ok (.if_icmp .ge 24, 3) := by decide +kernel
theorem dX4_copyFrom_14 : decode cX4_copyFrom 14 = .ok (.aload_n 0, 1) := by decide +kernel
theorem dX4_copyFrom_15 : decode cX4_copyFrom 15 = .ok (.aload_n 1, 1) := by decide +kernel
theorem dX4_copyFrom_16 : decode cX4_copyFrom 16 = .ok (.iload_n 2, 1) := by decide +kernel
theorem dX4_copyFrom_17 : decode cX4_copyFrom 17 = .ok (.invokevirtual 41, 3) := by decide +kernel
theorem dX4_copyFrom_20 : decode cX4_copyFrom 20 = .ok (.aload_n 1, 1) := by decide +kernel
theorem dX4_copyFrom_21 : decode cX4_copyFrom 21 = .ok (.iload_n 2, 1) := by decide +kernel
theorem dX4_copyFrom_22 : decode cX4_copyFrom 22 = .ok (.invokevirtual 45, 3) := by decide +kernel
theorem dX4_copyFrom_25 : decode cX4_copyFrom 25 = .ok (.invokevirtual 48, 3) := by decide +kernel
theorem dX4_copyFrom_28 : decode cX4_copyFrom 28 = .ok (.pop, 1) := by decide +kernel
theorem dX4_copyFrom_29 : decode cX4_copyFrom 29 = .ok (.iinc 2 1, 3) := by decide +kernel
theorem dX4_copyFrom_32 : decode cX4_copyFrom 32 = .ok (.goto (-26), 3) := by decide +kernel
theorem dX4_copyFrom_35 : decode cX4_copyFrom 35 = .ok (.return_, 1) := by decide +kernel
theorem dX4_holds_0 : decode cX4_holds 0 = .ok (.iload_n 1, 1) := by decide +kernel
theorem dX4_holds_1 : decode cX4_holds 1 = .ok (.ifCond .lt 21, 3) := by decide +kernel
theorem dX4_holds_4 : decode cX4_holds 4 = .ok (.iload_n 1, 1) := by decide +kernel
theorem dX4_holds_5 : decode cX4_holds 5 = .ok (.aload_n 0, 1) := by decide +kernel
theorem dX4_holds_6 : decode cX4_holds 6 = .ok (.getfield 28, 3) := by decide +kernel
theorem dX4_holds_9 : decode cX4_holds 9 = .ok (.if_icmp .ge 13, 3) := by decide +kernel
theorem dX4_holds_12 : decode cX4_holds 12 = .ok (.iload_n 1, 1) := by decide +kernel
theorem dX4_holds_13 : decode cX4_holds 13 = .ok (.bipush 24, 2) := by decide +kernel
theorem dX4_holds_15 : decode cX4_holds 15 = .ok (.if_icmp .ge 7, 3) := by decide +kernel
theorem dX4_holds_18 : decode cX4_holds 18 = .ok (.iconst 1, 1) := by decide +kernel
theorem dX4_holds_19 : decode cX4_holds 19 = .ok (.goto 4, 3) := by decide +kernel
theorem dX4_holds_22 : decode cX4_holds 22 = .ok (.iconst 0, 1) := by decide +kernel
theorem dX4_holds_23 : decode cX4_holds 23 = .ok (.ireturn, 1) := by decide +kernel
theorem dX4_stepOf_0 : decode cX4_stepOf 0 = .ok (.aload_n 0, 1) := by decide +kernel
theorem dX4_stepOf_1 : decode cX4_stepOf 1 = .ok (.iload_n 1, 1) := by decide +kernel
theorem dX4_stepOf_2 : decode cX4_stepOf 2 = .ok (.invokevirtual 52, 3) := by decide +kernel
theorem dX4_stepOf_5 : decode cX4_stepOf 5 = .ok (.ifCond .eq 12, 3) := by decide +kernel
theorem dX4_stepOf_8 : decode cX4_stepOf 8 = .ok (.aload_n 0, 1) := by decide +kernel
theorem dX4_stepOf_9 : decode cX4_stepOf 9 = .ok (.getfield 9, 3) := by decide +kernel
theorem dX4_stepOf_12 : decode cX4_stepOf 12 = .ok (.iload_n 1, 1) := by decide +kernel
theorem dX4_stepOf_13 : decode cX4_stepOf 13 = .ok (.iaload, 1) := by decide +kernel
theorem dX4_stepOf_14 : decode cX4_stepOf 14 = .ok (.goto 4, 3) := by decide +kernel
theorem dX4_stepOf_17 : decode cX4_stepOf 17 = .ok (.iconst (-1), 1) := by decide +kernel
theorem dX4_stepOf_18 : decode cX4_stepOf 18 = .ok (.ireturn, 1) := by decide +kernel
theorem dX4_lengthOf_0 : decode cX4_lengthOf 0 = .ok (.aload_n 0, 1) := by decide +kernel
theorem dX4_lengthOf_1 : decode cX4_lengthOf 1 = .ok (.iload_n 1, 1) := by decide +kernel
theorem dX4_lengthOf_2 : decode cX4_lengthOf 2 = .ok (.invokevirtual 52, 3) := by decide +kernel
theorem dX4_lengthOf_5 : decode cX4_lengthOf 5 = .ok (.ifCond .eq 12, 3) := by decide +kernel
theorem dX4_lengthOf_8 : decode cX4_lengthOf 8 = .ok (.aload_n 0, 1) := by decide +kernel
theorem dX4_lengthOf_9 : decode cX4_lengthOf 9 = .ok (.getfield 15, 3) := by decide +kernel
theorem dX4_lengthOf_12 : decode cX4_lengthOf 12 = .ok (.iload_n 1, 1) := by decide +kernel
theorem dX4_lengthOf_13 : decode cX4_lengthOf 13 = .ok (.iaload, 1) := by decide +kernel
theorem dX4_lengthOf_14 : decode cX4_lengthOf 14 = .ok (.goto 4, 3) := by decide +kernel
theorem dX4_lengthOf_17 : decode cX4_lengthOf 17 = .ok (.iconst (-1), 1) := by decide +kernel
theorem dX4_lengthOf_18 : decode cX4_lengthOf 18 = .ok (.ireturn, 1) := by decide +kernel
theorem dX4_startOf_0 : decode cX4_startOf 0 = .ok (.aload_n 0, 1) := by decide +kernel
theorem dX4_startOf_1 : decode cX4_startOf 1 = .ok (.iload_n 1, 1) := by decide +kernel
theorem dX4_startOf_2 : decode cX4_startOf 2 = .ok (.invokevirtual 52, 3) := by decide +kernel
theorem dX4_startOf_5 : decode cX4_startOf 5 = .ok (.ifCond .eq 12, 3) := by decide +kernel
theorem dX4_startOf_8 : decode cX4_startOf 8 = .ok (.aload_n 0, 1) := by decide +kernel
theorem dX4_startOf_9 : decode cX4_startOf 9 = .ok (.getfield 18, 3) := by decide +kernel
theorem dX4_startOf_12 : decode cX4_startOf 12 = .ok (.iload_n 1, 1) := by decide +kernel
theorem dX4_startOf_13 : decode cX4_startOf 13 = .ok (.iaload, 1) := by decide +kernel
theorem dX4_startOf_14 : decode cX4_startOf 14 = .ok (.goto 4, 3) := by decide +kernel
theorem dX4_startOf_17 : decode cX4_startOf 17 = .ok (.iconst (-1), 1) := by decide +kernel
theorem dX4_startOf_18 : decode cX4_startOf 18 = .ok (.ireturn, 1) := by decide +kernel
theorem dX4_ownerOf_0 : decode cX4_ownerOf 0 = .ok (.iload_n 1, 1) := by decide +kernel
theorem dX4_ownerOf_1 : decode cX4_ownerOf 1 = .ok (.ifCond .lt 26, 3) := by decide +kernel
theorem dX4_ownerOf_4 : decode cX4_ownerOf 4 = .ok (.iload_n 1, 1) := by decide +kernel
theorem dX4_ownerOf_5 : decode cX4_ownerOf 5 = .ok (.aload_n 0, 1) := by decide +kernel
theorem dX4_ownerOf_6 : decode cX4_ownerOf 6 = .ok (.getfield 31, 3) := by decide +kernel
theorem dX4_ownerOf_9 : decode cX4_ownerOf 9 = .ok (.if_icmp .ge 18, 3) := by decide +kernel
theorem dX4_ownerOf_12 : decode cX4_ownerOf 12 = .ok (.iload_n 1, 1) := by decide +kernel
theorem dX4_ownerOf_13 : decode cX4_ownerOf 13 = .ok (.bipush 96, 2) := by decide +kernel
theorem dX4_ownerOf_15 : decode cX4_ownerOf 15 = .ok (.if_icmp .ge 12, 3) := by decide +kernel
theorem dX4_ownerOf_18 : decode cX4_ownerOf 18 = .ok (.aload_n 0, 1) := by decide +kernel
theorem dX4_ownerOf_19 : decode cX4_ownerOf 19 = .ok (.getfield 21, 3) := by decide +kernel
theorem dX4_ownerOf_22 : decode cX4_ownerOf 22 = .ok (.iload_n 1, 1) := by decide +kernel
theorem dX4_ownerOf_23 : decode cX4_ownerOf 23 = .ok (.iaload, 1) := by decide +kernel
theorem dX4_ownerOf_24 : decode cX4_ownerOf 24 = .ok (.goto 4, 3) := by decide +kernel
theorem dX4_ownerOf_27 : decode cX4_ownerOf 27 = .ok (.iconst (-1), 1) := by decide +kernel
theorem dX4_ownerOf_28 : decode cX4_ownerOf 28 = .ok (.ireturn, 1) := by decide +kernel
theorem dX4_rests_0 : decode cX4_rests 0 = .ok (.iconst 0, 1) := by decide +kernel
theorem dX4_rests_1 : decode cX4_rests 1 = .ok (.istore_n 1, 1) := by decide +kernel
theorem dX4_rests_2 : decode cX4_rests 2 = .ok (.iconst 0, 1) := by decide +kernel
theorem dX4_rests_3 : decode cX4_rests 3 = .ok (.istore_n 2, 1) := by decide +kernel
theorem dX4_rests_4 : decode cX4_rests 4 = .ok (.iload_n 2, 1) := by decide +kernel
theorem dX4_rests_5 : decode cX4_rests 5 = .ok (.aload_n 0, 1) := by decide +kernel
theorem dX4_rests_6 : decode cX4_rests 6 = .ok (.getfield 28, 3) := by decide +kernel
theorem dX4_rests_9 : decode cX4_rests 9 = .ok (.if_icmp .ge 26, 3) := by decide +kernel
theorem dX4_rests_12 : decode cX4_rests 12 = .ok (.iload_n 1, 1) := by decide +kernel
theorem dX4_rests_13 : decode cX4_rests 13 = .ok (.aload_n 0, 1) := by decide +kernel
theorem dX4_rests_14 : decode cX4_rests 14 = .ok (.iload_n 2, 1) := by decide +kernel
theorem dX4_rests_15 : decode cX4_rests 15 = .ok (.invokevirtual 41, 3) := by decide +kernel
theorem dX4_rests_18 : decode cX4_rests 18 = .ok (.iconst (-1), 1) := by decide +kernel
theorem dX4_rests_19 : decode cX4_rests 19 = .ok (.if_icmp .ne 7, 3) := by decide +kernel
theorem dX4_rests_22 : decode cX4_rests 22 = .ok (.iconst 1, 1) := by decide +kernel
theorem dX4_rests_23 : decode cX4_rests 23 = .ok (.goto 4, 3) := by decide +kernel
theorem dX4_rests_26 : decode cX4_rests 26 = .ok (.iconst 0, 1) := by decide +kernel
theorem dX4_rests_27 : decode cX4_rests 27 = .ok (.iadd, 1) := by decide +kernel
theorem dX4_rests_28 : decode cX4_rests 28 = .ok (.istore_n 1, 1) := by decide +kernel
theorem dX4_rests_29 : decode cX4_rests 29 = .ok (.iinc 2 1, 3) := by decide +kernel
theorem dX4_rests_32 : decode cX4_rests 32 = .ok (.goto (-28), 3) := by decide +kernel
theorem dX4_rests_35 : decode cX4_rests 35 = .ok (.iload_n 1, 1) := by decide +kernel
theorem dX4_rests_36 : decode cX4_rests 36 = .ok (.ireturn, 1) := by decide +kernel
theorem dX4_setStep_0 : decode cX4_setStep 0 = .ok (.aload_n 0, 1) := by decide +kernel
theorem dX4_setStep_1 : decode cX4_setStep 1 = .ok (.iload_n 1, 1) := by decide +kernel
theorem dX4_setStep_2 : decode cX4_setStep 2 = .ok (.invokevirtual 52, 3) := by decide +kernel
theorem dX4_setStep_5 : decode cX4_setStep 5 = .ok (.ifCond .ne 4, 3) := by decide +kernel
theorem dX4_setStep_8 : decode cX4_setStep 8 = .ok (.return_, 1) := by decide +kernel
theorem dX4_setStep_9 : decode cX4_setStep 9 = .ok (.aload_n 0, 1) := by decide +kernel
theorem dX4_setStep_10 : decode cX4_setStep 10 = .ok (.getfield 9, 3) := by decide +kernel
theorem dX4_setStep_13 : decode cX4_setStep 13 = .ok (.iload_n 1, 1) := by decide +kernel
theorem dX4_setStep_14 : decode cX4_setStep 14 = .ok (.iload_n 2, 1) := by decide +kernel
theorem dX4_setStep_15 : decode cX4_setStep 15 = .ok (.iastore, 1) := by decide +kernel
theorem dX4_setStep_16 : decode cX4_setStep 16 = .ok (.aload_n 0, 1) := by decide +kernel
theorem dX4_setStep_17 : decode cX4_setStep 17 = .ok (.iconst (-1), 1) := by decide +kernel
theorem dX4_setStep_18 : decode cX4_setStep 18 = .ok (.putfield 24, 3) := by decide +kernel
theorem dX4_setStep_21 : decode cX4_setStep 21 = .ok (.iconst 0, 1) := by decide +kernel
theorem dX4_setStep_22 : decode cX4_setStep 22 = .ok (.istore_n 3, 1) := by decide +kernel
theorem dX4_setStep_23 : decode cX4_setStep 23 = .ok (.iload_n 3, 1) := by decide +kernel
theorem dX4_setStep_24 : decode cX4_setStep 24 = .ok (.aload_n 0, 1) := by decide +kernel
theorem dX4_setStep_25 : decode cX4_setStep 25 = .ok (.getfield 28, 3) := by decide +kernel
theorem dX4_setStep_28 : decode cX4_setStep 28 = .ok (.if_icmp .ge 26, 3) := by decide +kernel
theorem dX4_setStep_31 : decode cX4_setStep 31 = .ok (.aload_n 0, 1) := by decide +kernel
theorem dX4_setStep_32 : decode cX4_setStep 32 = .ok (.getfield 24, 3) := by decide +kernel
theorem dX4_setStep_35 : decode cX4_setStep 35 = .ok (.iconst (-1), 1) := by decide +kernel
theorem dX4_setStep_36 : decode cX4_setStep 36 = .ok (.if_icmp .ne 18, 3) := by decide +kernel
theorem dX4_setStep_39 : decode cX4_setStep 39 = .ok (.aload_n 0, 1) := by decide +kernel
theorem dX4_setStep_40 : decode cX4_setStep 40 = .ok (.aload_n 0, 1) := by decide +kernel
theorem dX4_setStep_41 : decode cX4_setStep 41 = .ok (.iload_n 3, 1) := by decide +kernel
theorem dX4_setStep_42 : decode cX4_setStep 42 = .ok (.invokevirtual 41, 3) := by decide +kernel
theorem dX4_setStep_45 : decode cX4_setStep 45 = .ok (.putfield 24, 3) := by decide +kernel
theorem dX4_setStep_48 : decode cX4_setStep 48 = .ok (.iinc 3 1, 3) := by decide +kernel
theorem dX4_setStep_51 : decode cX4_setStep 51 = .ok (.goto (-28), 3) := by decide +kernel
theorem dX4_setStep_54 : decode cX4_setStep 54 = .ok (.return_, 1) := by decide +kernel
theorem dX4_beginMade_0 : decode cX4_beginMade 0 = .ok (.aload_n 0, 1) := by decide +kernel
theorem dX4_beginMade_1 : decode cX4_beginMade 1 = .ok (.invokevirtual 38, 3) := by decide +kernel
theorem dX4_beginMade_4 : decode cX4_beginMade 4 = .ok (.iconst 0, 1) := by decide +kernel
theorem dX4_beginMade_5 : decode cX4_beginMade 5 = .ok (.istore_n 3, 1) := by decide +kernel
theorem dX4_beginMade_6 : decode cX4_beginMade 6 = .ok (.iload_n 3, 1) := by decide +kernel
theorem dX4_beginMade_7 : decode cX4_beginMade 7 = .ok (.iload_n 1, 1) := by decide +kernel
theorem dX4_beginMade_8 : decode cX4_beginMade 8 = .ok (.if_icmp .ge 16, 3) := by decide +kernel
theorem dX4_beginMade_11 : decode cX4_beginMade 11 = .ok (.aload_n 0, 1) := by decide +kernel
theorem dX4_beginMade_12 : decode cX4_beginMade 12 = .ok (.iconst 0, 1) := by decide +kernel
theorem dX4_beginMade_13 : decode cX4_beginMade 13 = .ok (.iconst 2, 1) := by decide +kernel
theorem dX4_beginMade_14 : decode cX4_beginMade 14 = .ok (.invokevirtual 48, 3) := by decide +kernel
theorem dX4_beginMade_17 : decode cX4_beginMade 17 = .ok (.pop, 1) := by decide +kernel
theorem dX4_beginMade_18 : decode cX4_beginMade 18 = .ok (.iinc 3 1, 3) := by decide +kernel
theorem dX4_beginMade_21 : decode cX4_beginMade 21 = .ok (.goto (-15), 3) := by decide +kernel
theorem dX4_beginMade_24 : decode cX4_beginMade 24 = .ok (.aload_n 0, 1) := by decide +kernel
theorem dX4_beginMade_25 : decode cX4_beginMade 25 = .ok (.iconst 0, 1) := by decide +kernel
theorem dX4_beginMade_26 : decode cX4_beginMade 26 = .ok (.iload_n 2, 1) := by decide +kernel
theorem dX4_beginMade_27 : decode cX4_beginMade 27 = .ok (.invokevirtual 56, 3) := by decide +kernel
theorem dX4_beginMade_30 : decode cX4_beginMade 30 = .ok (.ireturn, 1) := by decide +kernel
theorem dX4_advanceMade_0 : decode cX4_advanceMade 0 = .ok (.aload_n 0, 1) := by decide +kernel
theorem dX4_advanceMade_1 : decode cX4_advanceMade 1 = .ok (.getfield 28, 3) := by decide +kernel
theorem dX4_advanceMade_4 : decode cX4_advanceMade 4 = .ok (.iconst 1, 1) := by decide +kernel
theorem dX4_advanceMade_5 : decode cX4_advanceMade 5 = .ok (.isub, 1) := by decide +kernel
theorem dX4_advanceMade_6 : decode cX4_advanceMade 6 = .ok (.istore_n 2, 1) := by decide +kernel
theorem dX4_advanceMade_7 : decode cX4_advanceMade 7 = .ok (.iload_n 2, 1) := by decide +kernel
theorem dX4_advanceMade_8 : decode cX4_advanceMade 8 = .ok (.ifCond .lt 55, 3) := by decide +kernel
theorem dX4_advanceMade_11 : decode cX4_advanceMade 11 = .ok (.aload_n 0, 1) := by decide +kernel
theorem dX4_advanceMade_12 : decode cX4_advanceMade 12 = .ok (.iload_n 2, 1) := by decide +kernel
theorem dX4_advanceMade_13 : decode cX4_advanceMade 13 = .ok (.invokevirtual 41, 3) := by decide +kernel
theorem dX4_advanceMade_16 : decode cX4_advanceMade 16 = .ok (.iconst 1, 1) := by decide +kernel
theorem dX4_advanceMade_17 : decode cX4_advanceMade 17 = .ok (.iadd, 1) := by decide +kernel
theorem dX4_advanceMade_18 : decode cX4_advanceMade 18 = .ok (.istore_n 3, 1) := by decide +kernel
theorem dX4_advanceMade_19 : decode cX4_advanceMade 19 = .ok (.iload_n 2, 1) := by decide +kernel
theorem dX4_advanceMade_20 : decode cX4_advanceMade 20 = .ok (.ifCond .le 17, 3) := by decide +kernel
theorem dX4_advanceMade_23 : decode cX4_advanceMade 23 = .ok (.iload_n 3, 1) := by decide +kernel
theorem dX4_advanceMade_24 : decode cX4_advanceMade 24 = .ok (.aload_n 0, 1) := by decide +kernel
theorem dX4_advanceMade_25 : decode cX4_advanceMade 25 = .ok (.iload_n 2, 1) := by decide +kernel
theorem dX4_advanceMade_26 : decode cX4_advanceMade 26 = .ok (.iconst 1, 1) := by decide +kernel
theorem dX4_advanceMade_27 : decode cX4_advanceMade 27 = .ok (.isub, 1) := by decide +kernel
theorem dX4_advanceMade_28 : decode cX4_advanceMade 28 = .ok (.invokevirtual 41, 3) := by decide +kernel
theorem dX4_advanceMade_31 : decode cX4_advanceMade 31 = .ok (.if_icmp .ne 6, 3) := by decide +kernel
theorem dX4_advanceMade_34 : decode cX4_advanceMade 34 = .ok (.iinc 3 1, 3) := by decide +kernel
theorem dX4_advanceMade_37 : decode cX4_advanceMade 37 = .ok (.iload_n 3, 1) := by decide +kernel
theorem dX4_advanceMade_38 : decode cX4_advanceMade 38 = .ok (.iload_n 1, 1) := by decide +kernel
theorem dX4_advanceMade_39 : decode cX4_advanceMade 39 = .ok (.if_icmp .gt 18, 3) := by decide +kernel
theorem dX4_advanceMade_42 : decode cX4_advanceMade 42 = .ok (.aload_n 0, 1) := by decide +kernel
theorem dX4_advanceMade_43 : decode cX4_advanceMade 43 = .ok (.iload_n 2, 1) := by decide +kernel
theorem dX4_advanceMade_44 : decode cX4_advanceMade 44 = .ok (.iload_n 3, 1) := by decide +kernel
theorem dX4_advanceMade_45 : decode cX4_advanceMade 45 = .ok (.invokevirtual 59, 3) := by decide +kernel
theorem dX4_advanceMade_48 : decode cX4_advanceMade 48 = .ok (.aload_n 0, 1) := by decide +kernel
theorem dX4_advanceMade_49 : decode cX4_advanceMade 49 = .ok (.iload_n 2, 1) := by decide +kernel
theorem dX4_advanceMade_50 : decode cX4_advanceMade 50 = .ok (.iconst 1, 1) := by decide +kernel
theorem dX4_advanceMade_51 : decode cX4_advanceMade 51 = .ok (.iadd, 1) := by decide +kernel
theorem dX4_advanceMade_52 : decode cX4_advanceMade 52 = .ok (.iload_n 1, 1) := by decide +kernel
theorem dX4_advanceMade_53 : decode cX4_advanceMade 53 = .ok (.invokevirtual 56, 3) := by decide +kernel
theorem dX4_advanceMade_56 : decode cX4_advanceMade 56 = .ok (.ireturn, 1) := by decide +kernel
theorem dX4_advanceMade_57 : decode cX4_advanceMade 57 = .ok (.iinc 2 (-1), 3) := by decide +kernel
theorem dX4_advanceMade_60 : decode cX4_advanceMade 60 = .ok (.goto (-53), 3) := by decide +kernel
theorem dX4_advanceMade_63 : decode cX4_advanceMade 63 = .ok (.iconst 0, 1) := by decide +kernel
theorem dX4_advanceMade_64 : decode cX4_advanceMade 64 = .ok (.ireturn, 1) := by decide +kernel
theorem dX4_fillMade_0 : decode cX4_fillMade 0 = .ok (.iload_n 1, 1) := by decide +kernel
theorem dX4_fillMade_1 : decode cX4_fillMade 1 = .ok (.istore_n 3, 1) := by decide +kernel
theorem dX4_fillMade_2 : decode cX4_fillMade 2 = .ok (.iload_n 3, 1) := by decide +kernel
theorem dX4_fillMade_3 : decode cX4_fillMade 3 = .ok (.aload_n 0, 1) := by decide +kernel
theorem dX4_fillMade_4 : decode cX4_fillMade 4 = .ok (.getfield 28, 3) := by decide +kernel
theorem dX4_fillMade_7 : decode cX4_fillMade 7 = .ok (.if_icmp .ge 45, 3) := by decide +kernel
theorem dX4_fillMade_10 : decode cX4_fillMade 10 = .ok (.iload_n 3, 1) := by decide +kernel
theorem dX4_fillMade_11 : decode cX4_fillMade 11 = .ok (.ifCond .le 17, 3) := by decide +kernel
theorem dX4_fillMade_14 : decode cX4_fillMade 14 = .ok (.aload_n 0, 1) := by decide +kernel
theorem dX4_fillMade_15 : decode cX4_fillMade 15 = .ok (.iload_n 3, 1) := by decide +kernel
theorem dX4_fillMade_16 : decode cX4_fillMade 16 = .ok (.iconst 1, 1) := by decide +kernel
theorem dX4_fillMade_17 : decode cX4_fillMade 17 = .ok (.isub, 1) := by decide +kernel
theorem dX4_fillMade_18 : decode cX4_fillMade 18 = .ok (.invokevirtual 41, 3) := by decide +kernel
theorem dX4_fillMade_21 : decode cX4_fillMade 21 = .ok (.ifCond .ne 7, 3) := by decide +kernel
theorem dX4_fillMade_24 : decode cX4_fillMade 24 = .ok (.iconst 1, 1) := by decide +kernel
theorem dX4_fillMade_25 : decode cX4_fillMade 25 = .ok (.goto 4, 3) := by decide +kernel
theorem dX4_fillMade_28 : decode cX4_fillMade 28 = .ok (.iconst 0, 1) := by decide +kernel
theorem dX4_fillMade_29 : decode cX4_fillMade 29 = .ok (.istore 4, 2) := by decide +kernel
theorem dX4_fillMade_31 : decode cX4_fillMade 31 = .ok (.iload 4, 2) := by decide +kernel
theorem dX4_fillMade_33 : decode cX4_fillMade 33 = .ok (.iload_n 2, 1) := by decide +kernel
theorem dX4_fillMade_34 : decode cX4_fillMade 34 = .ok (.if_icmp .le 5, 3) := by decide +kernel
theorem dX4_fillMade_37 : decode cX4_fillMade 37 = .ok (.iconst 0, 1) := by decide +kernel
theorem dX4_fillMade_38 : decode cX4_fillMade 38 = .ok (.ireturn, 1) := by decide +kernel
theorem dX4_fillMade_39 : decode cX4_fillMade 39 = .ok (.aload_n 0, 1) := by decide +kernel
theorem dX4_fillMade_40 : decode cX4_fillMade 40 = .ok (.iload_n 3, 1) := by decide +kernel
theorem dX4_fillMade_41 : decode cX4_fillMade 41 = .ok (.iload 4, 2) := by decide +kernel
theorem dX4_fillMade_43 : decode cX4_fillMade 43 = .ok (.invokevirtual 59, 3) := by decide +kernel
theorem dX4_fillMade_46 : decode cX4_fillMade 46 = .ok (.iinc 3 1, 3) := by decide +kernel
theorem dX4_fillMade_49 : decode cX4_fillMade 49 = .ok (.goto (-47), 3) := by decide +kernel
theorem dX4_fillMade_52 : decode cX4_fillMade 52 = .ok (.iconst 1, 1) := by decide +kernel
theorem dX4_fillMade_53 : decode cX4_fillMade 53 = .ok (.ireturn, 1) := by decide +kernel
theorem dX5_init_0 : decode cX5_init 0 = .ok (.aload_n 0, 1) := by decide +kernel
theorem dX5_init_1 : decode cX5_init 1 = .ok (.invokespecial 3, 3) := by decide +kernel
theorem dX5_init_4 : decode cX5_init 4 = .ok (.aload_n 0, 1) := by decide +kernel
theorem dX5_init_5 : decode cX5_init 5 = .ok (.iconst (-1), 1) := by decide +kernel
theorem dX5_init_6 : decode cX5_init 6 = .ok (.putfield 9, 3) := by decide +kernel
theorem dX5_init_9 : decode cX5_init 9 = .ok (.aload_n 0, 1) := by decide +kernel
theorem dX5_init_10 : decode cX5_init 10 = .ok (.aload_n 1, 1) := by decide +kernel
theorem dX5_init_11 : decode cX5_init 11 = .ok (.putfield 15, 3) := by decide +kernel
theorem dX5_init_14 : decode cX5_init 14 = .ok (.aload_n 0, 1) := by decide +kernel
theorem dX5_init_15 : decode cX5_init 15 = .ok (.aload_n 2, 1) := by decide +kernel
theorem dX5_init_16 : decode cX5_init 16 = .ok (.putfield 19, 3) := by decide +kernel
theorem dX5_init_19 : decode cX5_init 19 = .ok (.return_, 1) := by decide +kernel
theorem dX5_begin_0 : decode cX5_begin 0 = .ok (.aload_n 0, 1) := by decide +kernel
theorem dX5_begin_1 : decode cX5_begin 1 = .ok (.iconst 0, 1) := by decide +kernel
theorem dX5_begin_2 : decode cX5_begin 2 = .ok (.putfield 23, 3) := by decide +kernel
theorem dX5_begin_5 : decode cX5_begin 5 = .ok (.aload_n 0, 1) := by decide +kernel
theorem dX5_begin_6 : decode cX5_begin 6 = .ok (.iconst (-1), 1) := by decide +kernel
theorem dX5_begin_7 : decode cX5_begin 7 = .ok (.putfield 26, 3) := by decide +kernel
theorem dX5_begin_10 : decode cX5_begin 10 = .ok (.aload_n 0, 1) := by decide +kernel
theorem dX5_begin_11 : decode cX5_begin 11 = .ok (.iconst 0, 1) := by decide +kernel
theorem dX5_begin_12 : decode cX5_begin 12 = .ok (.putfield 29, 3) := by decide +kernel
theorem dX5_begin_15 : decode cX5_begin 15 = .ok (.aload_n 0, 1) := by decide +kernel
theorem dX5_begin_16 : decode cX5_begin 16 = .ok (.iconst 0, 1) := by decide +kernel
theorem dX5_begin_17 : decode cX5_begin 17 = .ok (.putfield 32, 3) := by decide +kernel
theorem dX5_begin_20 : decode cX5_begin 20 = .ok (.aload_n 0, 1) := by decide +kernel
theorem dX5_begin_21 : decode cX5_begin 21 = .ok (.iconst (-1), 1) := by decide +kernel
theorem dX5_begin_22 : decode cX5_begin 22 = .ok (.putfield 9, 3) := by decide +kernel
theorem dX5_begin_25 : decode cX5_begin 25 = .ok (.return_, 1) := by decide +kernel
theorem dX5_readLine_0 : decode cX5_readLine 0 = .ok (.aload_n 0, 1) := by decide +kernel
theorem dX5_readLine_1 : decode cX5_readLine 1 = .ok (.invokevirtual 35, 3) := by decide +kernel
theorem dX5_readLine_4 : decode cX5_readLine 4 = .ok (.aload_n 1, 1) := by decide +kernel
theorem dX5_readLine_5 : decode cX5_readLine 5 = .ok (.invokevirtual 38, 3) := by decide +kernel
theorem dX5_readLine_8 : decode cX5_readLine 8 = .ok (.iconst 0, 1) := by decide +kernel
theorem dX5_readLine_9 : decode cX5_readLine 9 = .ok (.istore_n 2, 1) := by decide +kernel
theorem dX5_readLine_10 : decode cX5_readLine 10 = .ok (.iload_n 2, 1) := by decide +kernel
theorem dX5_readLine_11 : decode cX5_readLine 11 = .ok (.bipush 24, 2) := by decide +kernel
theorem dX5_readLine_13 : decode cX5_readLine 13 = .ok (.if_icmp .ge 29, 3) := by decide +kernel
theorem dX5_readLine_16 : decode cX5_readLine 16 = .ok (.aload_n 0, 1) := by decide +kernel
theorem dX5_readLine_17 : decode cX5_readLine 17 = .ok (.invokevirtual 43, 3) := by decide +kernel
theorem dX5_readLine_20 : decode cX5_readLine 20 = .ok (.iconst (-1), 1) := by decide +kernel
theorem dX5_readLine_21 : decode cX5_readLine 21 = .ok (.if_icmp .ne 5, 3) := by decide +kernel
theorem dX5_readLine_24 : decode cX5_readLine 24 = .ok (.iload_n 2, 1) := by decide +kernel
theorem dX5_readLine_25 : decode cX5_readLine 25 = .ok (.ireturn, 1) := by decide +kernel
theorem dX5_readLine_26 : decode cX5_readLine 26 = .ok (.aload_n 0, 1) := by decide +kernel
theorem dX5_readLine_27 : decode cX5_readLine 27 = .ok (.aload_n 1, 1) := by decide +kernel
theorem dX5_readLine_28 : decode cX5_readLine 28 = .ok (.invokevirtual 47, 3) := by decide +kernel
theorem dX5_readLine_31 : decode cX5_readLine 31 = .ok (.ifCond .ne 5, 3) := by decide +kernel
theorem dX5_readLine_34 : decode cX5_readLine 34 = .ok (.iconst (-1), 1) := by decide +kernel
theorem dX5_readLine_35 : decode cX5_readLine 35 = .ok (.ireturn, 1) := by decide +kernel
