theorem dX10_allows_5 : decode cX10_allows 5 = .ok (.irem, 1) := by decide +kernel
theorem dX10_allows_6 : decode cX10_allows 6 = .ok (.iload_n 1, 1) := by decide +kernel
theorem dX10_allows_7 : decode cX10_allows 7 = .ok (.iconst 3, 1) := by decide +kernel
theorem dX10_allows_8 : decode cX10_allows 8 = .ok (.idiv, 1) := by decide +kernel
theorem dX10_allows_9 : decode cX10_allows 9 = .ok (.iconst 2, 1) := by decide +kernel
theorem dX10_allows_10 : decode cX10_allows 10 = .ok (.irem, 1) := by decide +kernel
theorem dX10_allows_11 : decode cX10_allows 11 = .ok (.iconst 2, 1) := by decide +kernel
theorem dX10_allows_12 : decode cX10_allows 12 = .ok (.imul, 1) := by decide +kernel
theorem dX10_allows_13 : decode cX10_allows 13 = .ok (.iadd, 1) := by decide +kernel
theorem dX10_allows_14 : decode cX10_allows 14 = .ok (.istore_n 2, 1) := by decide +kernel
theorem dX10_allows_15 : decode cX10_allows 15 = .ok (.iload_n 1, 1) := by decide +kernel
theorem dX10_allows_16 : decode cX10_allows 16 = .ok (.iconst 3, 1) := by decide +kernel
theorem dX10_allows_17 : decode cX10_allows 17 = .ok (.irem, 1) := by decide +kernel
theorem dX10_allows_18 : decode cX10_allows 18 = .ok (.ifCond .eq 19, 3) := by decide +kernel
theorem dX10_allows_21 : decode cX10_allows 21 = .ok (.iload_n 2, 1) := by decide +kernel
theorem dX10_allows_22 : decode cX10_allows 22 = .ok (.iload_n 1, 1) := by decide +kernel
theorem dX10_allows_23 : decode cX10_allows 23 = .ok (.iconst 3, 1) := by decide +kernel
theorem dX10_allows_24 : decode cX10_allows 24 = .ok (.irem, 1) := by decide +kernel
theorem dX10_allows_25 : decode cX10_allows 25 = .ok (.iconst 1, 1) := by decide +kernel
theorem dX10_allows_26 : decode cX10_allows 26 = .ok (.if_icmp .ne 7, 3) := by decide +kernel
theorem dX10_allows_29 : decode cX10_allows 29 = .ok (.iconst 4, 1) := by decide +kernel
theorem dX10_allows_30 : decode cX10_allows 30 = .ok (.goto 5, 3) := by decide +kernel
theorem dX10_allows_33 : decode cX10_allows 33 = .ok (.bipush 8, 2) := by decide +kernel
theorem dX10_allows_35 : decode cX10_allows 35 = .ok (.iadd, 1) := by decide +kernel
theorem dX10_allows_36 : decode cX10_allows 36 = .ok (.istore_n 2, 1) := by decide +kernel
theorem dX10_allows_37 : decode cX10_allows 37 = .ok (.iload_n 2, 1) := by decide +kernel
theorem dX10_allows_38 : decode cX10_allows 38 = .ok (.aload_n 0, 1) := by decide +kernel
theorem dX10_allows_39 : decode cX10_allows 39 = .ok (.getfield 47, 3) := by decide +kernel
theorem dX10_allows_42 : decode cX10_allows 42 = .ok (.iconst (-1), 1) := by decide +kernel
theorem dX10_allows_43 : decode cX10_allows 43 = .ok (.ixor, 1) := by decide +kernel
theorem dX10_allows_44 : decode cX10_allows 44 = .ok (.iand, 1) := by decide +kernel
theorem dX10_allows_45 : decode cX10_allows 45 = .ok (.ifCond .ne 7, 3) := by decide +kernel
theorem dX10_allows_48 : decode cX10_allows 48 = .ok (.iconst 1, 1) := by decide +kernel
theorem dX10_allows_49 : decode cX10_allows 49 = .ok (.goto 4, 3) := by decide +kernel
theorem dX10_allows_52 : decode cX10_allows 52 = .ok (.iconst 0, 1) := by decide +kernel
theorem dX10_allows_53 : decode cX10_allows 53 = .ok (.ireturn, 1) := by decide +kernel
theorem dX10_survey_0 : decode cX10_survey 0 = .ok (.aload_n 0, 1) := by decide +kernel
theorem dX10_survey_1 : decode cX10_survey 1 = .ok (.iconst 0, 1) := by decide +kernel
theorem dX10_survey_2 : decode cX10_survey 2 = .ok (.putfield 50, 3) := by decide +kernel
theorem dX10_survey_5 : decode cX10_survey 5 = .ok (.aload_n 0, 1) := by decide +kernel
theorem dX10_survey_6 : decode cX10_survey 6 = .ok (.getfield 25, 3) := by decide +kernel
theorem dX10_survey_9 : decode cX10_survey 9 = .ok (.iconst 0, 1) := by decide +kernel
theorem dX10_survey_10 : decode cX10_survey 10 = .ok (.invokestatic 53, 3) := by decide +kernel
theorem dX10_survey_13 : decode cX10_survey 13 = .ok (.aload_n 0, 1) := by decide +kernel
theorem dX10_survey_14 : decode cX10_survey 14 = .ok (.getfield 28, 3) := by decide +kernel
theorem dX10_survey_17 : decode cX10_survey 17 = .ok (.iconst 0, 1) := by decide +kernel
theorem dX10_survey_18 : decode cX10_survey 18 = .ok (.invokestatic 53, 3) := by decide +kernel
theorem dX10_survey_21 : decode cX10_survey 21 = .ok (.iconst 0, 1) := by decide +kernel
theorem dX10_survey_22 : decode cX10_survey 22 = .ok (.istore 5, 2) := by decide +kernel
theorem dX10_survey_24 : decode cX10_survey 24 = .ok (.iload 5, 2) := by decide +kernel
theorem dX10_survey_26 : decode cX10_survey 26 = .ok (.aload_n 0, 1) := by decide +kernel
theorem dX10_survey_27 : decode cX10_survey 27 = .ok (.getfield 9, 3) := by decide +kernel
theorem dX10_survey_30 : decode cX10_survey 30 = .ok (.if_icmp .gt 117, 3) := by decide +kernel
theorem dX10_survey_33 : decode cX10_survey 33 = .ok (.aload_n 0, 1) := by decide +kernel
theorem dX10_survey_34 : decode cX10_survey 34 = .ok (.getfield 31, 3) := by decide +kernel
theorem dX10_survey_37 : decode cX10_survey 37 = .ok (.iconst 0, 1) := by decide +kernel
theorem dX10_survey_38 : decode cX10_survey 38 = .ok (.invokestatic 53, 3) := by decide +kernel
theorem dX10_survey_41 : decode cX10_survey 41 = .ok (.iconst 0, 1) := by decide +kernel
theorem dX10_survey_42 : decode cX10_survey 42 = .ok (.istore 6, 2) := by decide +kernel
theorem dX10_survey_44 : decode cX10_survey 44 = .ok (.iload 6, 2) := by decide +kernel
theorem dX10_survey_46 : decode cX10_survey 46 = .ok (.bipush 12, 2) := by decide +kernel
theorem dX10_survey_48 : decode cX10_survey 48 = .ok (.if_icmp .ge 87, 3) := by decide +kernel
theorem dX10_survey_51 : decode cX10_survey 51 = .ok (.iload 5, 2) := by decide +kernel
theorem dX10_survey_53 : decode cX10_survey 53 = .ok (.iconst 0, 1) := by decide +kernel
theorem dX10_survey_54 : decode cX10_survey 54 = .ok (.iload 6, 2) := by decide +kernel
theorem dX10_survey_56 : decode cX10_survey 56 = .ok (.invokestatic 59, 3) := by decide +kernel
theorem dX10_survey_59 : decode cX10_survey 59 = .ok (.istore 7, 2) := by decide +kernel
theorem dX10_survey_61 : decode cX10_survey 61 = .ok (.aload_n 0, 1) := by decide +kernel
theorem dX10_survey_62 : decode cX10_survey 62 = .ok (.iload 6, 2) := by decide +kernel
theorem dX10_survey_64 : decode cX10_survey 64 = .ok (.invokevirtual 63, 3) := by decide +kernel
theorem dX10_survey_67 : decode cX10_survey 67 = .ok (.ifCond .eq 62, 3) := by decide +kernel
theorem dX10_survey_70 : decode cX10_survey 70 = .ok (.aload_n 1, 1) := by decide +kernel
theorem dX10_survey_71 : decode cX10_survey 71 = .ok (.iload 7, 2) := by decide +kernel
theorem dX10_survey_73 : decode cX10_survey 73 = .ok (.invokestatic 67, 3) := by decide +kernel
theorem dX10_survey_76 : decode cX10_survey 76 = .ok (.ifCond .ne 6, 3) := by decide +kernel
theorem dX10_survey_79 : decode cX10_survey 79 = .ok (.goto 50, 3) := by decide +kernel
theorem dX10_survey_82 : decode cX10_survey 82 = .ok (.aload 4, 2) := by decide +kernel
theorem dX10_survey_84 : decode cX10_survey 84 = .ok (.aload_n 1, 1) := by decide +kernel
theorem dX10_survey_85 : decode cX10_survey 85 = .ok (.aload_n 2, 1) := by decide +kernel
theorem dX10_survey_86 : decode cX10_survey 86 = .ok (.getfield 71, 3) := by decide +kernel
theorem dX10_survey_89 : decode cX10_survey 89 = .ok (.bipush 84, 2) := by decide +kernel
theorem dX10_survey_91 : decode cX10_survey 91 = .ok (.iload 7, 2) := by decide +kernel
theorem dX10_survey_93 : decode cX10_survey 93 = .ok (.invokevirtual 76, 3) := by decide +kernel
theorem dX10_survey_96 : decode cX10_survey 96 = .ok (.aload_n 0, 1) := by decide +kernel
theorem dX10_survey_97 : decode cX10_survey 97 = .ok (.getfield 15, 3) := by decide +kernel
theorem dX10_survey_100 : decode cX10_survey 100 = .ok (.ineg, 1) := by decide +kernel
theorem dX10_survey_101 : decode cX10_survey 101 = .ok (.istore 8, 2) := by decide +kernel
theorem dX10_survey_103 : decode cX10_survey 103 = .ok (.iload 8, 2) := by decide +kernel
theorem dX10_survey_105 : decode cX10_survey 105 = .ok (.aload_n 0, 1) := by decide +kernel
theorem dX10_survey_106 : decode cX10_survey 106 = .ok (.getfield 15, 3) := by decide +kernel
theorem dX10_survey_109 : decode cX10_survey 109 = .ok (.if_icmp .gt 20, 3) := by decide +kernel
theorem dX10_survey_112 : decode cX10_survey 112 = .ok (.aload_n 0, 1) := by decide +kernel
theorem dX10_survey_113 : decode cX10_survey 113 = .ok (.aload_n 3, 1) := by decide +kernel
theorem dX10_survey_114 : decode cX10_survey 114 = .ok (.aload 4, 2) := by decide +kernel
theorem dX10_survey_116 : decode cX10_survey 116 = .ok (.iload 7, 2) := by decide +kernel
theorem dX10_survey_118 : decode cX10_survey 118 = .ok (.iload 8, 2) := by decide +kernel
theorem dX10_survey_120 : decode cX10_survey 120 = .ok (.invokevirtual 82, 3) := by decide +kernel
theorem dX10_survey_123 : decode cX10_survey 123 = .ok (.iinc 8 1, 3) := by decide +kernel
theorem dX10_survey_126 : decode cX10_survey 126 = .ok (.goto (-23), 3) := by decide +kernel
theorem dX10_survey_129 : decode cX10_survey 129 = .ok (.iinc 6 1, 3) := by decide +kernel
theorem dX10_survey_132 : decode cX10_survey 132 = .ok (.goto (-88), 3) := by decide +kernel
theorem dX10_survey_135 : decode cX10_survey 135 = .ok (.aload_n 0, 1) := by decide +kernel
theorem dX10_survey_136 : decode cX10_survey 136 = .ok (.iload 5, 2) := by decide +kernel
theorem dX10_survey_138 : decode cX10_survey 138 = .ok (.invokevirtual 86, 3) := by decide +kernel
theorem dX10_survey_141 : decode cX10_survey 141 = .ok (.iinc 5 1, 3) := by decide +kernel
theorem dX10_survey_144 : decode cX10_survey 144 = .ok (.goto (-120), 3) := by decide +kernel
theorem dX10_survey_147 : decode cX10_survey 147 = .ok (.aload_n 0, 1) := by decide +kernel
theorem dX10_survey_148 : decode cX10_survey 148 = .ok (.getfield 50, 3) := by decide +kernel
theorem dX10_survey_151 : decode cX10_survey 151 = .ok (.ireturn, 1) := by decide +kernel
theorem dX10_tryOne_0 : decode cX10_tryOne 0 = .ok (.iload_n 3, 1) := by decide +kernel
theorem dX10_tryOne_1 : decode cX10_tryOne 1 = .ok (.iload 4, 2) := by decide +kernel
theorem dX10_tryOne_3 : decode cX10_tryOne 3 = .ok (.bipush 12, 2) := by decide +kernel
theorem dX10_tryOne_5 : decode cX10_tryOne 5 = .ok (.imul, 1) := by decide +kernel
theorem dX10_tryOne_6 : decode cX10_tryOne 6 = .ok (.iadd, 1) := by decide +kernel
theorem dX10_tryOne_7 : decode cX10_tryOne 7 = .ok (.istore 5, 2) := by decide +kernel
theorem dX10_tryOne_9 : decode cX10_tryOne 9 = .ok (.iload 5, 2) := by decide +kernel
theorem dX10_tryOne_11 : decode cX10_tryOne 11 = .ok (.bipush 84, 2) := by decide +kernel
theorem dX10_tryOne_13 : decode cX10_tryOne 13 = .ok (.if_icmp .ne 4, 3) := by decide +kernel
theorem dX10_tryOne_16 : decode cX10_tryOne 16 = .ok (.return_, 1) := by decide +kernel
theorem dX10_tryOne_17 : decode cX10_tryOne 17 = .ok (.iconst 0, 1) := by decide +kernel
theorem dX10_tryOne_18 : decode cX10_tryOne 18 = .ok (.istore 6, 2) := by decide +kernel
theorem dX10_tryOne_20 : decode cX10_tryOne 20 = .ok (.iconst 0, 1) := by decide +kernel
theorem dX10_tryOne_21 : decode cX10_tryOne 21 = .ok (.istore 7, 2) := by decide +kernel
theorem dX10_tryOne_23 : decode cX10_tryOne 23 = .ok (.iconst 0, 1) := by decide +kernel
theorem dX10_tryOne_24 : decode cX10_tryOne 24 = .ok (.istore 8, 2) := by decide +kernel
theorem dX10_tryOne_26 : decode cX10_tryOne 26 = .ok (.iload 8, 2) := by decide +kernel
theorem dX10_tryOne_28 : decode cX10_tryOne 28 = .ok (.aload_n 2, 1) := by decide +kernel
theorem dX10_tryOne_29 : decode cX10_tryOne 29 = .ok (.getfield 90, 3) := by decide +kernel
theorem dX10_tryOne_32 : decode cX10_tryOne 32 = .ok (.if_icmp .ge 53, 3) := by decide +kernel
theorem dX10_tryOne_35 : decode cX10_tryOne 35 = .ok (.iload 7, 2) := by decide +kernel
theorem dX10_tryOne_37 : decode cX10_tryOne 37 = .ok (.invokestatic 91, 3) := by decide +kernel
theorem dX10_tryOne_40 : decode cX10_tryOne 40 = .ok (.iconst 2, 1) := by decide +kernel
theorem dX10_tryOne_41 : decode cX10_tryOne 41 = .ok (.if_icmp .ge 44, 3) := by decide +kernel
theorem dX10_tryOne_44 : decode cX10_tryOne 44 = .ok (.aload_n 1, 1) := by decide +kernel
theorem dX10_tryOne_45 : decode cX10_tryOne 45 = .ok (.aload_n 2, 1) := by decide +kernel
theorem dX10_tryOne_46 : decode cX10_tryOne 46 = .ok (.iload 8, 2) := by decide +kernel
theorem dX10_tryOne_48 : decode cX10_tryOne 48 = .ok (.iload 4, 2) := by decide +kernel
theorem dX10_tryOne_50 : decode cX10_tryOne 50 = .ok (.invokevirtual 97, 3) := by decide +kernel
theorem dX10_tryOne_53 : decode cX10_tryOne 53 = .ok (.istore 9, 2) := by decide +kernel
theorem dX10_tryOne_55 : decode cX10_tryOne 55 = .ok (.iload 7, 2) := by decide +kernel
theorem dX10_tryOne_57 : decode cX10_tryOne 57 = .ok (.ifCond .ne 11, 3) := by decide +kernel
theorem dX10_tryOne_60 : decode cX10_tryOne 60 = .ok (.iload 9, 2) := by decide +kernel
theorem dX10_tryOne_62 : decode cX10_tryOne 62 = .ok (.invokestatic 103, 3) := by decide +kernel
theorem dX10_tryOne_65 : decode cX10_tryOne 65 = .ok (.goto 5, 3) := by decide +kernel
theorem dX10_tryOne_68 : decode cX10_tryOne 68 = .ok (.iload 6, 2) := by decide +kernel
theorem dX10_tryOne_70 : decode cX10_tryOne 70 = .ok (.istore 6, 2) := by decide +kernel
theorem dX10_tryOne_72 : decode cX10_tryOne 72 = .ok (.iload 7, 2) := by decide +kernel
theorem dX10_tryOne_74 : decode cX10_tryOne 74 = .ok (.iload 9, 2) := by decide +kernel
theorem dX10_tryOne_76 : decode cX10_tryOne 76 = .ok (.ior, 1) := by decide +kernel
theorem dX10_tryOne_77 : decode cX10_tryOne 77 = .ok (.istore 7, 2) := by decide +kernel
theorem dX10_tryOne_79 : decode cX10_tryOne 79 = .ok (.iinc 8 1, 3) := by decide +kernel
theorem dX10_tryOne_82 : decode cX10_tryOne 82 = .ok (.goto (-56), 3) := by decide +kernel
theorem dX10_tryOne_85 : decode cX10_tryOne 85 = .ok (.iload 7, 2) := by decide +kernel
theorem dX10_tryOne_87 : decode cX10_tryOne 87 = .ok (.ifCond .ne 18, 3) := by decide +kernel
theorem dX10_tryOne_90 : decode cX10_tryOne 90 = .ok (.aload_n 0, 1) := by decide +kernel
theorem dX10_tryOne_91 : decode cX10_tryOne 91 = .ok (.getfield 31, 3) := by decide +kernel
theorem dX10_tryOne_94 : decode cX10_tryOne 94 = .ok (.iload 5, 2) := by decide +kernel
theorem dX10_tryOne_96 : decode cX10_tryOne 96 = .ok (.sipush 180, 3) := by decide +kernel
theorem dX10_tryOne_99 : decode cX10_tryOne 99 = .ok (.invokestatic 106, 3) := by decide +kernel
theorem dX10_tryOne_102 : decode cX10_tryOne 102 = .ok (.iconst 1, 1) := by decide +kernel
theorem dX10_tryOne_103 : decode cX10_tryOne 103 = .ok (.iastore, 1) := by decide +kernel
theorem dX10_tryOne_104 : decode cX10_tryOne 104 = .ok (.return_, 1) := by decide +kernel
theorem dX10_tryOne_105 : decode cX10_tryOne 105 = .ok (.iconst 0, 1) := by decide +kernel
theorem dX10_tryOne_106 : decode cX10_tryOne 106 = .ok (.istore 8, 2) := by decide +kernel
theorem dX10_tryOne_108 : decode cX10_tryOne 108 = .ok (.iload 8, 2) := by decide +kernel
theorem dX10_tryOne_110 : decode cX10_tryOne 110 = .ok (.bipush 12, 2) := by decide +kernel
theorem dX10_tryOne_112 : decode cX10_tryOne 112 = .ok (.if_icmp .ge 57, 3) := by decide +kernel
theorem dX10_tryOne_115 : decode cX10_tryOne 115 = .ok (.aload_n 0, 1) := by decide +kernel
theorem dX10_tryOne_116 : decode cX10_tryOne 116 = .ok (.getfield 25, 3) := by decide +kernel
theorem dX10_tryOne_119 : decode cX10_tryOne 119 = .ok (.iload 8, 2) := by decide +kernel
theorem dX10_tryOne_121 : decode cX10_tryOne 121 = .ok (.dup2, 1) := by decide +kernel
theorem dX10_tryOne_122 : decode cX10_tryOne 122 = .ok (.iaload, 1) := by decide +kernel
theorem dX10_tryOne_123 : decode cX10_tryOne 123 = .ok (.iload 6, 2) := by decide +kernel
theorem dX10_tryOne_125 : decode cX10_tryOne 125 = .ok (.iconst 1, 1) := by decide +kernel
theorem dX10_tryOne_126 : decode cX10_tryOne 126 = .ok (.iload 8, 2) := by decide +kernel
theorem dX10_tryOne_128 : decode cX10_tryOne 128 = .ok (.ishl, 1) := by decide +kernel
theorem dX10_tryOne_129 : decode cX10_tryOne 129 = .ok (.if_icmp .ne 7, 3) := by decide +kernel
theorem dX10_tryOne_132 : decode cX10_tryOne 132 = .ok (.iconst 1, 1) := by decide +kernel
theorem dX10_tryOne_133 : decode cX10_tryOne 133 = .ok (.goto 4, 3) := by decide +kernel
theorem dX10_tryOne_136 : decode cX10_tryOne 136 = .ok (.iconst 0, 1) := by decide +kernel
theorem dX10_tryOne_137 : decode cX10_tryOne 137 = .ok (.iadd, 1) := by decide +kernel
theorem dX10_tryOne_138 : decode cX10_tryOne 138 = .ok (.iastore, 1) := by decide +kernel
theorem dX10_tryOne_139 : decode cX10_tryOne 139 = .ok (.aload_n 0, 1) := by decide +kernel
theorem dX10_tryOne_140 : decode cX10_tryOne 140 = .ok (.getfield 28, 3) := by decide +kernel
theorem dX10_tryOne_143 : decode cX10_tryOne 143 = .ok (.iload 8, 2) := by decide +kernel
theorem dX10_tryOne_145 : decode cX10_tryOne 145 = .ok (.dup2, 1) := by decide +kernel
theorem dX10_tryOne_146 : decode cX10_tryOne 146 = .ok (.iaload, 1) := by decide +kernel
theorem dX10_tryOne_147 : decode cX10_tryOne 147 = .ok (.iload 7, 2) := by decide +kernel
theorem dX10_tryOne_149 : decode cX10_tryOne 149 = .ok (.iconst 1, 1) := by decide +kernel
theorem dX10_tryOne_150 : decode cX10_tryOne 150 = .ok (.iload 8, 2) := by decide +kernel
theorem dX10_tryOne_152 : decode cX10_tryOne 152 = .ok (.ishl, 1) := by decide +kernel
theorem dX10_tryOne_153 : decode cX10_tryOne 153 = .ok (.if_icmp .ne 7, 3) := by decide +kernel
theorem dX10_tryOne_156 : decode cX10_tryOne 156 = .ok (.iconst 1, 1) := by decide +kernel
theorem dX10_tryOne_157 : decode cX10_tryOne 157 = .ok (.goto 4, 3) := by decide +kernel
theorem dX10_tryOne_160 : decode cX10_tryOne 160 = .ok (.iconst 0, 1) := by decide +kernel
theorem dX10_tryOne_161 : decode cX10_tryOne 161 = .ok (.iadd, 1) := by decide +kernel
theorem dX10_tryOne_162 : decode cX10_tryOne 162 = .ok (.iastore, 1) := by decide +kernel
theorem dX10_tryOne_163 : decode cX10_tryOne 163 = .ok (.iinc 8 1, 3) := by decide +kernel
theorem dX10_tryOne_166 : decode cX10_tryOne 166 = .ok (.goto (-58), 3) := by decide +kernel
theorem dX10_tryOne_169 : decode cX10_tryOne 169 = .ok (.return_, 1) := by decide +kernel
theorem dX10_gather_0 : decode cX10_gather 0 = .ok (.iconst 0, 1) := by decide +kernel
theorem dX10_gather_1 : decode cX10_gather 1 = .ok (.istore_n 2, 1) := by decide +kernel
theorem dX10_gather_2 : decode cX10_gather 2 = .ok (.iload_n 2, 1) := by decide +kernel
theorem dX10_gather_3 : decode cX10_gather 3 = .ok (.aload_n 0, 1) := by decide +kernel
theorem dX10_gather_4 : decode cX10_gather 4 = .ok (.getfield 31, 3) := by decide +kernel
theorem dX10_gather_7 : decode cX10_gather 7 = .ok (.arraylength, 1) := by decide +kernel
theorem dX10_gather_8 : decode cX10_gather 8 = .ok (.if_icmp .ge 57, 3) := by decide +kernel
theorem dX10_gather_11 : decode cX10_gather 11 = .ok (.aload_n 0, 1) := by decide +kernel
theorem dX10_gather_12 : decode cX10_gather 12 = .ok (.getfield 31, 3) := by decide +kernel
theorem dX10_gather_15 : decode cX10_gather 15 = .ok (.iload_n 2, 1) := by decide +kernel
theorem dX10_gather_16 : decode cX10_gather 16 = .ok (.iaload, 1) := by decide +kernel
theorem dX10_gather_17 : decode cX10_gather 17 = .ok (.iconst 1, 1) := by decide +kernel
theorem dX10_gather_18 : decode cX10_gather 18 = .ok (.if_icmp .ne 41, 3) := by decide +kernel
theorem dX10_gather_21 : decode cX10_gather 21 = .ok (.aload_n 0, 1) := by decide +kernel
theorem dX10_gather_22 : decode cX10_gather 22 = .ok (.getfield 50, 3) := by decide +kernel
theorem dX10_gather_25 : decode cX10_gather 25 = .ok (.sipush 4500, 3) := by decide +kernel
theorem dX10_gather_28 : decode cX10_gather 28 = .ok (.if_icmp .ge 31, 3) := by decide +kernel
theorem dX10_gather_31 : decode cX10_gather 31 = .ok (.aload_n 0, 1) := by decide +kernel
theorem dX10_gather_32 : decode cX10_gather 32 = .ok (.getfield 18, 3) := by decide +kernel
theorem dX10_gather_35 : decode cX10_gather 35 = .ok (.aload_n 0, 1) := by decide +kernel
theorem dX10_gather_36 : decode cX10_gather 36 = .ok (.getfield 50, 3) := by decide +kernel
theorem dX10_gather_39 : decode cX10_gather 39 = .ok (.iload_n 1, 1) := by decide +kernel
theorem dX10_gather_40 : decode cX10_gather 40 = .ok (.bipush 15, 2) := by decide +kernel
theorem dX10_gather_42 : decode cX10_gather 42 = .ok (.imul, 1) := by decide +kernel
theorem dX10_gather_43 : decode cX10_gather 43 = .ok (.bipush 12, 2) := by decide +kernel
theorem dX10_gather_45 : decode cX10_gather 45 = .ok (.imul, 1) := by decide +kernel
theorem dX10_gather_46 : decode cX10_gather 46 = .ok (.iload_n 2, 1) := by decide +kernel
theorem dX10_gather_47 : decode cX10_gather 47 = .ok (.iadd, 1) := by decide +kernel
theorem dX10_gather_48 : decode cX10_gather 48 = .ok (.iastore, 1) := by decide +kernel
theorem dX10_gather_49 : decode cX10_gather 49 = .ok (.aload_n 0, 1) := by decide +kernel
theorem dX10_gather_50 : decode cX10_gather 50 = .ok (.dup, 1) := by decide +kernel
theorem dX10_gather_51 : decode cX10_gather 51 = .ok (.getfield 50, 3) := by decide +kernel
theorem dX10_gather_54 : decode cX10_gather 54 = .ok (.iconst 1, 1) := by decide +kernel
theorem dX10_gather_55 : decode cX10_gather 55 = .ok (.iadd, 1) := by decide +kernel
theorem dX10_gather_56 : decode cX10_gather 56 = .ok (.putfield 50, 3) := by decide +kernel
theorem dX10_gather_59 : decode cX10_gather 59 = .ok (.iinc 2 1, 3) := by decide +kernel
theorem dX10_gather_62 : decode cX10_gather 62 = .ok (.goto (-60), 3) := by decide +kernel
theorem dX10_gather_65 : decode cX10_gather 65 = .ok (.return_, 1) := by decide +kernel
theorem dX10_weigh_0 : decode cX10_weigh 0 = .ok (.iconst 0, 1) := by decide +kernel
theorem dX10_weigh_1 : decode cX10_weigh 1 = .ok (.istore_n 2, 1) := by decide +kernel
theorem dX10_weigh_2 : decode cX10_weigh 2 = .ok (.iload_n 2, 1) := by decide +kernel
theorem dX10_weigh_3 : decode cX10_weigh 3 = .ok (.aload_n 0, 1) := by decide +kernel
theorem dX10_weigh_4 : decode cX10_weigh 4 = .ok (.getfield 50, 3) := by decide +kernel
theorem dX10_weigh_7 : decode cX10_weigh 7 = .ok (.if_icmp .ge 54, 3) := by decide +kernel
theorem dX10_weigh_10 : decode cX10_weigh 10 = .ok (.iload_n 2, 1) := by decide +kernel
theorem dX10_weigh_11 : decode cX10_weigh 11 = .ok (.sipush 4500, 3) := by decide +kernel
theorem dX10_weigh_14 : decode cX10_weigh 14 = .ok (.if_icmp .ge 47, 3) := by decide +kernel
theorem dX10_weigh_17 : decode cX10_weigh 17 = .ok (.aload_n 0, 1) := by decide +kernel
theorem dX10_weigh_18 : decode cX10_weigh 18 = .ok (.getfield 22, 3) := by decide +kernel
theorem dX10_weigh_21 : decode cX10_weigh 21 = .ok (.iload_n 2, 1) := by decide +kernel
theorem dX10_weigh_22 : decode cX10_weigh 22 = .ok (.iconst 0, 1) := by decide +kernel
theorem dX10_weigh_23 : decode cX10_weigh 23 = .ok (.iastore, 1) := by decide +kernel
theorem dX10_weigh_24 : decode cX10_weigh 24 = .ok (.aload_n 1, 1) := by decide +kernel
theorem dX10_weigh_25 : decode cX10_weigh 25 = .ok (.getfield 112, 3) := by decide +kernel
theorem dX10_weigh_28 : decode cX10_weigh 28 = .ok (.ifCond .le 27, 3) := by decide +kernel
theorem dX10_weigh_31 : decode cX10_weigh 31 = .ok (.aload_n 0, 1) := by decide +kernel
theorem dX10_weigh_32 : decode cX10_weigh 32 = .ok (.getfield 43, 3) := by decide +kernel
theorem dX10_weigh_35 : decode cX10_weigh 35 = .ok (.aload_n 0, 1) := by decide +kernel
theorem dX10_weigh_36 : decode cX10_weigh 36 = .ok (.getfield 18, 3) := by decide +kernel
theorem dX10_weigh_39 : decode cX10_weigh 39 = .ok (.iload_n 2, 1) := by decide +kernel
theorem dX10_weigh_40 : decode cX10_weigh 40 = .ok (.iaload, 1) := by decide +kernel
theorem dX10_weigh_41 : decode cX10_weigh 41 = .ok (.invokevirtual 115, 3) := by decide +kernel
theorem dX10_weigh_44 : decode cX10_weigh 44 = .ok (.aload_n 0, 1) := by decide +kernel
theorem dX10_weigh_45 : decode cX10_weigh 45 = .ok (.getfield 22, 3) := by decide +kernel
theorem dX10_weigh_48 : decode cX10_weigh 48 = .ok (.iload_n 2, 1) := by decide +kernel
theorem dX10_weigh_49 : decode cX10_weigh 49 = .ok (.aload_n 0, 1) := by decide +kernel
theorem dX10_weigh_50 : decode cX10_weigh 50 = .ok (.aload_n 1, 1) := by decide +kernel
theorem dX10_weigh_51 : decode cX10_weigh 51 = .ok (.invokevirtual 118, 3) := by decide +kernel
theorem dX10_weigh_54 : decode cX10_weigh 54 = .ok (.iastore, 1) := by decide +kernel
theorem dX10_weigh_55 : decode cX10_weigh 55 = .ok (.iinc 2 1, 3) := by decide +kernel
theorem dX10_weigh_58 : decode cX10_weigh 58 = .ok (.goto (-56), 3) := by decide +kernel
theorem dX10_weigh_61 : decode cX10_weigh 61 = .ok (.return_, 1) := by decide +kernel
theorem dX10_senseOf_0 : decode cX10_senseOf 0 = .ok (.aload_n 0, 1) := by decide +kernel
theorem dX10_senseOf_1 : decode cX10_senseOf 1 = .ok (.getfield 37, 3) := by decide +kernel
theorem dX10_senseOf_4 : decode cX10_senseOf 4 = .ok (.iconst 0, 1) := by decide +kernel
theorem dX10_senseOf_5 : decode cX10_senseOf 5 = .ok (.aload_n 0, 1) := by decide +kernel
theorem dX10_senseOf_6 : decode cX10_senseOf 6 = .ok (.getfield 43, 3) := by decide +kernel
theorem dX10_senseOf_9 : decode cX10_senseOf 9 = .ok (.getfield 122, 3) := by decide +kernel
theorem dX10_senseOf_12 : decode cX10_senseOf 12 = .ok (.iastore, 1) := by decide +kernel
theorem dX10_senseOf_13 : decode cX10_senseOf 13 = .ok (.aload_n 0, 1) := by decide +kernel
theorem dX10_senseOf_14 : decode cX10_senseOf 14 = .ok (.getfield 37, 3) := by decide +kernel
theorem dX10_senseOf_17 : decode cX10_senseOf 17 = .ok (.iconst 1, 1) := by decide +kernel
theorem dX10_senseOf_18 : decode cX10_senseOf 18 = .ok (.aload_n 0, 1) := by decide +kernel
theorem dX10_senseOf_19 : decode cX10_senseOf 19 = .ok (.getfield 43, 3) := by decide +kernel
theorem dX10_senseOf_22 : decode cX10_senseOf 22 = .ok (.getfield 125, 3) := by decide +kernel
theorem dX10_senseOf_25 : decode cX10_senseOf 25 = .ok (.iastore, 1) := by decide +kernel
theorem dX10_senseOf_26 : decode cX10_senseOf 26 = .ok (.aload_n 0, 1) := by decide +kernel
theorem dX10_senseOf_27 : decode cX10_senseOf 27 = .ok (.getfield 37, 3) := by decide +kernel
theorem dX10_senseOf_30 : decode cX10_senseOf 30 = .ok (.iconst 2, 1) := by decide +kernel
theorem dX10_senseOf_31 : decode cX10_senseOf 31 = .ok (.aload_n 0, 1) := by decide +kernel
theorem dX10_senseOf_32 : decode cX10_senseOf 32 = .ok (.getfield 43, 3) := by decide +kernel
theorem dX10_senseOf_35 : decode cX10_senseOf 35 = .ok (.getfield 128, 3) := by decide +kernel
theorem dX10_senseOf_38 : decode cX10_senseOf 38 = .ok (.iastore, 1) := by decide +kernel
theorem dX10_senseOf_39 : decode cX10_senseOf 39 = .ok (.aload_n 0, 1) := by decide +kernel
theorem dX10_senseOf_40 : decode cX10_senseOf 40 = .ok (.getfield 37, 3) := by decide +kernel
theorem dX10_senseOf_43 : decode cX10_senseOf 43 = .ok (.iconst 3, 1) := by decide +kernel
theorem dX10_senseOf_44 : decode cX10_senseOf 44 = .ok (.aload_n 0, 1) := by decide +kernel
theorem dX10_senseOf_45 : decode cX10_senseOf 45 = .ok (.getfield 43, 3) := by decide +kernel
theorem dX10_senseOf_48 : decode cX10_senseOf 48 = .ok (.getfield 131, 3) := by decide +kernel
theorem dX10_senseOf_51 : decode cX10_senseOf 51 = .ok (.iastore, 1) := by decide +kernel
theorem dX10_senseOf_52 : decode cX10_senseOf 52 = .ok (.aload_n 0, 1) := by decide +kernel
theorem dX10_senseOf_53 : decode cX10_senseOf 53 = .ok (.getfield 37, 3) := by decide +kernel
theorem dX10_senseOf_56 : decode cX10_senseOf 56 = .ok (.iconst 4, 1) := by decide +kernel
theorem dX10_senseOf_57 : decode cX10_senseOf 57 = .ok (.aload_n 0, 1) := by decide +kernel
theorem dX10_senseOf_58 : decode cX10_senseOf 58 = .ok (.getfield 43, 3) := by decide +kernel
theorem dX10_senseOf_61 : decode cX10_senseOf 61 = .ok (.getfield 134, 3) := by decide +kernel
theorem dX10_senseOf_64 : decode cX10_senseOf 64 = .ok (.iastore, 1) := by decide +kernel
theorem dX10_senseOf_65 : decode cX10_senseOf 65 = .ok (.iconst 0, 1) := by decide +kernel
theorem dX10_senseOf_66 : decode cX10_senseOf 66 = .ok (.istore_n 2, 1) := by decide +kernel
theorem dX10_senseOf_67 : decode cX10_senseOf 67 = .ok (.iconst 0, 1) := by decide +kernel
theorem dX10_senseOf_68 : decode cX10_senseOf 68 = .ok (.istore_n 3, 1) := by decide +kernel
theorem dX10_senseOf_69 : decode cX10_senseOf 69 = .ok (.iload_n 3, 1) := by decide +kernel
theorem dX10_senseOf_70 : decode cX10_senseOf 70 = .ok (.aload_n 1, 1) := by decide +kernel
theorem dX10_senseOf_71 : decode cX10_senseOf 71 = .ok (.getfield 112, 3) := by decide +kernel
theorem dX10_senseOf_74 : decode cX10_senseOf 74 = .ok (.if_icmp .ge 34, 3) := by decide +kernel
theorem dX10_senseOf_77 : decode cX10_senseOf 77 = .ok (.iload_n 2, 1) := by decide +kernel
theorem dX10_senseOf_78 : decode cX10_senseOf 78 = .ok (.aload_n 1, 1) := by decide +kernel
theorem dX10_senseOf_79 : decode cX10_senseOf 79 = .ok (.bipush 12, 2) := by decide +kernel
theorem dX10_senseOf_81 : decode cX10_senseOf 81 = .ok (.iload_n 3, 1) := by decide +kernel
theorem dX10_senseOf_82 : decode cX10_senseOf 82 = .ok (.iadd, 1) := by decide +kernel
theorem dX10_senseOf_83 : decode cX10_senseOf 83 = .ok (.aload_n 0, 1) := by decide +kernel
theorem dX10_senseOf_84 : decode cX10_senseOf 84 = .ok (.getfield 37, 3) := by decide +kernel
theorem dX10_senseOf_87 : decode cX10_senseOf 87 = .ok (.invokevirtual 137, 3) := by decide +kernel
theorem dX10_senseOf_90 : decode cX10_senseOf 90 = .ok (.ifCond .eq 9, 3) := by decide +kernel
theorem dX10_senseOf_93 : decode cX10_senseOf 93 = .ok (.iconst 1, 1) := by decide +kernel
theorem dX10_senseOf_94 : decode cX10_senseOf 94 = .ok (.iload_n 3, 1) := by decide +kernel
theorem dX10_senseOf_95 : decode cX10_senseOf 95 = .ok (.ishl, 1) := by decide +kernel
theorem dX10_senseOf_96 : decode cX10_senseOf 96 = .ok (.goto 4, 3) := by decide +kernel
theorem dX10_senseOf_99 : decode cX10_senseOf 99 = .ok (.iconst 0, 1) := by decide +kernel
theorem dX10_senseOf_100 : decode cX10_senseOf 100 = .ok (.ior, 1) := by decide +kernel
theorem dX10_senseOf_101 : decode cX10_senseOf 101 = .ok (.istore_n 2, 1) := by decide +kernel
theorem dX10_senseOf_102 : decode cX10_senseOf 102 = .ok (.iinc 3 1, 3) := by decide +kernel
theorem dX10_senseOf_105 : decode cX10_senseOf 105 = .ok (.goto (-36), 3) := by decide +kernel
theorem dX10_senseOf_108 : decode cX10_senseOf 108 = .ok (.iload_n 2, 1) := by decide +kernel
theorem dX10_senseOf_109 : decode cX10_senseOf 109 = .ok (.ireturn, 1) := by decide +kernel
theorem dX10_holds_0 : decode cX10_holds 0 = .ok (.iload_n 1, 1) := by decide +kernel
theorem dX10_holds_1 : decode cX10_holds 1 = .ok (.ifCond .lt 22, 3) := by decide +kernel
theorem dX10_holds_4 : decode cX10_holds 4 = .ok (.iload_n 1, 1) := by decide +kernel
theorem dX10_holds_5 : decode cX10_holds 5 = .ok (.aload_n 0, 1) := by decide +kernel
theorem dX10_holds_6 : decode cX10_holds 6 = .ok (.getfield 50, 3) := by decide +kernel
theorem dX10_holds_9 : decode cX10_holds 9 = .ok (.if_icmp .ge 14, 3) := by decide +kernel
theorem dX10_holds_12 : decode cX10_holds 12 = .ok (.iload_n 1, 1) := by decide +kernel
theorem dX10_holds_13 : decode cX10_holds 13 = .ok (.sipush 4500, 3) := by decide +kernel
theorem dX10_holds_16 : decode cX10_holds 16 = .ok (.if_icmp .ge 7, 3) := by decide +kernel
theorem dX10_holds_19 : decode cX10_holds 19 = .ok (.iconst 1, 1) := by decide +kernel
theorem dX10_holds_20 : decode cX10_holds 20 = .ok (.goto 4, 3) := by decide +kernel
theorem dX10_holds_23 : decode cX10_holds 23 = .ok (.iconst 0, 1) := by decide +kernel
theorem dX10_holds_24 : decode cX10_holds 24 = .ok (.ireturn, 1) := by decide +kernel
theorem dX10_codeOf_0 : decode cX10_codeOf 0 = .ok (.aload_n 0, 1) := by decide +kernel
theorem dX10_codeOf_1 : decode cX10_codeOf 1 = .ok (.iload_n 1, 1) := by decide +kernel
theorem dX10_codeOf_2 : decode cX10_codeOf 2 = .ok (.invokevirtual 141, 3) := by decide +kernel
theorem dX10_codeOf_5 : decode cX10_codeOf 5 = .ok (.ifCond .eq 12, 3) := by decide +kernel
theorem dX10_codeOf_8 : decode cX10_codeOf 8 = .ok (.aload_n 0, 1) := by decide +kernel
theorem dX10_codeOf_9 : decode cX10_codeOf 9 = .ok (.getfield 18, 3) := by decide +kernel
theorem dX10_codeOf_12 : decode cX10_codeOf 12 = .ok (.iload_n 1, 1) := by decide +kernel
theorem dX10_codeOf_13 : decode cX10_codeOf 13 = .ok (.iaload, 1) := by decide +kernel
theorem dX10_codeOf_14 : decode cX10_codeOf 14 = .ok (.goto 4, 3) := by decide +kernel
theorem dX10_codeOf_17 : decode cX10_codeOf 17 = .ok (.iconst (-1), 1) := by decide +kernel
theorem dX10_codeOf_18 : decode cX10_codeOf 18 = .ok (.ireturn, 1) := by decide +kernel
theorem dX10_countBroken_0 : decode cX10_countBroken 0 = .ok (.iload_n 1, 1) := by decide +kernel
theorem dX10_countBroken_1 : decode cX10_countBroken 1 = .ok (.ifCond .lt 18, 3) := by decide +kernel
theorem dX10_countBroken_4 : decode cX10_countBroken 4 = .ok (.iload_n 1, 1) := by decide +kernel
theorem dX10_countBroken_5 : decode cX10_countBroken 5 = .ok (.bipush 12, 2) := by decide +kernel
theorem dX10_countBroken_7 : decode cX10_countBroken 7 = .ok (.if_icmp .ge 12, 3) := by decide +kernel
theorem dX10_countBroken_10 : decode cX10_countBroken 10 = .ok (.aload_n 0, 1) := by decide +kernel
theorem dX10_countBroken_11 : decode cX10_countBroken 11 = .ok (.getfield 25, 3) := by decide +kernel
theorem dX10_countBroken_14 : decode cX10_countBroken 14 = .ok (.iload_n 1, 1) := by decide +kernel
theorem dX10_countBroken_15 : decode cX10_countBroken 15 = .ok (.iaload, 1) := by decide +kernel
theorem dX10_countBroken_16 : decode cX10_countBroken 16 = .ok (.goto 4, 3) := by decide +kernel
theorem dX10_countBroken_19 : decode cX10_countBroken 19 = .ok (.iconst (-1), 1) := by decide +kernel
theorem dX10_countBroken_20 : decode cX10_countBroken 20 = .ok (.ireturn, 1) := by decide +kernel
theorem dX10_countWithout_0 : decode cX10_countWithout 0 = .ok (.iload_n 1, 1) := by decide +kernel
theorem dX10_countWithout_1 : decode cX10_countWithout 1 = .ok (.ifCond .lt 23, 3) := by decide +kernel
theorem dX10_countWithout_4 : decode cX10_countWithout 4 = .ok (.iload_n 1, 1) := by decide +kernel
theorem dX10_countWithout_5 : decode cX10_countWithout 5 = .ok (.bipush 12, 2) := by decide +kernel
theorem dX10_countWithout_7 : decode cX10_countWithout 7 = .ok (.if_icmp .ge 17, 3) := by decide +kernel
theorem dX10_countWithout_10 : decode cX10_countWithout 10 = .ok (.aload_n 0, 1) := by decide +kernel
theorem dX10_countWithout_11 : decode cX10_countWithout 11 = .ok (.getfield 50, 3) := by decide +kernel
theorem dX10_countWithout_14 : decode cX10_countWithout 14 = .ok (.aload_n 0, 1) := by decide +kernel
theorem dX10_countWithout_15 : decode cX10_countWithout 15 = .ok (.getfield 28, 3) := by decide +kernel
theorem dX10_countWithout_18 : decode cX10_countWithout 18 = .ok (.iload_n 1, 1) := by decide +kernel
theorem dX10_countWithout_19 : decode cX10_countWithout 19 = .ok (.iaload, 1) := by decide +kernel
theorem dX10_countWithout_20 : decode cX10_countWithout 20 = .ok (.iadd, 1) := by decide +kernel
theorem dX10_countWithout_21 : decode cX10_countWithout 21 = .ok (.goto 4, 3) := by decide +kernel
theorem dX10_countWithout_24 : decode cX10_countWithout 24 = .ok (.iconst (-1), 1) := by decide +kernel
theorem dX10_countWithout_25 : decode cX10_countWithout 25 = .ok (.ireturn, 1) := by decide +kernel
theorem dX10_agreement_0 : decode cX10_agreement 0 = .ok (.iload_n 0, 1) := by decide +kernel
theorem dX10_agreement_1 : decode cX10_agreement 1 = .ok (.sipush 180, 3) := by decide +kernel
theorem dX10_agreement_4 : decode cX10_agreement 4 = .ok (.idiv, 1) := by decide +kernel
theorem dX10_agreement_5 : decode cX10_agreement 5 = .ok (.iload_n 1, 1) := by decide +kernel
theorem dX10_agreement_6 : decode cX10_agreement 6 = .ok (.sipush 180, 3) := by decide +kernel
theorem dX10_agreement_9 : decode cX10_agreement 9 = .ok (.idiv, 1) := by decide +kernel
theorem dX10_agreement_10 : decode cX10_agreement 10 = .ok (.if_icmp .ne 7, 3) := by decide +kernel
theorem dX10_agreement_13 : decode cX10_agreement 13 = .ok (.iconst 1, 1) := by decide +kernel
theorem dX10_agreement_14 : decode cX10_agreement 14 = .ok (.goto 4, 3) := by decide +kernel
theorem dX10_agreement_17 : decode cX10_agreement 17 = .ok (.iconst 0, 1) := by decide +kernel
theorem dX10_agreement_18 : decode cX10_agreement 18 = .ok (.istore_n 2, 1) := by decide +kernel
theorem dX10_agreement_19 : decode cX10_agreement 19 = .ok (.iload_n 2, 1) := by decide +kernel
theorem dX10_agreement_20 : decode cX10_agreement 20 = .ok (.iload_n 0, 1) := by decide +kernel
theorem dX10_agreement_21 : decode cX10_agreement 21 = .ok (.bipush 12, 2) := by decide +kernel
theorem dX10_agreement_23 : decode cX10_agreement 23 = .ok (.idiv, 1) := by decide +kernel
theorem dX10_agreement_24 : decode cX10_agreement 24 = .ok (.bipush 15, 2) := by decide +kernel
theorem dX10_agreement_26 : decode cX10_agreement 26 = .ok (.irem, 1) := by decide +kernel
theorem dX10_agreement_27 : decode cX10_agreement 27 = .ok (.iload_n 1, 1) := by decide +kernel
theorem dX10_agreement_28 : decode cX10_agreement 28 = .ok (.bipush 12, 2) := by decide +kernel
theorem dX10_agreement_30 : decode cX10_agreement 30 = .ok (.idiv, 1) := by decide +kernel
theorem dX10_agreement_31 : decode cX10_agreement 31 = .ok (.bipush 15, 2) := by decide +kernel
theorem dX10_agreement_33 : decode cX10_agreement 33 = .ok (.irem, 1) := by decide +kernel
theorem dX10_agreement_34 : decode cX10_agreement 34 = .ok (.if_icmp .ne 7, 3) := by decide +kernel
theorem dX10_agreement_37 : decode cX10_agreement 37 = .ok (.iconst 2, 1) := by decide +kernel
theorem dX10_agreement_38 : decode cX10_agreement 38 = .ok (.goto 4, 3) := by decide +kernel
theorem dX10_agreement_41 : decode cX10_agreement 41 = .ok (.iconst 0, 1) := by decide +kernel
theorem dX10_agreement_42 : decode cX10_agreement 42 = .ok (.iadd, 1) := by decide +kernel
theorem dX10_agreement_43 : decode cX10_agreement 43 = .ok (.istore_n 2, 1) := by decide +kernel
theorem dX10_agreement_44 : decode cX10_agreement 44 = .ok (.iload_n 2, 1) := by decide +kernel
theorem dX10_agreement_45 : decode cX10_agreement 45 = .ok (.iload_n 0, 1) := by decide +kernel
theorem dX10_agreement_46 : decode cX10_agreement 46 = .ok (.bipush 6, 2) := by decide +kernel
theorem dX10_agreement_48 : decode cX10_agreement 48 = .ok (.idiv, 1) := by decide +kernel
theorem dX10_agreement_49 : decode cX10_agreement 49 = .ok (.iconst 2, 1) := by decide +kernel
theorem dX10_agreement_50 : decode cX10_agreement 50 = .ok (.irem, 1) := by decide +kernel
theorem dX10_agreement_51 : decode cX10_agreement 51 = .ok (.iload_n 1, 1) := by decide +kernel
theorem dX10_agreement_52 : decode cX10_agreement 52 = .ok (.bipush 6, 2) := by decide +kernel
theorem dX10_agreement_54 : decode cX10_agreement 54 = .ok (.idiv, 1) := by decide +kernel
theorem dX10_agreement_55 : decode cX10_agreement 55 = .ok (.iconst 2, 1) := by decide +kernel
theorem dX10_agreement_56 : decode cX10_agreement 56 = .ok (.irem, 1) := by decide +kernel
theorem dX10_agreement_57 : decode cX10_agreement 57 = .ok (.if_icmp .ne 7, 3) := by decide +kernel
theorem dX10_agreement_60 : decode cX10_agreement 60 = .ok (.iconst 4, 1) := by decide +kernel
theorem dX10_agreement_61 : decode cX10_agreement 61 = .ok (.goto 4, 3) := by decide +kernel
theorem dX10_agreement_64 : decode cX10_agreement 64 = .ok (.iconst 0, 1) := by decide +kernel
theorem dX10_agreement_65 : decode cX10_agreement 65 = .ok (.iadd, 1) := by decide +kernel
theorem dX10_agreement_66 : decode cX10_agreement 66 = .ok (.istore_n 2, 1) := by decide +kernel
theorem dX10_agreement_67 : decode cX10_agreement 67 = .ok (.iload_n 2, 1) := by decide +kernel
theorem dX10_agreement_68 : decode cX10_agreement 68 = .ok (.iload_n 0, 1) := by decide +kernel
theorem dX10_agreement_69 : decode cX10_agreement 69 = .ok (.iconst 3, 1) := by decide +kernel
theorem dX10_agreement_70 : decode cX10_agreement 70 = .ok (.idiv, 1) := by decide +kernel
theorem dX10_agreement_71 : decode cX10_agreement 71 = .ok (.iconst 2, 1) := by decide +kernel
theorem dX10_agreement_72 : decode cX10_agreement 72 = .ok (.irem, 1) := by decide +kernel
theorem dX10_agreement_73 : decode cX10_agreement 73 = .ok (.iload_n 1, 1) := by decide +kernel
theorem dX10_agreement_74 : decode cX10_agreement 74 = .ok (.iconst 3, 1) := by decide +kernel
theorem dX10_agreement_75 : decode cX10_agreement 75 = .ok (.idiv, 1) := by decide +kernel
theorem dX10_agreement_76 : decode cX10_agreement 76 = .ok (.iconst 2, 1) := by decide +kernel
theorem dX10_agreement_77 : decode cX10_agreement 77 = .ok (.irem, 1) := by decide +kernel
theorem dX10_agreement_78 : decode cX10_agreement 78 = .ok (.if_icmp .ne 8, 3) := by decide +kernel
theorem dX10_agreement_81 : decode cX10_agreement 81 = .ok (.bipush 8, 2) := by decide +kernel
theorem dX10_agreement_83 : decode cX10_agreement 83 = .ok (.goto 4, 3) := by decide +kernel
theorem dX10_agreement_86 : decode cX10_agreement 86 = .ok (.iconst 0, 1) := by decide +kernel
theorem dX10_agreement_87 : decode cX10_agreement 87 = .ok (.iadd, 1) := by decide +kernel
theorem dX10_agreement_88 : decode cX10_agreement 88 = .ok (.istore_n 2, 1) := by decide +kernel
theorem dX10_agreement_89 : decode cX10_agreement 89 = .ok (.iload_n 2, 1) := by decide +kernel
theorem dX10_agreement_90 : decode cX10_agreement 90 = .ok (.iload_n 0, 1) := by decide +kernel
theorem dX10_agreement_91 : decode cX10_agreement 91 = .ok (.iconst 3, 1) := by decide +kernel
theorem dX10_agreement_92 : decode cX10_agreement 92 = .ok (.irem, 1) := by decide +kernel
theorem dX10_agreement_93 : decode cX10_agreement 93 = .ok (.iload_n 1, 1) := by decide +kernel
theorem dX10_agreement_94 : decode cX10_agreement 94 = .ok (.iconst 3, 1) := by decide +kernel
theorem dX10_agreement_95 : decode cX10_agreement 95 = .ok (.irem, 1) := by decide +kernel
theorem dX10_agreement_96 : decode cX10_agreement 96 = .ok (.if_icmp .ne 8, 3) := by decide +kernel
theorem dX10_agreement_99 : decode cX10_agreement 99 = .ok (.bipush 16, 2) := by decide +kernel
theorem dX10_agreement_101 : decode cX10_agreement 101 = .ok (.goto 4, 3) := by decide +kernel
theorem dX10_agreement_104 : decode cX10_agreement 104 = .ok (.iconst 0, 1) := by decide +kernel
theorem dX10_agreement_105 : decode cX10_agreement 105 = .ok (.iadd, 1) := by decide +kernel
theorem dX10_agreement_106 : decode cX10_agreement 106 = .ok (.ireturn, 1) := by decide +kernel
theorem dX10_countLike_0 : decode cX10_countLike 0 = .ok (.aload_n 0, 1) := by decide +kernel
theorem dX10_countLike_1 : decode cX10_countLike 1 = .ok (.iload_n 1, 1) := by decide +kernel
theorem dX10_countLike_2 : decode cX10_countLike 2 = .ok (.invokevirtual 141, 3) := by decide +kernel
theorem dX10_countLike_5 : decode cX10_countLike 5 = .ok (.ifCond .eq 13, 3) := by decide +kernel
theorem dX10_countLike_8 : decode cX10_countLike 8 = .ok (.iload_n 2, 1) := by decide +kernel
theorem dX10_countLike_9 : decode cX10_countLike 9 = .ok (.ifCond .lt 9, 3) := by decide +kernel
theorem dX10_countLike_12 : decode cX10_countLike 12 = .ok (.iload_n 2, 1) := by decide +kernel
theorem dX10_countLike_13 : decode cX10_countLike 13 = .ok (.bipush 31, 2) := by decide +kernel
theorem dX10_countLike_15 : decode cX10_countLike 15 = .ok (.if_icmp .le 5, 3) := by decide +kernel
theorem dX10_countLike_18 : decode cX10_countLike 18 = .ok (.iconst (-1), 1) := by decide +kernel
theorem dX10_countLike_19 : decode cX10_countLike 19 = .ok (.ireturn, 1) := by decide +kernel
theorem dX10_countLike_20 : decode cX10_countLike 20 = .ok (.iconst 0, 1) := by decide +kernel
theorem dX10_countLike_21 : decode cX10_countLike 21 = .ok (.istore_n 3, 1) := by decide +kernel
theorem dX10_countLike_22 : decode cX10_countLike 22 = .ok (.iconst 0, 1) := by decide +kernel
theorem dX10_countLike_23 : decode cX10_countLike 23 = .ok (.istore 4, 2) := by decide +kernel
theorem dX10_countLike_25 : decode cX10_countLike 25 = .ok (.iload 4, 2) := by decide +kernel
theorem dX10_countLike_27 : decode cX10_countLike 27 = .ok (.aload_n 0, 1) := by decide +kernel
theorem dX10_countLike_28 : decode cX10_countLike 28 = .ok (.getfield 50, 3) := by decide +kernel
theorem dX10_countLike_31 : decode cX10_countLike 31 = .ok (.if_icmp .ge 39, 3) := by decide +kernel
theorem dX10_countLike_34 : decode cX10_countLike 34 = .ok (.iload_n 3, 1) := by decide +kernel
theorem dX10_countLike_35 : decode cX10_countLike 35 = .ok (.aload_n 0, 1) := by decide +kernel
theorem dX10_countLike_36 : decode cX10_countLike 36 = .ok (.getfield 18, 3) := by decide +kernel
theorem dX10_countLike_39 : decode cX10_countLike 39 = .ok (.iload_n 1, 1) := by decide +kernel
theorem dX10_countLike_40 : decode cX10_countLike 40 = .ok (.iaload, 1) := by decide +kernel
theorem dX10_countLike_41 : decode cX10_countLike 41 = .ok (.aload_n 0, 1) := by decide +kernel
theorem dX10_countLike_42 : decode cX10_countLike 42 = .ok (.getfield 18, 3) := by decide +kernel
theorem dX10_countLike_45 : decode cX10_countLike 45 = .ok (.iload 4, 2) := by decide +kernel
theorem dX10_countLike_47 : decode cX10_countLike 47 = .ok (.iaload, 1) := by decide +kernel
theorem dX10_countLike_48 : decode cX10_countLike 48 = .ok (.invokestatic 143, 3) := by decide +kernel
theorem dX10_countLike_51 : decode cX10_countLike 51 = .ok (.iload_n 2, 1) := by decide +kernel
theorem dX10_countLike_52 : decode cX10_countLike 52 = .ok (.iand, 1) := by decide +kernel
theorem dX10_countLike_53 : decode cX10_countLike 53 = .ok (.iload_n 2, 1) := by decide +kernel
theorem dX10_countLike_54 : decode cX10_countLike 54 = .ok (.if_icmp .ne 7, 3) := by decide +kernel
theorem dX10_countLike_57 : decode cX10_countLike 57 = .ok (.iconst 1, 1) := by decide +kernel
theorem dX10_countLike_58 : decode cX10_countLike 58 = .ok (.goto 4, 3) := by decide +kernel
theorem dX10_countLike_61 : decode cX10_countLike 61 = .ok (.iconst 0, 1) := by decide +kernel
theorem dX10_countLike_62 : decode cX10_countLike 62 = .ok (.iadd, 1) := by decide +kernel
theorem dX10_countLike_63 : decode cX10_countLike 63 = .ok (.istore_n 3, 1) := by decide +kernel
theorem dX10_countLike_64 : decode cX10_countLike 64 = .ok (.iinc 4 1, 3) := by decide +kernel
theorem dX10_countLike_67 : decode cX10_countLike 67 = .ok (.goto (-42), 3) := by decide +kernel
theorem dX10_countLike_70 : decode cX10_countLike 70 = .ok (.iload_n 3, 1) := by decide +kernel
theorem dX10_countLike_71 : decode cX10_countLike 71 = .ok (.ireturn, 1) := by decide +kernel
theorem dX10_fewestSigns_0 : decode cX10_fewestSigns 0 = .ok (.aload_n 0, 1) := by decide +kernel
theorem dX10_fewestSigns_1 : decode cX10_fewestSigns 1 = .ok (.iload_n 1, 1) := by decide +kernel
theorem dX10_fewestSigns_2 : decode cX10_fewestSigns 2 = .ok (.invokevirtual 141, 3) := by decide +kernel
theorem dX10_fewestSigns_5 : decode cX10_fewestSigns 5 = .ok (.ifCond .ne 5, 3) := by decide +kernel
theorem dX10_fewestSigns_8 : decode cX10_fewestSigns 8 = .ok (.iconst (-1), 1) := by decide +kernel
theorem dX10_fewestSigns_9 : decode cX10_fewestSigns 9 = .ok (.ireturn, 1) := by decide +kernel
theorem dX10_fewestSigns_10 : decode cX10_fewestSigns 10 = .ok (.aload_n 0, 1) := by decide +kernel
theorem dX10_fewestSigns_11 : decode cX10_fewestSigns 11 = .ok (.getfield 34, 3) := by decide +kernel
theorem dX10_fewestSigns_14 : decode cX10_fewestSigns 14 = .ok (.iconst 0, 1) := by decide +kernel
theorem dX10_fewestSigns_15 : decode cX10_fewestSigns 15 = .ok (.invokestatic 53, 3) := by decide +kernel
theorem dX10_fewestSigns_18 : decode cX10_fewestSigns 18 = .ok (.iconst 0, 1) := by decide +kernel
theorem dX10_fewestSigns_19 : decode cX10_fewestSigns 19 = .ok (.istore_n 2, 1) := by decide +kernel
theorem dX10_fewestSigns_20 : decode cX10_fewestSigns 20 = .ok (.iload_n 2, 1) := by decide +kernel
theorem dX10_fewestSigns_21 : decode cX10_fewestSigns 21 = .ok (.aload_n 0, 1) := by decide +kernel
theorem dX10_fewestSigns_22 : decode cX10_fewestSigns 22 = .ok (.getfield 50, 3) := by decide +kernel
theorem dX10_fewestSigns_25 : decode cX10_fewestSigns 25 = .ok (.if_icmp .ge 33, 3) := by decide +kernel
theorem dX10_fewestSigns_28 : decode cX10_fewestSigns 28 = .ok (.aload_n 0, 1) := by decide +kernel
theorem dX10_fewestSigns_29 : decode cX10_fewestSigns 29 = .ok (.getfield 34, 3) := by decide +kernel
theorem dX10_fewestSigns_32 : decode cX10_fewestSigns 32 = .ok (.aload_n 0, 1) := by decide +kernel
theorem dX10_fewestSigns_33 : decode cX10_fewestSigns 33 = .ok (.getfield 18, 3) := by decide +kernel
theorem dX10_fewestSigns_36 : decode cX10_fewestSigns 36 = .ok (.iload_n 1, 1) := by decide +kernel
theorem dX10_fewestSigns_37 : decode cX10_fewestSigns 37 = .ok (.iaload, 1) := by decide +kernel
theorem dX10_fewestSigns_38 : decode cX10_fewestSigns 38 = .ok (.aload_n 0, 1) := by decide +kernel
theorem dX10_fewestSigns_39 : decode cX10_fewestSigns 39 = .ok (.getfield 18, 3) := by decide +kernel
theorem dX10_fewestSigns_42 : decode cX10_fewestSigns 42 = .ok (.iload_n 2, 1) := by decide +kernel
theorem dX10_fewestSigns_43 : decode cX10_fewestSigns 43 = .ok (.iaload, 1) := by decide +kernel
theorem dX10_fewestSigns_44 : decode cX10_fewestSigns 44 = .ok (.invokestatic 143, 3) := by decide +kernel
theorem dX10_fewestSigns_47 : decode cX10_fewestSigns 47 = .ok (.dup2, 1) := by decide +kernel
theorem dX10_fewestSigns_48 : decode cX10_fewestSigns 48 = .ok (.iaload, 1) := by decide +kernel
theorem dX10_fewestSigns_49 : decode cX10_fewestSigns 49 = .ok (.iconst 1, 1) := by decide +kernel
theorem dX10_fewestSigns_50 : decode cX10_fewestSigns 50 = .ok (.iadd, 1) := by decide +kernel
theorem dX10_fewestSigns_51 : decode cX10_fewestSigns 51 = .ok (.iastore, 1) := by decide +kernel
theorem dX10_fewestSigns_52 : decode cX10_fewestSigns 52 = .ok (.iinc 2 1, 3) := by decide +kernel
theorem dX10_fewestSigns_55 : decode cX10_fewestSigns 55 = .ok (.goto (-35), 3) := by decide +kernel
theorem dX10_fewestSigns_58 : decode cX10_fewestSigns 58 = .ok (.aload_n 0, 1) := by decide +kernel
theorem dX10_fewestSigns_59 : decode cX10_fewestSigns 59 = .ok (.bipush 31, 2) := by decide +kernel
theorem dX10_fewestSigns_61 : decode cX10_fewestSigns 61 = .ok (.invokevirtual 146, 3) := by decide +kernel
theorem dX10_fewestSigns_64 : decode cX10_fewestSigns 64 = .ok (.ireturn, 1) := by decide +kernel
theorem dX10_fewestMottos_0 : decode cX10_fewestMottos 0 = .ok (.aload_n 0, 1) := by decide +kernel
theorem dX10_fewestMottos_1 : decode cX10_fewestMottos 1 = .ok (.iload_n 1, 1) := by decide +kernel
theorem dX10_fewestMottos_2 : decode cX10_fewestMottos 2 = .ok (.invokevirtual 141, 3) := by decide +kernel
theorem dX10_fewestMottos_5 : decode cX10_fewestMottos 5 = .ok (.ifCond .ne 5, 3) := by decide +kernel
theorem dX10_fewestMottos_8 : decode cX10_fewestMottos 8 = .ok (.iconst (-1), 1) := by decide +kernel
theorem dX10_fewestMottos_9 : decode cX10_fewestMottos 9 = .ok (.ireturn, 1) := by decide +kernel
theorem dX10_fewestMottos_10 : decode cX10_fewestMottos 10 = .ok (.aload_n 0, 1) := by decide +kernel
theorem dX10_fewestMottos_11 : decode cX10_fewestMottos 11 = .ok (.getfield 34, 3) := by decide +kernel
theorem dX10_fewestMottos_14 : decode cX10_fewestMottos 14 = .ok (.iconst 0, 1) := by decide +kernel
theorem dX10_fewestMottos_15 : decode cX10_fewestMottos 15 = .ok (.invokestatic 53, 3) := by decide +kernel
theorem dX10_fewestMottos_18 : decode cX10_fewestMottos 18 = .ok (.iconst 0, 1) := by decide +kernel
theorem dX10_fewestMottos_19 : decode cX10_fewestMottos 19 = .ok (.istore_n 2, 1) := by decide +kernel
theorem dX10_fewestMottos_20 : decode cX10_fewestMottos 20 = .ok (.iload_n 2, 1) := by decide +kernel
theorem dX10_fewestMottos_21 : decode cX10_fewestMottos 21 = .ok (.aload_n 0, 1) := by decide +kernel
theorem dX10_fewestMottos_22 : decode cX10_fewestMottos 22 = .ok (.getfield 50, 3) := by decide +kernel
theorem dX10_fewestMottos_25 : decode cX10_fewestMottos 25 = .ok (.if_icmp .ge 27, 3) := by decide +kernel
theorem dX10_fewestMottos_28 : decode cX10_fewestMottos 28 = .ok (.aload_n 0, 1) := by decide +kernel
theorem dX10_fewestMottos_29 : decode cX10_fewestMottos 29 = .ok (.getfield 34, 3) := by decide +kernel
theorem dX10_fewestMottos_32 : decode cX10_fewestMottos 32 = .ok (.aload_n 0, 1) := by decide +kernel
theorem dX10_fewestMottos_33 : decode cX10_fewestMottos 33 = .ok (.getfield 22, 3) := by decide +kernel
theorem dX10_fewestMottos_36 : decode cX10_fewestMottos 36 = .ok (.iload_n 2, 1) := by decide +kernel
theorem dX10_fewestMottos_37 : decode cX10_fewestMottos 37 = .ok (.iaload, 1) := by decide +kernel
theorem dX10_fewestMottos_38 : decode cX10_fewestMottos 38 = .ok (.bipush 63, 2) := by decide +kernel
theorem dX10_fewestMottos_40 : decode cX10_fewestMottos 40 = .ok (.iand, 1) := by decide +kernel
theorem dX10_fewestMottos_41 : decode cX10_fewestMottos 41 = .ok (.dup2, 1) := by decide +kernel
theorem dX10_fewestMottos_42 : decode cX10_fewestMottos 42 = .ok (.iaload, 1) := by decide +kernel
theorem dX10_fewestMottos_43 : decode cX10_fewestMottos 43 = .ok (.iconst 1, 1) := by decide +kernel
theorem dX10_fewestMottos_44 : decode cX10_fewestMottos 44 = .ok (.iadd, 1) := by decide +kernel
theorem dX10_fewestMottos_45 : decode cX10_fewestMottos 45 = .ok (.iastore, 1) := by decide +kernel
theorem dX10_fewestMottos_46 : decode cX10_fewestMottos 46 = .ok (.iinc 2 1, 3) := by decide +kernel
theorem dX10_fewestMottos_49 : decode cX10_fewestMottos 49 = .ok (.goto (-29), 3) := by decide +kernel
theorem dX10_fewestMottos_52 : decode cX10_fewestMottos 52 = .ok (.aload_n 0, 1) := by decide +kernel
theorem dX10_fewestMottos_53 : decode cX10_fewestMottos 53 = .ok (.aload_n 0, 1) := by decide +kernel
theorem dX10_fewestMottos_54 : decode cX10_fewestMottos 54 = .ok (.getfield 22, 3) := by decide +kernel
theorem dX10_fewestMottos_57 : decode cX10_fewestMottos 57 = .ok (.iload_n 1, 1) := by decide +kernel
theorem dX10_fewestMottos_58 : decode cX10_fewestMottos 58 = .ok (.iaload, 1) := by decide +kernel
theorem dX10_fewestMottos_59 : decode cX10_fewestMottos 59 = .ok (.invokevirtual 146, 3) := by decide +kernel
theorem dX10_fewestMottos_62 : decode cX10_fewestMottos 62 = .ok (.ireturn, 1) := by decide +kernel
theorem dX10_fewest_0 : decode cX10_fewest 0 = .ok (.iconst 0, 1) := by decide +kernel
theorem dX10_fewest_1 : decode cX10_fewest 1 = .ok (.istore_n 2, 1) := by decide +kernel
theorem dX10_fewest_2 : decode cX10_fewest 2 = .ok (.iload_n 2, 1) := by decide +kernel
theorem dX10_fewest_3 : decode cX10_fewest 3 = .ok (.bipush 6, 2) := by decide +kernel
theorem dX10_fewest_5 : decode cX10_fewest 5 = .ok (.if_icmp .gt 50, 3) := by decide +kernel
theorem dX10_fewest_8 : decode cX10_fewest 8 = .ok (.iconst 0, 1) := by decide +kernel
theorem dX10_fewest_9 : decode cX10_fewest 9 = .ok (.istore_n 3, 1) := by decide +kernel
theorem dX10_fewest_10 : decode cX10_fewest 10 = .ok (.iload_n 3, 1) := by decide +kernel
theorem dX10_fewest_11 : decode cX10_fewest 11 = .ok (.bipush 64, 2) := by decide +kernel
theorem dX10_fewest_13 : decode cX10_fewest 13 = .ok (.if_icmp .ge 36, 3) := by decide +kernel
theorem dX10_fewest_16 : decode cX10_fewest 16 = .ok (.iload_n 3, 1) := by decide +kernel
theorem dX10_fewest_17 : decode cX10_fewest 17 = .ok (.invokestatic 91, 3) := by decide +kernel
theorem dX10_fewest_20 : decode cX10_fewest 20 = .ok (.iload_n 2, 1) := by decide +kernel
theorem dX10_fewest_21 : decode cX10_fewest 21 = .ok (.if_icmp .ne 22, 3) := by decide +kernel
theorem dX10_fewest_24 : decode cX10_fewest 24 = .ok (.iload_n 3, 1) := by decide +kernel
theorem dX10_fewest_25 : decode cX10_fewest 25 = .ok (.iload_n 1, 1) := by decide +kernel
theorem dX10_fewest_26 : decode cX10_fewest 26 = .ok (.iconst (-1), 1) := by decide +kernel
theorem dX10_fewest_27 : decode cX10_fewest 27 = .ok (.ixor, 1) := by decide +kernel
theorem dX10_fewest_28 : decode cX10_fewest 28 = .ok (.iand, 1) := by decide +kernel
theorem dX10_fewest_29 : decode cX10_fewest 29 = .ok (.ifCond .ne 14, 3) := by decide +kernel
theorem dX10_fewest_32 : decode cX10_fewest 32 = .ok (.aload_n 0, 1) := by decide +kernel
theorem dX10_fewest_33 : decode cX10_fewest 33 = .ok (.iload_n 3, 1) := by decide +kernel
theorem dX10_fewest_34 : decode cX10_fewest 34 = .ok (.invokevirtual 149, 3) := by decide +kernel
theorem dX10_fewest_37 : decode cX10_fewest 37 = .ok (.iconst 1, 1) := by decide +kernel
theorem dX10_fewest_38 : decode cX10_fewest 38 = .ok (.if_icmp .ne 5, 3) := by decide +kernel
theorem dX10_fewest_41 : decode cX10_fewest 41 = .ok (.iload_n 3, 1) := by decide +kernel
theorem dX10_fewest_42 : decode cX10_fewest 42 = .ok (.ireturn, 1) := by decide +kernel
theorem dX10_fewest_43 : decode cX10_fewest 43 = .ok (.iinc 3 1, 3) := by decide +kernel
theorem dX10_fewest_46 : decode cX10_fewest 46 = .ok (.goto (-36), 3) := by decide +kernel
theorem dX10_fewest_49 : decode cX10_fewest 49 = .ok (.iinc 2 1, 3) := by decide +kernel
theorem dX10_fewest_52 : decode cX10_fewest 52 = .ok (.goto (-50), 3) := by decide +kernel
theorem dX10_fewest_55 : decode cX10_fewest 55 = .ok (.iconst (-1), 1) := by decide +kernel
theorem dX10_fewest_56 : decode cX10_fewest 56 = .ok (.ireturn, 1) := by decide +kernel
theorem dX10_countHaving_0 : decode cX10_countHaving 0 = .ok (.iconst 0, 1) := by decide +kernel
theorem dX10_countHaving_1 : decode cX10_countHaving 1 = .ok (.istore_n 2, 1) := by decide +kernel
theorem dX10_countHaving_2 : decode cX10_countHaving 2 = .ok (.iconst 0, 1) := by decide +kernel
theorem dX10_countHaving_3 : decode cX10_countHaving 3 = .ok (.istore_n 3, 1) := by decide +kernel
theorem dX10_countHaving_4 : decode cX10_countHaving 4 = .ok (.iload_n 3, 1) := by decide +kernel
theorem dX10_countHaving_5 : decode cX10_countHaving 5 = .ok (.bipush 64, 2) := by decide +kernel
theorem dX10_countHaving_7 : decode cX10_countHaving 7 = .ok (.if_icmp .ge 29, 3) := by decide +kernel
theorem dX10_countHaving_10 : decode cX10_countHaving 10 = .ok (.iload_n 2, 1) := by decide +kernel
theorem dX10_countHaving_11 : decode cX10_countHaving 11 = .ok (.iload_n 3, 1) := by decide +kernel
theorem dX10_countHaving_12 : decode cX10_countHaving 12 = .ok (.iload_n 1, 1) := by decide +kernel
theorem dX10_countHaving_13 : decode cX10_countHaving 13 = .ok (.iand, 1) := by decide +kernel
theorem dX10_countHaving_14 : decode cX10_countHaving 14 = .ok (.iload_n 1, 1) := by decide +kernel
theorem dX10_countHaving_15 : decode cX10_countHaving 15 = .ok (.if_icmp .ne 12, 3) := by decide +kernel
theorem dX10_countHaving_18 : decode cX10_countHaving 18 = .ok (.aload_n 0, 1) := by decide +kernel
theorem dX10_countHaving_19 : decode cX10_countHaving 19 = .ok (.getfield 34, 3) := by decide +kernel
theorem dX10_countHaving_22 : decode cX10_countHaving 22 = .ok (.iload_n 3, 1) := by decide +kernel
theorem dX10_countHaving_23 : decode cX10_countHaving 23 = .ok (.iaload, 1) := by decide +kernel
theorem dX10_countHaving_24 : decode cX10_countHaving 24 = .ok (.goto 4, 3) := by decide +kernel
theorem dX10_countHaving_27 : decode cX10_countHaving 27 = .ok (.iconst 0, 1) := by decide +kernel
theorem dX10_countHaving_28 : decode cX10_countHaving 28 = .ok (.iadd, 1) := by decide +kernel
theorem dX10_countHaving_29 : decode cX10_countHaving 29 = .ok (.istore_n 2, 1) := by decide +kernel
theorem dX10_countHaving_30 : decode cX10_countHaving 30 = .ok (.iinc 3 1, 3) := by decide +kernel
theorem dX10_countHaving_33 : decode cX10_countHaving 33 = .ok (.goto (-29), 3) := by decide +kernel
theorem dX10_countHaving_36 : decode cX10_countHaving 36 = .ok (.iload_n 2, 1) := by decide +kernel
theorem dX10_countHaving_37 : decode cX10_countHaving 37 = .ok (.ireturn, 1) := by decide +kernel
theorem dX10_isMeant_0 : decode cX10_isMeant 0 = .ok (.aload_n 0, 1) := by decide +kernel
theorem dX10_isMeant_1 : decode cX10_isMeant 1 = .ok (.iload_n 1, 1) := by decide +kernel
theorem dX10_isMeant_2 : decode cX10_isMeant 2 = .ok (.invokevirtual 141, 3) := by decide +kernel
theorem dX10_isMeant_5 : decode cX10_isMeant 5 = .ok (.ifCond .eq 19, 3) := by decide +kernel
theorem dX10_isMeant_8 : decode cX10_isMeant 8 = .ok (.aload_n 0, 1) := by decide +kernel
theorem dX10_isMeant_9 : decode cX10_isMeant 9 = .ok (.getfield 22, 3) := by decide +kernel
theorem dX10_isMeant_12 : decode cX10_isMeant 12 = .ok (.iload_n 1, 1) := by decide +kernel
theorem dX10_isMeant_13 : decode cX10_isMeant 13 = .ok (.iaload, 1) := by decide +kernel
theorem dX10_isMeant_14 : decode cX10_isMeant 14 = .ok (.iload_n 2, 1) := by decide +kernel
theorem dX10_isMeant_15 : decode cX10_isMeant 15 = .ok (.iand, 1) := by decide +kernel
theorem dX10_isMeant_16 : decode cX10_isMeant 16 = .ok (.iload_n 2, 1) := by decide +kernel
theorem dX10_isMeant_17 : decode cX10_isMeant 17 = .ok (.if_icmp .ne 7, 3) := by decide +kernel
theorem dX10_isMeant_20 : decode cX10_isMeant 20 = .ok (.iconst 1, 1) := by decide +kernel
theorem dX10_isMeant_21 : decode cX10_isMeant 21 = .ok (.goto 4, 3) := by decide +kernel
theorem dX10_isMeant_24 : decode cX10_isMeant 24 = .ok (.iconst 0, 1) := by decide +kernel
theorem dX10_isMeant_25 : decode cX10_isMeant 25 = .ok (.ireturn, 1) := by decide +kernel
theorem dX10_countMeant_0 : decode cX10_countMeant 0 = .ok (.iconst 0, 1) := by decide +kernel
theorem dX10_countMeant_1 : decode cX10_countMeant 1 = .ok (.istore_n 2, 1) := by decide +kernel
theorem dX10_countMeant_2 : decode cX10_countMeant 2 = .ok (.iconst 0, 1) := by decide +kernel
theorem dX10_countMeant_3 : decode cX10_countMeant 3 = .ok (.istore_n 3, 1) := by decide +kernel
theorem dX10_countMeant_4 : decode cX10_countMeant 4 = .ok (.iload_n 3, 1) := by decide +kernel
theorem dX10_countMeant_5 : decode cX10_countMeant 5 = .ok (.aload_n 0, 1) := by decide +kernel
theorem dX10_countMeant_6 : decode cX10_countMeant 6 = .ok (.getfield 50, 3) := by decide +kernel
theorem dX10_countMeant_9 : decode cX10_countMeant 9 = .ok (.if_icmp .ge 26, 3) := by decide +kernel
theorem dX10_countMeant_12 : decode cX10_countMeant 12 = .ok (.iload_n 2, 1) := by decide +kernel
theorem dX10_countMeant_13 : decode cX10_countMeant 13 = .ok (.aload_n 0, 1) := by decide +kernel
theorem dX10_countMeant_14 : decode cX10_countMeant 14 = .ok (.iload_n 3, 1) := by decide +kernel
theorem dX10_countMeant_15 : decode cX10_countMeant 15 = .ok (.iload_n 1, 1) := by decide +kernel
theorem dX10_countMeant_16 : decode cX10_countMeant 16 = .ok (.invokevirtual 152, 3) := by decide +kernel
theorem dX10_countMeant_19 : decode cX10_countMeant 19 = .ok (.ifCond .eq 7, 3) := by decide +kernel
theorem dX10_countMeant_22 : decode cX10_countMeant 22 = .ok (.iconst 1, 1) := by decide +kernel
theorem dX10_countMeant_23 : decode cX10_countMeant 23 = .ok (.goto 4, 3) := by decide +kernel
theorem dX10_countMeant_26 : decode cX10_countMeant 26 = .ok (.iconst 0, 1) := by decide +kernel
theorem dX10_countMeant_27 : decode cX10_countMeant 27 = .ok (.iadd, 1) := by decide +kernel
theorem dX10_countMeant_28 : decode cX10_countMeant 28 = .ok (.istore_n 2, 1) := by decide +kernel
theorem dX10_countMeant_29 : decode cX10_countMeant 29 = .ok (.iinc 3 1, 3) := by decide +kernel
theorem dX10_countMeant_32 : decode cX10_countMeant 32 = .ok (.goto (-28), 3) := by decide +kernel
theorem dX10_countMeant_35 : decode cX10_countMeant 35 = .ok (.iload_n 2, 1) := by decide +kernel
theorem dX10_countMeant_36 : decode cX10_countMeant 36 = .ok (.ireturn, 1) := by decide +kernel
theorem dX10_nthMeant_0 : decode cX10_nthMeant 0 = .ok (.iconst 0, 1) := by decide +kernel
theorem dX10_nthMeant_1 : decode cX10_nthMeant 1 = .ok (.istore_n 3, 1) := by decide +kernel
theorem dX10_nthMeant_2 : decode cX10_nthMeant 2 = .ok (.iconst 0, 1) := by decide +kernel
theorem dX10_nthMeant_3 : decode cX10_nthMeant 3 = .ok (.istore 4, 2) := by decide +kernel
theorem dX10_nthMeant_5 : decode cX10_nthMeant 5 = .ok (.iload 4, 2) := by decide +kernel
theorem dX10_nthMeant_7 : decode cX10_nthMeant 7 = .ok (.aload_n 0, 1) := by decide +kernel
theorem dX10_nthMeant_8 : decode cX10_nthMeant 8 = .ok (.getfield 50, 3) := by decide +kernel
theorem dX10_nthMeant_11 : decode cX10_nthMeant 11 = .ok (.if_icmp .ge 30, 3) := by decide +kernel
theorem dX10_nthMeant_14 : decode cX10_nthMeant 14 = .ok (.aload_n 0, 1) := by decide +kernel
theorem dX10_nthMeant_15 : decode cX10_nthMeant 15 = .ok (.iload 4, 2) := by decide +kernel
theorem dX10_nthMeant_17 : decode cX10_nthMeant 17 = .ok (.iload_n 1, 1) := by decide +kernel
theorem dX10_nthMeant_18 : decode cX10_nthMeant 18 = .ok (.invokevirtual 152, 3) := by decide +kernel
theorem dX10_nthMeant_21 : decode cX10_nthMeant 21 = .ok (.ifCond .eq 14, 3) := by decide +kernel
theorem dX10_nthMeant_24 : decode cX10_nthMeant 24 = .ok (.iload_n 3, 1) := by decide +kernel
theorem dX10_nthMeant_25 : decode cX10_nthMeant 25 = .ok (.iload_n 2, 1) := by decide +kernel
theorem dX10_nthMeant_26 : decode cX10_nthMeant 26 = .ok (.if_icmp .ne 6, 3) := by decide +kernel
theorem dX10_nthMeant_29 : decode cX10_nthMeant 29 = .ok (.iload 4, 2) := by decide +kernel
theorem dX10_nthMeant_31 : decode cX10_nthMeant 31 = .ok (.ireturn, 1) := by decide +kernel
theorem dX10_nthMeant_32 : decode cX10_nthMeant 32 = .ok (.iinc 3 1, 3) := by decide +kernel
theorem dX10_nthMeant_35 : decode cX10_nthMeant 35 = .ok (.iinc 4 1, 3) := by decide +kernel
theorem dX10_nthMeant_38 : decode cX10_nthMeant 38 = .ok (.goto (-33), 3) := by decide +kernel
theorem dX10_nthMeant_41 : decode cX10_nthMeant 41 = .ok (.iconst (-1), 1) := by decide +kernel
theorem dX10_nthMeant_42 : decode cX10_nthMeant 42 = .ok (.ireturn, 1) := by decide +kernel
theorem dX10_commonest_0 : decode cX10_commonest 0 = .ok (.aload_n 0, 1) := by decide +kernel
theorem dX10_commonest_1 : decode cX10_commonest 1 = .ok (.getfield 34, 3) := by decide +kernel
theorem dX10_commonest_4 : decode cX10_commonest 4 = .ok (.iconst 0, 1) := by decide +kernel
theorem dX10_commonest_5 : decode cX10_commonest 5 = .ok (.invokestatic 53, 3) := by decide +kernel
theorem dX10_commonest_8 : decode cX10_commonest 8 = .ok (.iconst 0, 1) := by decide +kernel
theorem dX10_commonest_9 : decode cX10_commonest 9 = .ok (.istore_n 3, 1) := by decide +kernel
theorem dX10_commonest_10 : decode cX10_commonest 10 = .ok (.iload_n 3, 1) := by decide +kernel
theorem dX10_commonest_11 : decode cX10_commonest 11 = .ok (.aload_n 0, 1) := by decide +kernel
theorem dX10_commonest_12 : decode cX10_commonest 12 = .ok (.getfield 50, 3) := by decide +kernel
theorem dX10_commonest_15 : decode cX10_commonest 15 = .ok (.if_icmp .ge 50, 3) := by decide +kernel
theorem dX10_commonest_18 : decode cX10_commonest 18 = .ok (.aload_n 0, 1) := by decide +kernel
theorem dX10_commonest_19 : decode cX10_commonest 19 = .ok (.getfield 34, 3) := by decide +kernel
theorem dX10_commonest_22 : decode cX10_commonest 22 = .ok (.iload_n 1, 1) := by decide +kernel
theorem dX10_commonest_23 : decode cX10_commonest 23 = .ok (.ifCond .eq 19, 3) := by decide +kernel
theorem dX10_commonest_26 : decode cX10_commonest 26 = .ok (.aload_n 0, 1) := by decide +kernel
theorem dX10_commonest_27 : decode cX10_commonest 27 = .ok (.getfield 18, 3) := by decide +kernel
theorem dX10_commonest_30 : decode cX10_commonest 30 = .ok (.iload_n 3, 1) := by decide +kernel
theorem dX10_commonest_31 : decode cX10_commonest 31 = .ok (.iaload, 1) := by decide +kernel
theorem dX10_commonest_32 : decode cX10_commonest 32 = .ok (.sipush 180, 3) := by decide +kernel
theorem dX10_commonest_35 : decode cX10_commonest 35 = .ok (.idiv, 1) := by decide +kernel
theorem dX10_commonest_36 : decode cX10_commonest 36 = .ok (.bipush 64, 2) := by decide +kernel
theorem dX10_commonest_38 : decode cX10_commonest 38 = .ok (.irem, 1) := by decide +kernel
theorem dX10_commonest_39 : decode cX10_commonest 39 = .ok (.goto 15, 3) := by decide +kernel
theorem dX10_commonest_42 : decode cX10_commonest 42 = .ok (.aload_n 0, 1) := by decide +kernel
theorem dX10_commonest_43 : decode cX10_commonest 43 = .ok (.getfield 18, 3) := by decide +kernel
theorem dX10_commonest_46 : decode cX10_commonest 46 = .ok (.iload_n 3, 1) := by decide +kernel
theorem dX10_commonest_47 : decode cX10_commonest 47 = .ok (.iaload, 1) := by decide +kernel
theorem dX10_commonest_48 : decode cX10_commonest 48 = .ok (.bipush 12, 2) := by decide +kernel
theorem dX10_commonest_50 : decode cX10_commonest 50 = .ok (.idiv, 1) := by decide +kernel
theorem dX10_commonest_51 : decode cX10_commonest 51 = .ok (.bipush 15, 2) := by decide +kernel
theorem dX10_commonest_53 : decode cX10_commonest 53 = .ok (.irem, 1) := by decide +kernel
theorem dX10_commonest_54 : decode cX10_commonest 54 = .ok (.dup2, 1) := by decide +kernel
theorem dX10_commonest_55 : decode cX10_commonest 55 = .ok (.iaload, 1) := by decide +kernel
theorem dX10_commonest_56 : decode cX10_commonest 56 = .ok (.iconst 1, 1) := by decide +kernel
theorem dX10_commonest_57 : decode cX10_commonest 57 = .ok (.iadd, 1) := by decide +kernel
theorem dX10_commonest_58 : decode cX10_commonest 58 = .ok (.iastore, 1) := by decide +kernel
theorem dX10_commonest_59 : decode cX10_commonest 59 = .ok (.iinc 3 1, 3) := by decide +kernel
theorem dX10_commonest_62 : decode cX10_commonest 62 = .ok (.goto (-52), 3) := by decide +kernel
theorem dX10_commonest_65 : decode cX10_commonest 65 = .ok (.iconst 0, 1) := by decide +kernel
theorem dX10_commonest_66 : decode cX10_commonest 66 = .ok (.istore_n 3, 1) := by decide +kernel
theorem dX10_commonest_67 : decode cX10_commonest 67 = .ok (.iconst 1, 1) := by decide +kernel
theorem dX10_commonest_68 : decode cX10_commonest 68 = .ok (.istore 4, 2) := by decide +kernel
theorem dX10_commonest_70 : decode cX10_commonest 70 = .ok (.iload 4, 2) := by decide +kernel
theorem dX10_commonest_72 : decode cX10_commonest 72 = .ok (.bipush 64, 2) := by decide +kernel
theorem dX10_commonest_74 : decode cX10_commonest 74 = .ok (.if_icmp .ge 32, 3) := by decide +kernel
theorem dX10_commonest_77 : decode cX10_commonest 77 = .ok (.aload_n 0, 1) := by decide +kernel
theorem dX10_commonest_78 : decode cX10_commonest 78 = .ok (.getfield 34, 3) := by decide +kernel
theorem dX10_commonest_81 : decode cX10_commonest 81 = .ok (.iload 4, 2) := by decide +kernel
theorem dX10_commonest_83 : decode cX10_commonest 83 = .ok (.iaload, 1) := by decide +kernel
theorem dX10_commonest_84 : decode cX10_commonest 84 = .ok (.aload_n 0, 1) := by decide +kernel
theorem dX10_commonest_85 : decode cX10_commonest 85 = .ok (.getfield 34, 3) := by decide +kernel
theorem dX10_commonest_88 : decode cX10_commonest 88 = .ok (.iload_n 3, 1) := by decide +kernel
theorem dX10_commonest_89 : decode cX10_commonest 89 = .ok (.iaload, 1) := by decide +kernel
theorem dX10_commonest_90 : decode cX10_commonest 90 = .ok (.if_icmp .le 8, 3) := by decide +kernel
theorem dX10_commonest_93 : decode cX10_commonest 93 = .ok (.iload 4, 2) := by decide +kernel
theorem dX10_commonest_95 : decode cX10_commonest 95 = .ok (.goto 4, 3) := by decide +kernel
theorem dX10_commonest_98 : decode cX10_commonest 98 = .ok (.iload_n 3, 1) := by decide +kernel
theorem dX10_commonest_99 : decode cX10_commonest 99 = .ok (.istore_n 3, 1) := by decide +kernel
theorem dX10_commonest_100 : decode cX10_commonest 100 = .ok (.iinc 4 1, 3) := by decide +kernel
theorem dX10_commonest_103 : decode cX10_commonest 103 = .ok (.goto (-33), 3) := by decide +kernel
theorem dX10_commonest_106 : decode cX10_commonest 106 = .ok (.iload_n 2, 1) := by decide +kernel
theorem dX10_commonest_107 : decode cX10_commonest 107 = .ok (.ifCond .eq 10, 3) := by decide +kernel
theorem dX10_commonest_110 : decode cX10_commonest 110 = .ok (.aload_n 0, 1) := by decide +kernel
theorem dX10_commonest_111 : decode cX10_commonest 111 = .ok (.getfield 34, 3) := by decide +kernel
theorem dX10_commonest_114 : decode cX10_commonest 114 = .ok (.iload_n 3, 1) := by decide +kernel
theorem dX10_commonest_115 : decode cX10_commonest 115 = .ok (.iaload, 1) := by decide +kernel
theorem dX10_commonest_116 : decode cX10_commonest 116 = .ok (.ireturn, 1) := by decide +kernel
theorem dX10_commonest_117 : decode cX10_commonest 117 = .ok (.iload_n 1, 1) := by decide +kernel
theorem dX10_commonest_118 : decode cX10_commonest 118 = .ok (.ifCond .eq 7, 3) := by decide +kernel
theorem dX10_commonest_121 : decode cX10_commonest 121 = .ok (.iload_n 3, 1) := by decide +kernel
theorem dX10_commonest_122 : decode cX10_commonest 122 = .ok (.goto 7, 3) := by decide +kernel
theorem dX10_commonest_125 : decode cX10_commonest 125 = .ok (.iload_n 3, 1) := by decide +kernel
theorem dX10_commonest_126 : decode cX10_commonest 126 = .ok (.bipush 7, 2) := by decide +kernel
theorem dX10_commonest_128 : decode cX10_commonest 128 = .ok (.isub, 1) := by decide +kernel
theorem dX10_commonest_129 : decode cX10_commonest 129 = .ok (.ireturn, 1) := by decide +kernel
theorem dX11_init_0 : decode cX11_init 0 = .ok (.aload_n 0, 1) := by decide +kernel
theorem dX11_init_1 : decode cX11_init 1 = .ok (.invokespecial 1, 3) := by decide +kernel
theorem dX11_init_4 : decode cX11_init 4 = .ok (.aload_n 0, 1) := by decide +kernel
theorem dX11_init_5 : decode cX11_init 5 = .ok (.new 7, 3) := by decide +kernel
theorem dX11_init_8 : decode cX11_init 8 = .ok (.dup, 1) := by decide +kernel
theorem dX11_init_9 : decode cX11_init 9 = .ok (.invokespecial 9, 3) := by decide +kernel
theorem dX11_init_12 : decode cX11_init 12 = .ok (.putfield 10, 3) := by decide +kernel
theorem dX11_init_15 : decode cX11_init 15 = .ok (.aload_n 0, 1) := by decide +kernel
theorem dX11_init_16 : decode cX11_init 16 = .ok (.new 16, 3) := by decide +kernel
theorem dX11_init_19 : decode cX11_init 19 = .ok (.dup, 1) := by decide +kernel
theorem dX11_init_20 : decode cX11_init 20 = .ok (.invokespecial 18, 3) := by decide +kernel
theorem dX11_init_23 : decode cX11_init 23 = .ok (.putfield 19, 3) := by decide +kernel
theorem dX11_init_26 : decode cX11_init 26 = .ok (.aload_n 0, 1) := by decide +kernel
theorem dX11_init_27 : decode cX11_init 27 = .ok (.new 16, 3) := by decide +kernel
theorem dX11_init_30 : decode cX11_init 30 = .ok (.dup, 1) := by decide +kernel
theorem dX11_init_31 : decode cX11_init 31 = .ok (.invokespecial 18, 3) := by decide +kernel
theorem dX11_init_34 : decode cX11_init 34 = .ok (.putfield 23, 3) := by decide +kernel
theorem dX11_init_37 : decode cX11_init 37 = .ok (.aload_n 0, 1) := by decide +kernel
theorem dX11_init_38 : decode cX11_init 38 = .ok (.new 16, 3) := by decide +kernel
theorem dX11_init_41 : decode cX11_init 41 = .ok (.dup, 1) := by decide +kernel
theorem dX11_init_42 : decode cX11_init 42 = .ok (.invokespecial 18, 3) := by decide +kernel
theorem dX11_init_45 : decode cX11_init 45 = .ok (.putfield 26, 3) := by decide +kernel
theorem dX11_init_48 : decode cX11_init 48 = .ok (.aload_n 0, 1) := by decide +kernel
theorem dX11_init_49 : decode cX11_init 49 = .ok (.new 29, 3) := by decide +kernel
theorem dX11_init_52 : decode cX11_init 52 = .ok (.dup, 1) := by decide +kernel
theorem dX11_init_53 : decode cX11_init 53 = .ok (.invokespecial 31, 3) := by decide +kernel
theorem dX11_init_56 : decode cX11_init 56 = .ok (.putfield 32, 3) := by decide +kernel
theorem dX11_init_59 : decode cX11_init 59 = .ok (.aload_n 0, 1) := by decide +kernel
theorem dX11_init_60 : decode cX11_init 60 = .ok (.new 29, 3) := by decide +kernel
theorem dX11_init_63 : decode cX11_init 63 = .ok (.dup, 1) := by decide +kernel
theorem dX11_init_64 : decode cX11_init 64 = .ok (.invokespecial 31, 3) := by decide +kernel
theorem dX11_init_67 : decode cX11_init 67 = .ok (.putfield 36, 3) := by decide +kernel
theorem dX11_init_70 : decode cX11_init 70 = .ok (.aload_n 0, 1) := by decide +kernel
theorem dX11_init_71 : decode cX11_init 71 = .ok (.new 39, 3) := by decide +kernel
theorem dX11_init_74 : decode cX11_init 74 = .ok (.dup, 1) := by decide +kernel
theorem dX11_init_75 : decode cX11_init 75 = .ok (.aload_n 0, 1) := by decide +kernel
theorem dX11_init_76 : decode cX11_init 76 = .ok (.getfield 10, 3) := by decide +kernel
theorem dX11_init_79 : decode cX11_init 79 = .ok (.aload_n 0, 1) := by decide +kernel
theorem dX11_init_80 : decode cX11_init 80 = .ok (.getfield 36, 3) := by decide +kernel
theorem dX11_init_83 : decode cX11_init 83 = .ok (.invokespecial 41, 3) := by decide +kernel
theorem dX11_init_86 : decode cX11_init 86 = .ok (.putfield 44, 3) := by decide +kernel
theorem dX11_init_89 : decode cX11_init 89 = .ok (.aload_n 0, 1) := by decide +kernel
theorem dX11_init_90 : decode cX11_init 90 = .ok (.new 48, 3) := by decide +kernel
theorem dX11_init_93 : decode cX11_init 93 = .ok (.dup, 1) := by decide +kernel
theorem dX11_init_94 : decode cX11_init 94 = .ok (.aload_n 0, 1) := by decide +kernel
theorem dX11_init_95 : decode cX11_init 95 = .ok (.getfield 32, 3) := by decide +kernel
theorem dX11_init_98 : decode cX11_init 98 = .ok (.invokespecial 50, 3) := by decide +kernel
theorem dX11_init_101 : decode cX11_init 101 = .ok (.putfield 53, 3) := by decide +kernel
theorem dX11_init_104 : decode cX11_init 104 = .ok (.aload_n 0, 1) := by decide +kernel
theorem dX11_init_105 : decode cX11_init 105 = .ok (.new 57, 3) := by decide +kernel
theorem dX11_init_108 : decode cX11_init 108 = .ok (.dup, 1) := by decide +kernel
theorem dX11_init_109 : decode cX11_init 109 = .ok (.invokespecial 59, 3) := by decide +kernel
theorem dX11_init_112 : decode cX11_init 112 = .ok (.putfield 60, 3) := by decide +kernel
theorem dX11_init_115 : decode cX11_init 115 = .ok (.aload_n 0, 1) := by decide +kernel
theorem dX11_init_116 : decode cX11_init 116 = .ok (.new 64, 3) := by decide +kernel
theorem dX11_init_119 : decode cX11_init 119 = .ok (.dup, 1) := by decide +kernel
theorem dX11_init_120 : decode cX11_init 120 = .ok (.invokespecial 66, 3) := by decide +kernel
theorem dX11_init_123 : decode cX11_init 123 = .ok (.putfield 67, 3) := by decide +kernel
theorem dX11_init_126 : decode cX11_init 126 = .ok (.aload_n 0, 1) := by decide +kernel
theorem dX11_init_127 : decode cX11_init 127 = .ok (.new 71, 3) := by decide +kernel
theorem dX11_init_130 : decode cX11_init 130 = .ok (.dup, 1) := by decide +kernel
theorem dX11_init_131 : decode cX11_init 131 = .ok (.invokespecial 73, 3) := by decide +kernel
theorem dX11_init_134 : decode cX11_init 134 = .ok (.putfield 74, 3) := by decide +kernel
theorem dX11_init_137 : decode cX11_init 137 = .ok (.aload_n 0, 1) := by decide +kernel
theorem dX11_init_138 : decode cX11_init 138 = .ok (.new 78, 3) := by decide +kernel
theorem dX11_init_141 : decode cX11_init 141 = .ok (.dup, 1) := by decide +kernel
theorem dX11_init_142 : decode cX11_init 142 = .ok (.invokespecial 80, 3) := by decide +kernel
theorem dX11_init_145 : decode cX11_init 145 = .ok (.putfield 81, 3) := by decide +kernel
theorem dX11_init_148 : decode cX11_init 148 = .ok (.aload_n 0, 1) := by decide +kernel
theorem dX11_init_149 : decode cX11_init 149 = .ok (.new 85, 3) := by decide +kernel
theorem dX11_init_152 : decode cX11_init 152 = .ok (.dup, 1) := by decide +kernel
theorem dX11_init_153 : decode cX11_init 153 = .ok (.invokespecial 87, 3) := by decide +kernel
theorem dX11_init_156 : decode cX11_init 156 = .ok (.putfield 88, 3) := by decide +kernel
theorem dX11_init_159 : decode cX11_init 159 = .ok (.aload_n 0, 1) := by decide +kernel
theorem dX11_init_160 : decode cX11_init 160 = .ok (.bipush 50, 2) := by decide +kernel
theorem dX11_init_162 : decode cX11_init 162 = .ok (.newarray .int, 2) := by decide +kernel
theorem dX11_init_164 : decode cX11_init 164 = .ok (.putfield 92, 3) := by decide +kernel
theorem dX11_init_167 : decode cX11_init 167 = .ok (.aload_n 0, 1) := by decide +kernel
theorem dX11_init_168 : decode cX11_init 168 = .ok (.sipush 672, 3) := by decide +kernel
theorem dX11_init_171 : decode cX11_init 171 = .ok (.newarray .int, 2) := by decide +kernel
theorem dX11_init_173 : decode cX11_init 173 = .ok (.putfield 96, 3) := by decide +kernel
theorem dX11_init_176 : decode cX11_init 176 = .ok (.aload_n 0, 1) := by decide +kernel
theorem dX11_init_177 : decode cX11_init 177 = .ok (.iconst (-1), 1) := by decide +kernel
theorem dX11_init_178 : decode cX11_init 178 = .ok (.putfield 99, 3) := by decide +kernel
theorem dX11_init_181 : decode cX11_init 181 = .ok (.return_, 1) := by decide +kernel
theorem dX11_feed_0 : decode cX11_feed 0 = .ok (.aload_n 0, 1) := by decide +kernel
theorem dX11_feed_1 : decode cX11_feed 1 = .ok (.getfield 10, 3) := by decide +kernel
theorem dX11_feed_4 : decode cX11_feed 4 = .ok (.bipush 20, 2) := by decide +kernel
theorem dX11_feed_6 : decode cX11_feed 6 = .ok (.invokevirtual 103, 3) := by decide +kernel
theorem dX11_feed_9 : decode cX11_feed 9 = .ok (.ifCond .ne 5, 3) := by decide +kernel
theorem dX11_feed_12 : decode cX11_feed 12 = .ok (.iconst (-1), 1) := by decide +kernel
theorem dX11_feed_13 : decode cX11_feed 13 = .ok (.ireturn, 1) := by decide +kernel
theorem dX11_feed_14 : decode cX11_feed 14 = .ok (.aload_n 0, 1) := by decide +kernel
theorem dX11_feed_15 : decode cX11_feed 15 = .ok (.getfield 10, 3) := by decide +kernel
theorem dX11_feed_18 : decode cX11_feed 18 = .ok (.iload_n 1, 1) := by decide +kernel
theorem dX11_feed_19 : decode cX11_feed 19 = .ok (.invokevirtual 107, 3) := by decide +kernel
theorem dX11_feed_22 : decode cX11_feed 22 = .ok (.aload_n 0, 1) := by decide +kernel
theorem dX11_feed_23 : decode cX11_feed 23 = .ok (.getfield 10, 3) := by decide +kernel
theorem dX11_feed_26 : decode cX11_feed 26 = .ok (.iload_n 2, 1) := by decide +kernel
theorem dX11_feed_27 : decode cX11_feed 27 = .ok (.invokevirtual 107, 3) := by decide +kernel
theorem dX11_feed_30 : decode cX11_feed 30 = .ok (.aload_n 0, 1) := by decide +kernel
theorem dX11_feed_31 : decode cX11_feed 31 = .ok (.getfield 10, 3) := by decide +kernel
theorem dX11_feed_34 : decode cX11_feed 34 = .ok (.iload_n 3, 1) := by decide +kernel
theorem dX11_feed_35 : decode cX11_feed 35 = .ok (.invokevirtual 107, 3) := by decide +kernel
theorem dX11_feed_38 : decode cX11_feed 38 = .ok (.aload_n 0, 1) := by decide +kernel
theorem dX11_feed_39 : decode cX11_feed 39 = .ok (.getfield 10, 3) := by decide +kernel
theorem dX11_feed_42 : decode cX11_feed 42 = .ok (.iload 4, 2) := by decide +kernel
theorem dX11_feed_44 : decode cX11_feed 44 = .ok (.invokevirtual 107, 3) := by decide +kernel
theorem dX11_feed_47 : decode cX11_feed 47 = .ok (.aload_n 0, 1) := by decide +kernel
theorem dX11_feed_48 : decode cX11_feed 48 = .ok (.getfield 10, 3) := by decide +kernel
theorem dX11_feed_51 : decode cX11_feed 51 = .ok (.iload 5, 2) := by decide +kernel
theorem dX11_feed_53 : decode cX11_feed 53 = .ok (.invokevirtual 107, 3) := by decide +kernel
theorem dX11_feed_56 : decode cX11_feed 56 = .ok (.aload_n 0, 1) := by decide +kernel
theorem dX11_feed_57 : decode cX11_feed 57 = .ok (.getfield 10, 3) := by decide +kernel
theorem dX11_feed_60 : decode cX11_feed 60 = .ok (.getfield 111, 3) := by decide +kernel
theorem dX11_feed_63 : decode cX11_feed 63 = .ok (.ireturn, 1) := by decide +kernel
theorem dX11_end_0 : decode cX11_end 0 = .ok (.aload_n 0, 1) := by decide +kernel
theorem dX11_end_1 : decode cX11_end 1 = .ok (.getfield 10, 3) := by decide +kernel
theorem dX11_end_4 : decode cX11_end 4 = .ok (.iload_n 1, 1) := by decide +kernel
theorem dX11_end_5 : decode cX11_end 5 = .ok (.invokevirtual 114, 3) := by decide +kernel
theorem dX11_end_8 : decode cX11_end 8 = .ok (.ireturn, 1) := by decide +kernel
theorem dX11_line_0 : decode cX11_line 0 = .ok (.aload_n 0, 1) := by decide +kernel
theorem dX11_line_1 : decode cX11_line 1 = .ok (.getfield 44, 3) := by decide +kernel
theorem dX11_line_4 : decode cX11_line 4 = .ok (.aload_n 0, 1) := by decide +kernel
theorem dX11_line_5 : decode cX11_line 5 = .ok (.getfield 23, 3) := by decide +kernel
theorem dX11_line_8 : decode cX11_line 8 = .ok (.invokevirtual 117, 3) := by decide +kernel
theorem dX11_line_11 : decode cX11_line 11 = .ok (.istore_n 1, 1) := by decide +kernel
theorem dX11_line_12 : decode cX11_line 12 = .ok (.aload_n 0, 1) := by decide +kernel
theorem dX11_line_13 : decode cX11_line 13 = .ok (.getfield 10, 3) := by decide +kernel
theorem dX11_line_16 : decode cX11_line 16 = .ok (.iconst 0, 1) := by decide +kernel
theorem dX11_line_17 : decode cX11_line 17 = .ok (.invokevirtual 114, 3) := by decide +kernel
theorem dX11_line_20 : decode cX11_line 20 = .ok (.pop, 1) := by decide +kernel
theorem dX11_line_21 : decode cX11_line 21 = .ok (.iload_n 1, 1) := by decide +kernel
theorem dX11_line_22 : decode cX11_line 22 = .ok (.iconst (-1), 1) := by decide +kernel
theorem dX11_line_23 : decode cX11_line 23 = .ok (.if_icmp .ne 5, 3) := by decide +kernel
theorem dX11_line_26 : decode cX11_line 26 = .ok (.iconst (-1), 1) := by decide +kernel
theorem dX11_line_27 : decode cX11_line 27 = .ok (.ireturn, 1) := by decide +kernel
theorem dX11_line_28 : decode cX11_line 28 = .ok (.aload_n 0, 1) := by decide +kernel
theorem dX11_line_29 : decode cX11_line 29 = .ok (.invokevirtual 121, 3) := by decide +kernel
theorem dX11_line_32 : decode cX11_line 32 = .ok (.iload_n 1, 1) := by decide +kernel
theorem dX11_line_33 : decode cX11_line 33 = .ok (.ireturn, 1) := by decide +kernel
theorem dX11_book_0 : decode cX11_book 0 = .ok (.aload_n 0, 1) := by decide +kernel
theorem dX11_book_1 : decode cX11_book 1 = .ok (.getfield 44, 3) := by decide +kernel
theorem dX11_book_4 : decode cX11_book 4 = .ok (.aload_n 0, 1) := by decide +kernel
theorem dX11_book_5 : decode cX11_book 5 = .ok (.getfield 36, 3) := by decide +kernel
theorem dX11_book_8 : decode cX11_book 8 = .ok (.invokevirtual 124, 3) := by decide +kernel
theorem dX11_book_11 : decode cX11_book 11 = .ok (.istore_n 1, 1) := by decide +kernel
theorem dX11_book_12 : decode cX11_book 12 = .ok (.aload_n 0, 1) := by decide +kernel
theorem dX11_book_13 : decode cX11_book 13 = .ok (.getfield 10, 3) := by decide +kernel
theorem dX11_book_16 : decode cX11_book 16 = .ok (.iconst 0, 1) := by decide +kernel
theorem dX11_book_17 : decode cX11_book 17 = .ok (.invokevirtual 114, 3) := by decide +kernel
theorem dX11_book_20 : decode cX11_book 20 = .ok (.pop, 1) := by decide +kernel
theorem dX11_book_21 : decode cX11_book 21 = .ok (.iload_n 1, 1) := by decide +kernel
theorem dX11_book_22 : decode cX11_book 22 = .ok (.iconst (-1), 1) := by decide +kernel
theorem dX11_book_23 : decode cX11_book 23 = .ok (.if_icmp .ne 5, 3) := by decide +kernel
theorem dX11_book_26 : decode cX11_book 26 = .ok (.iconst (-1), 1) := by decide +kernel
theorem dX11_book_27 : decode cX11_book 27 = .ok (.ireturn, 1) := by decide +kernel
theorem dX11_book_28 : decode cX11_book 28 = .ok (.aload_n 0, 1) := by decide +kernel
theorem dX11_book_29 : decode cX11_book 29 = .ok (.getfield 32, 3) := by decide +kernel
theorem dX11_book_32 : decode cX11_book 32 = .ok (.astore_n 2, 1) := by decide +kernel
theorem dX11_book_33 : decode cX11_book 33 = .ok (.aload_n 0, 1) := by decide +kernel
theorem dX11_book_34 : decode cX11_book 34 = .ok (.aload_n 0, 1) := by decide +kernel
theorem dX11_book_35 : decode cX11_book 35 = .ok (.getfield 36, 3) := by decide +kernel
theorem dX11_book_38 : decode cX11_book 38 = .ok (.putfield 32, 3) := by decide +kernel
theorem dX11_book_41 : decode cX11_book 41 = .ok (.aload_n 0, 1) := by decide +kernel
theorem dX11_book_42 : decode cX11_book 42 = .ok (.aload_n 2, 1) := by decide +kernel
theorem dX11_book_43 : decode cX11_book 43 = .ok (.putfield 36, 3) := by decide +kernel
theorem dX11_book_46 : decode cX11_book 46 = .ok (.aload_n 0, 1) := by decide +kernel
theorem dX11_book_47 : decode cX11_book 47 = .ok (.getfield 53, 3) := by decide +kernel
theorem dX11_book_50 : decode cX11_book 50 = .ok (.aload_n 0, 1) := by decide +kernel
theorem dX11_book_51 : decode cX11_book 51 = .ok (.getfield 32, 3) := by decide +kernel
theorem dX11_book_54 : decode cX11_book 54 = .ok (.invokevirtual 128, 3) := by decide +kernel
theorem dX11_book_57 : decode cX11_book 57 = .ok (.aload_n 0, 1) := by decide +kernel
theorem dX11_book_58 : decode cX11_book 58 = .ok (.invokevirtual 131, 3) := by decide +kernel
theorem dX11_book_61 : decode cX11_book 61 = .ok (.iload_n 1, 1) := by decide +kernel
theorem dX11_book_62 : decode cX11_book 62 = .ok (.ireturn, 1) := by decide +kernel
theorem dX11_fault_0 : decode cX11_fault 0 = .ok (.iload_n 1, 1) := by decide +kernel
theorem dX11_fault_1 : decode cX11_fault 1 = .ok (.ifCond .ne 11, 3) := by decide +kernel
theorem dX11_fault_4 : decode cX11_fault 4 = .ok (.aload_n 0, 1) := by decide +kernel
theorem dX11_fault_5 : decode cX11_fault 5 = .ok (.getfield 44, 3) := by decide +kernel
theorem dX11_fault_8 : decode cX11_fault 8 = .ok (.getfield 134, 3) := by decide +kernel
theorem dX11_fault_11 : decode cX11_fault 11 = .ok (.ireturn, 1) := by decide +kernel
theorem dX11_fault_12 : decode cX11_fault 12 = .ok (.iload_n 1, 1) := by decide +kernel
theorem dX11_fault_13 : decode cX11_fault 13 = .ok (.iconst 1, 1) := by decide +kernel
theorem dX11_fault_14 : decode cX11_fault 14 = .ok (.if_icmp .ne 13, 3) := by decide +kernel
theorem dX11_fault_17 : decode cX11_fault 17 = .ok (.aload_n 0, 1) := by decide +kernel
theorem dX11_fault_18 : decode cX11_fault 18 = .ok (.getfield 44, 3) := by decide +kernel
theorem dX11_fault_21 : decode cX11_fault 21 = .ok (.getfield 137, 3) := by decide +kernel
theorem dX11_fault_24 : decode cX11_fault 24 = .ok (.goto 4, 3) := by decide +kernel
theorem dX11_fault_27 : decode cX11_fault 27 = .ok (.iconst (-1), 1) := by decide +kernel
theorem dX11_fault_28 : decode cX11_fault 28 = .ok (.ireturn, 1) := by decide +kernel
theorem dX11_has_0 : decode cX11_has 0 = .ok (.iload_n 1, 1) := by decide +kernel
theorem dX11_has_1 : decode cX11_has 1 = .ok (.tableswitch 135 0 9 #[55, 63, 71, 79, 87, 95, 103, 111, 119, 127], 55) := by decide +kernel
theorem dX11_has_56 : decode cX11_has 56 = .ok (.aload_n 0, 1) := by decide +kernel
theorem dX11_has_57 : decode cX11_has 57 = .ok (.getfield 19, 3) := by decide +kernel
theorem dX11_has_60 : decode cX11_has 60 = .ok (.getfield 140, 3) := by decide +kernel
theorem dX11_has_63 : decode cX11_has 63 = .ok (.ireturn, 1) := by decide +kernel
theorem dX11_has_64 : decode cX11_has 64 = .ok (.aload_n 0, 1) := by decide +kernel
theorem dX11_has_65 : decode cX11_has 65 = .ok (.getfield 19, 3) := by decide +kernel
theorem dX11_has_68 : decode cX11_has 68 = .ok (.invokevirtual 143, 3) := by decide +kernel
theorem dX11_has_71 : decode cX11_has 71 = .ok (.ireturn, 1) := by decide +kernel
theorem dX11_has_72 : decode cX11_has 72 = .ok (.aload_n 0, 1) := by decide +kernel
theorem dX11_has_73 : decode cX11_has 73 = .ok (.getfield 19, 3) := by decide +kernel
theorem dX11_has_76 : decode cX11_has 76 = .ok (.getfield 147, 3) := by decide +kernel
theorem dX11_has_79 : decode cX11_has 79 = .ok (.ireturn, 1) := by decide +kernel
theorem dX11_has_80 : decode cX11_has 80 = .ok (.aload_n 0, 1) := by decide +kernel
theorem dX11_has_81 : decode cX11_has 81 = .ok (.getfield 32, 3) := by decide +kernel
theorem dX11_has_84 : decode cX11_has 84 = .ok (.getfield 150, 3) := by decide +kernel
theorem dX11_has_87 : decode cX11_has 87 = .ok (.ireturn, 1) := by decide +kernel
theorem dX11_has_88 : decode cX11_has 88 = .ok (.aload_n 0, 1) := by decide +kernel
theorem dX11_has_89 : decode cX11_has 89 = .ok (.getfield 32, 3) := by decide +kernel
theorem dX11_has_92 : decode cX11_has 92 = .ok (.getfield 153, 3) := by decide +kernel
theorem dX11_has_95 : decode cX11_has 95 = .ok (.ireturn, 1) := by decide +kernel
theorem dX11_has_96 : decode cX11_has 96 = .ok (.aload_n 0, 1) := by decide +kernel
theorem dX11_has_97 : decode cX11_has 97 = .ok (.getfield 32, 3) := by decide +kernel
theorem dX11_has_100 : decode cX11_has 100 = .ok (.getfield 156, 3) := by decide +kernel
theorem dX11_has_103 : decode cX11_has 103 = .ok (.ireturn, 1) := by decide +kernel
theorem dX11_has_104 : decode cX11_has 104 = .ok (.aload_n 0, 1) := by decide +kernel
theorem dX11_has_105 : decode cX11_has 105 = .ok (.getfield 19, 3) := by decide +kernel
theorem dX11_has_108 : decode cX11_has 108 = .ok (.getfield 159, 3) := by decide +kernel
theorem dX11_has_111 : decode cX11_has 111 = .ok (.ireturn, 1) := by decide +kernel
theorem dX11_has_112 : decode cX11_has 112 = .ok (.aload_n 0, 1) := by decide +kernel
theorem dX11_has_113 : decode cX11_has 113 = .ok (.getfield 74, 3) := by decide +kernel
theorem dX11_has_116 : decode cX11_has 116 = .ok (.getfield 162, 3) := by decide +kernel
theorem dX11_has_119 : decode cX11_has 119 = .ok (.ireturn, 1) := by decide +kernel
theorem dX11_has_120 : decode cX11_has 120 = .ok (.aload_n 0, 1) := by decide +kernel
theorem dX11_has_121 : decode cX11_has 121 = .ok (.getfield 74, 3) := by decide +kernel
theorem dX11_has_124 : decode cX11_has 124 = .ok (.getfield 165, 3) := by decide +kernel
theorem dX11_has_127 : decode cX11_has 127 = .ok (.ireturn, 1) := by decide +kernel
theorem dX11_has_128 : decode cX11_has 128 = .ok (.aload_n 0, 1) := by decide +kernel
theorem dX11_has_129 : decode cX11_has 129 = .ok (.getfield 74, 3) := by decide +kernel
theorem dX11_has_132 : decode cX11_has 132 = .ok (.getfield 168, 3) := by decide +kernel
theorem dX11_has_135 : decode cX11_has 135 = .ok (.ireturn, 1) := by decide +kernel
theorem dX11_has_136 : decode cX11_has 136 = .ok (.iconst (-1), 1) := by decide +kernel
theorem dX11_has_137 : decode cX11_has 137 = .ok (.ireturn, 1) := by decide +kernel
theorem dX11_letter_0 : decode cX11_letter 0 = .ok (.aload_n 0, 1) := by decide +kernel
theorem dX11_letter_1 : decode cX11_letter 1 = .ok (.getfield 32, 3) := by decide +kernel
theorem dX11_letter_4 : decode cX11_letter 4 = .ok (.iload_n 1, 1) := by decide +kernel
theorem dX11_letter_5 : decode cX11_letter 5 = .ok (.iload_n 2, 1) := by decide +kernel
theorem dX11_letter_6 : decode cX11_letter 6 = .ok (.invokevirtual 171, 3) := by decide +kernel
theorem dX11_letter_9 : decode cX11_letter 9 = .ok (.ireturn, 1) := by decide +kernel
theorem dX11_note_0 : decode cX11_note 0 = .ok (.iload_n 2, 1) := by decide +kernel
theorem dX11_note_1 : decode cX11_note 1 = .ok (.tableswitch 54 0 2 #[27, 36, 45], 27) := by decide +kernel
theorem dX11_note_28 : decode cX11_note 28 = .ok (.aload_n 0, 1) := by decide +kernel
theorem dX11_note_29 : decode cX11_note 29 = .ok (.getfield 19, 3) := by decide +kernel
theorem dX11_note_32 : decode cX11_note 32 = .ok (.iload_n 1, 1) := by decide +kernel
theorem dX11_note_33 : decode cX11_note 33 = .ok (.invokevirtual 175, 3) := by decide +kernel
theorem dX11_note_36 : decode cX11_note 36 = .ok (.ireturn, 1) := by decide +kernel
theorem dX11_note_37 : decode cX11_note 37 = .ok (.aload_n 0, 1) := by decide +kernel
theorem dX11_note_38 : decode cX11_note 38 = .ok (.getfield 19, 3) := by decide +kernel
theorem dX11_note_41 : decode cX11_note 41 = .ok (.iload_n 1, 1) := by decide +kernel
theorem dX11_note_42 : decode cX11_note 42 = .ok (.invokevirtual 179, 3) := by decide +kernel
theorem dX11_note_45 : decode cX11_note 45 = .ok (.ireturn, 1) := by decide +kernel
theorem dX11_note_46 : decode cX11_note 46 = .ok (.aload_n 0, 1) := by decide +kernel
theorem dX11_note_47 : decode cX11_note 47 = .ok (.getfield 19, 3) := by decide +kernel
theorem dX11_note_50 : decode cX11_note 50 = .ok (.iload_n 1, 1) := by decide +kernel
theorem dX11_note_51 : decode cX11_note 51 = .ok (.invokevirtual 182, 3) := by decide +kernel
theorem dX11_note_54 : decode cX11_note 54 = .ok (.ireturn, 1) := by decide +kernel
theorem dX11_note_55 : decode cX11_note 55 = .ok (.iconst (-1), 1) := by decide +kernel
theorem dX11_note_56 : decode cX11_note 56 = .ok (.ireturn, 1) := by decide +kernel
theorem dX11_bounds_0 : decode cX11_bounds 0 = .ok (.iload_n 1, 1) := by decide +kernel
theorem dX11_bounds_1 : decode cX11_bounds 1 = .ok (.ifCond .lt 29, 3) := by decide +kernel
theorem dX11_bounds_4 : decode cX11_bounds 4 = .ok (.iload_n 1, 1) := by decide +kernel
theorem dX11_bounds_5 : decode cX11_bounds 5 = .ok (.bipush 24, 2) := by decide +kernel
theorem dX11_bounds_7 : decode cX11_bounds 7 = .ok (.if_icmp .gt 23, 3) := by decide +kernel
theorem dX11_bounds_10 : decode cX11_bounds 10 = .ok (.iload_n 2, 1) := by decide +kernel
theorem dX11_bounds_11 : decode cX11_bounds 11 = .ok (.ifCond .lt 19, 3) := by decide +kernel
theorem dX11_bounds_14 : decode cX11_bounds 14 = .ok (.iload_n 2, 1) := by decide +kernel
theorem dX11_bounds_15 : decode cX11_bounds 15 = .ok (.bipush 7, 2) := by decide +kernel
theorem dX11_bounds_17 : decode cX11_bounds 17 = .ok (.if_icmp .gt 13, 3) := by decide +kernel
theorem dX11_bounds_20 : decode cX11_bounds 20 = .ok (.iload_n 3, 1) := by decide +kernel
theorem dX11_bounds_21 : decode cX11_bounds 21 = .ok (.ifCond .lt 9, 3) := by decide +kernel
theorem dX11_bounds_24 : decode cX11_bounds 24 = .ok (.iload_n 3, 1) := by decide +kernel
theorem dX11_bounds_25 : decode cX11_bounds 25 = .ok (.bipush 15, 2) := by decide +kernel
theorem dX11_bounds_27 : decode cX11_bounds 27 = .ok (.if_icmp .le 5, 3) := by decide +kernel
theorem dX11_bounds_30 : decode cX11_bounds 30 = .ok (.iconst (-1), 1) := by decide +kernel
theorem dX11_bounds_31 : decode cX11_bounds 31 = .ok (.ireturn, 1) := by decide +kernel
theorem dX11_bounds_32 : decode cX11_bounds 32 = .ok (.aload_n 0, 1) := by decide +kernel
theorem dX11_bounds_33 : decode cX11_bounds 33 = .ok (.getfield 74, 3) := by decide +kernel
theorem dX11_bounds_36 : decode cX11_bounds 36 = .ok (.iload_n 1, 1) := by decide +kernel
theorem dX11_bounds_37 : decode cX11_bounds 37 = .ok (.putfield 162, 3) := by decide +kernel
theorem dX11_bounds_40 : decode cX11_bounds 40 = .ok (.aload_n 0, 1) := by decide +kernel
theorem dX11_bounds_41 : decode cX11_bounds 41 = .ok (.getfield 74, 3) := by decide +kernel
theorem dX11_bounds_44 : decode cX11_bounds 44 = .ok (.iload_n 2, 1) := by decide +kernel
theorem dX11_bounds_45 : decode cX11_bounds 45 = .ok (.putfield 165, 3) := by decide +kernel
theorem dX11_bounds_48 : decode cX11_bounds 48 = .ok (.aload_n 0, 1) := by decide +kernel
theorem dX11_bounds_49 : decode cX11_bounds 49 = .ok (.getfield 74, 3) := by decide +kernel
theorem dX11_bounds_52 : decode cX11_bounds 52 = .ok (.iload_n 3, 1) := by decide +kernel
theorem dX11_bounds_53 : decode cX11_bounds 53 = .ok (.putfield 168, 3) := by decide +kernel
theorem dX11_bounds_56 : decode cX11_bounds 56 = .ok (.aload_n 0, 1) := by decide +kernel
theorem dX11_bounds_57 : decode cX11_bounds 57 = .ok (.invokevirtual 131, 3) := by decide +kernel
theorem dX11_bounds_60 : decode cX11_bounds 60 = .ok (.iconst 0, 1) := by decide +kernel
theorem dX11_bounds_61 : decode cX11_bounds 61 = .ok (.istore 4, 2) := by decide +kernel
theorem dX11_bounds_63 : decode cX11_bounds 63 = .ok (.iconst 0, 1) := by decide +kernel
theorem dX11_bounds_64 : decode cX11_bounds 64 = .ok (.istore 5, 2) := by decide +kernel
theorem dX11_bounds_66 : decode cX11_bounds 66 = .ok (.iload 5, 2) := by decide +kernel
theorem dX11_bounds_68 : decode cX11_bounds 68 = .ok (.bipush 12, 2) := by decide +kernel
theorem dX11_bounds_70 : decode cX11_bounds 70 = .ok (.if_icmp .ge 31, 3) := by decide +kernel
theorem dX11_bounds_73 : decode cX11_bounds 73 = .ok (.iload 4, 2) := by decide +kernel
theorem dX11_bounds_75 : decode cX11_bounds 75 = .ok (.aload_n 0, 1) := by decide +kernel
theorem dX11_bounds_76 : decode cX11_bounds 76 = .ok (.getfield 74, 3) := by decide +kernel
theorem dX11_bounds_79 : decode cX11_bounds 79 = .ok (.iload 5, 2) := by decide +kernel
theorem dX11_bounds_81 : decode cX11_bounds 81 = .ok (.invokevirtual 185, 3) := by decide +kernel
theorem dX11_bounds_84 : decode cX11_bounds 84 = .ok (.ifCond .eq 7, 3) := by decide +kernel
theorem dX11_bounds_87 : decode cX11_bounds 87 = .ok (.iconst 1, 1) := by decide +kernel
theorem dX11_bounds_88 : decode cX11_bounds 88 = .ok (.goto 4, 3) := by decide +kernel
theorem dX11_bounds_91 : decode cX11_bounds 91 = .ok (.iconst 0, 1) := by decide +kernel
theorem dX11_bounds_92 : decode cX11_bounds 92 = .ok (.iadd, 1) := by decide +kernel
theorem dX11_bounds_93 : decode cX11_bounds 93 = .ok (.istore 4, 2) := by decide +kernel
theorem dX11_bounds_95 : decode cX11_bounds 95 = .ok (.iinc 5 1, 3) := by decide +kernel
theorem dX11_bounds_98 : decode cX11_bounds 98 = .ok (.goto (-32), 3) := by decide +kernel
theorem dX11_bounds_101 : decode cX11_bounds 101 = .ok (.iload_n 1, 1) := by decide +kernel
theorem dX11_bounds_102 : decode cX11_bounds 102 = .ok (.iconst 1, 1) := by decide +kernel
theorem dX11_bounds_103 : decode cX11_bounds 103 = .ok (.iadd, 1) := by decide +kernel
theorem dX11_bounds_104 : decode cX11_bounds 104 = .ok (.iconst 2, 1) := by decide +kernel
theorem dX11_bounds_105 : decode cX11_bounds 105 = .ok (.iload_n 2, 1) := by decide +kernel
theorem dX11_bounds_106 : decode cX11_bounds 106 = .ok (.imul, 1) := by decide +kernel
theorem dX11_bounds_107 : decode cX11_bounds 107 = .ok (.iconst 1, 1) := by decide +kernel
theorem dX11_bounds_108 : decode cX11_bounds 108 = .ok (.iadd, 1) := by decide +kernel
theorem dX11_bounds_109 : decode cX11_bounds 109 = .ok (.imul, 1) := by decide +kernel
theorem dX11_bounds_110 : decode cX11_bounds 110 = .ok (.iload 4, 2) := by decide +kernel
theorem dX11_bounds_112 : decode cX11_bounds 112 = .ok (.imul, 1) := by decide +kernel
theorem dX11_bounds_113 : decode cX11_bounds 113 = .ok (.iconst 1, 1) := by decide +kernel
theorem dX11_bounds_114 : decode cX11_bounds 114 = .ok (.isub, 1) := by decide +kernel
theorem dX11_bounds_115 : decode cX11_bounds 115 = .ok (.ireturn, 1) := by decide +kernel
theorem dX11_code_0 : decode cX11_code 0 = .ok (.iload_n 1, 1) := by decide +kernel
theorem dX11_code_1 : decode cX11_code 1 = .ok (.ifCond .lt 21, 3) := by decide +kernel
theorem dX11_code_4 : decode cX11_code 4 = .ok (.iload_n 1, 1) := by decide +kernel
theorem dX11_code_5 : decode cX11_code 5 = .ok (.bipush 24, 2) := by decide +kernel
theorem dX11_code_7 : decode cX11_code 7 = .ok (.if_icmp .gt 15, 3) := by decide +kernel
theorem dX11_code_10 : decode cX11_code 10 = .ok (.iload_n 2, 1) := by decide +kernel
theorem dX11_code_11 : decode cX11_code 11 = .ok (.bipush (-7), 2) := by decide +kernel
theorem dX11_code_13 : decode cX11_code 13 = .ok (.if_icmp .lt 9, 3) := by decide +kernel
theorem dX11_code_16 : decode cX11_code 16 = .ok (.iload_n 2, 1) := by decide +kernel
theorem dX11_code_17 : decode cX11_code 17 = .ok (.bipush 7, 2) := by decide +kernel
theorem dX11_code_19 : decode cX11_code 19 = .ok (.if_icmp .le 5, 3) := by decide +kernel
theorem dX11_code_22 : decode cX11_code 22 = .ok (.iconst (-1), 1) := by decide +kernel
theorem dX11_code_23 : decode cX11_code 23 = .ok (.ireturn, 1) := by decide +kernel
theorem dX11_code_24 : decode cX11_code 24 = .ok (.iload_n 3, 1) := by decide +kernel
theorem dX11_code_25 : decode cX11_code 25 = .ok (.ifCond .lt 30, 3) := by decide +kernel
theorem dX11_code_28 : decode cX11_code 28 = .ok (.iload_n 3, 1) := by decide +kernel
theorem dX11_code_29 : decode cX11_code 29 = .ok (.iconst 1, 1) := by decide +kernel
theorem dX11_code_30 : decode cX11_code 30 = .ok (.if_icmp .gt 25, 3) := by decide +kernel
theorem dX11_code_33 : decode cX11_code 33 = .ok (.iload 4, 2) := by decide +kernel
theorem dX11_code_35 : decode cX11_code 35 = .ok (.ifCond .lt 20, 3) := by decide +kernel
theorem dX11_code_38 : decode cX11_code 38 = .ok (.iload 4, 2) := by decide +kernel
theorem dX11_code_40 : decode cX11_code 40 = .ok (.iconst 1, 1) := by decide +kernel
theorem dX11_code_41 : decode cX11_code 41 = .ok (.if_icmp .gt 14, 3) := by decide +kernel
theorem dX11_code_44 : decode cX11_code 44 = .ok (.iload 5, 2) := by decide +kernel
theorem dX11_code_46 : decode cX11_code 46 = .ok (.ifCond .lt 9, 3) := by decide +kernel
theorem dX11_code_49 : decode cX11_code 49 = .ok (.iload 5, 2) := by decide +kernel
theorem dX11_code_51 : decode cX11_code 51 = .ok (.iconst 2, 1) := by decide +kernel
theorem dX11_code_52 : decode cX11_code 52 = .ok (.if_icmp .le 5, 3) := by decide +kernel
theorem dX11_code_55 : decode cX11_code 55 = .ok (.iconst (-1), 1) := by decide +kernel
theorem dX11_code_56 : decode cX11_code 56 = .ok (.ireturn, 1) := by decide +kernel
theorem dX11_code_57 : decode cX11_code 57 = .ok (.iload_n 1, 1) := by decide +kernel
theorem dX11_code_58 : decode cX11_code 58 = .ok (.iload_n 2, 1) := by decide +kernel
theorem dX11_code_59 : decode cX11_code 59 = .ok (.iload_n 3, 1) := by decide +kernel
theorem dX11_code_60 : decode cX11_code 60 = .ok (.iconst 2, 1) := by decide +kernel
theorem dX11_code_61 : decode cX11_code 61 = .ok (.imul, 1) := by decide +kernel
theorem dX11_code_62 : decode cX11_code 62 = .ok (.iload 4, 2) := by decide +kernel
theorem dX11_code_64 : decode cX11_code 64 = .ok (.iadd, 1) := by decide +kernel
theorem dX11_code_65 : decode cX11_code 65 = .ok (.iconst 3, 1) := by decide +kernel
theorem dX11_code_66 : decode cX11_code 66 = .ok (.imul, 1) := by decide +kernel
theorem dX11_code_67 : decode cX11_code 67 = .ok (.iload 5, 2) := by decide +kernel
theorem dX11_code_69 : decode cX11_code 69 = .ok (.iadd, 1) := by decide +kernel
theorem dX11_code_70 : decode cX11_code 70 = .ok (.invokestatic 188, 3) := by decide +kernel
theorem dX11_code_73 : decode cX11_code 73 = .ok (.ireturn, 1) := by decide +kernel
theorem dX11_follower_0 : decode cX11_follower 0 = .ok (.iload_n 1, 1) := by decide +kernel
theorem dX11_follower_1 : decode cX11_follower 1 = .ok (.invokestatic 192, 3) := by decide +kernel
theorem dX11_follower_4 : decode cX11_follower 4 = .ok (.ifCond .ne 6, 3) := by decide +kernel
theorem dX11_follower_7 : decode cX11_follower 7 = .ok (.ldc 195, 2) := by decide +kernel
theorem dX11_follower_9 : decode cX11_follower 9 = .ok (.ireturn, 1) := by decide +kernel
theorem dX11_follower_10 : decode cX11_follower 10 = .ok (.aload_n 0, 1) := by decide +kernel
theorem dX11_follower_11 : decode cX11_follower 11 = .ok (.getfield 67, 3) := by decide +kernel
theorem dX11_follower_14 : decode cX11_follower 14 = .ok (.iload_n 1, 1) := by decide +kernel
theorem dX11_follower_15 : decode cX11_follower 15 = .ok (.invokevirtual 196, 3) := by decide +kernel
theorem dX11_follower_18 : decode cX11_follower 18 = .ok (.iload_n 2, 1) := by decide +kernel
theorem dX11_follower_19 : decode cX11_follower 19 = .ok (.tableswitch 125 0 6 #[41, 49, 57, 65, 73, 81, 98], 41) := by decide +kernel
theorem dX11_follower_60 : decode cX11_follower 60 = .ok (.aload_n 0, 1) := by decide +kernel
theorem dX11_follower_61 : decode cX11_follower 61 = .ok (.getfield 67, 3) := by decide +kernel
theorem dX11_follower_64 : decode cX11_follower 64 = .ok (.getfield 199, 3) := by decide +kernel
theorem dX11_follower_67 : decode cX11_follower 67 = .ok (.ireturn, 1) := by decide +kernel
theorem dX11_follower_68 : decode cX11_follower 68 = .ok (.aload_n 0, 1) := by decide +kernel
theorem dX11_follower_69 : decode cX11_follower 69 = .ok (.getfield 67, 3) := by decide +kernel
theorem dX11_follower_72 : decode cX11_follower 72 = .ok (.getfield 202, 3) := by decide +kernel
theorem dX11_follower_75 : decode cX11_follower 75 = .ok (.ireturn, 1) := by decide +kernel
theorem dX11_follower_76 : decode cX11_follower 76 = .ok (.aload_n 0, 1) := by decide +kernel
theorem dX11_follower_77 : decode cX11_follower 77 = .ok (.getfield 67, 3) := by decide +kernel
theorem dX11_follower_80 : decode cX11_follower 80 = .ok (.getfield 205, 3) := by decide +kernel
theorem dX11_follower_83 : decode cX11_follower 83 = .ok (.ireturn, 1) := by decide +kernel
theorem dX11_follower_84 : decode cX11_follower 84 = .ok (.aload_n 0, 1) := by decide +kernel
theorem dX11_follower_85 : decode cX11_follower 85 = .ok (.getfield 67, 3) := by decide +kernel
theorem dX11_follower_88 : decode cX11_follower 88 = .ok (.getfield 208, 3) := by decide +kernel
theorem dX11_follower_91 : decode cX11_follower 91 = .ok (.ireturn, 1) := by decide +kernel
theorem dX11_follower_92 : decode cX11_follower 92 = .ok (.aload_n 0, 1) := by decide +kernel
theorem dX11_follower_93 : decode cX11_follower 93 = .ok (.getfield 67, 3) := by decide +kernel
theorem dX11_follower_96 : decode cX11_follower 96 = .ok (.getfield 211, 3) := by decide +kernel
theorem dX11_follower_99 : decode cX11_follower 99 = .ok (.ireturn, 1) := by decide +kernel
theorem dX11_follower_100 : decode cX11_follower 100 = .ok (.aload_n 0, 1) := by decide +kernel
theorem dX11_follower_101 : decode cX11_follower 101 = .ok (.getfield 19, 3) := by decide +kernel
theorem dX11_follower_104 : decode cX11_follower 104 = .ok (.iload_n 1, 1) := by decide +kernel
theorem dX11_follower_105 : decode cX11_follower 105 = .ok (.invokestatic 214, 3) := by decide +kernel
theorem dX11_follower_108 : decode cX11_follower 108 = .ok (.ifCond .eq 7, 3) := by decide +kernel
theorem dX11_follower_111 : decode cX11_follower 111 = .ok (.iconst 1, 1) := by decide +kernel
theorem dX11_follower_112 : decode cX11_follower 112 = .ok (.goto 4, 3) := by decide +kernel
theorem dX11_follower_115 : decode cX11_follower 115 = .ok (.iconst 0, 1) := by decide +kernel
theorem dX11_follower_116 : decode cX11_follower 116 = .ok (.ireturn, 1) := by decide +kernel
theorem dX11_follower_117 : decode cX11_follower 117 = .ok (.aload_n 0, 1) := by decide +kernel
theorem dX11_follower_118 : decode cX11_follower 118 = .ok (.getfield 19, 3) := by decide +kernel
theorem dX11_follower_121 : decode cX11_follower 121 = .ok (.iload_n 1, 1) := by decide +kernel
theorem dX11_follower_122 : decode cX11_follower 122 = .ok (.invokestatic 214, 3) := by decide +kernel
theorem dX11_follower_125 : decode cX11_follower 125 = .ok (.ifCond .eq 17, 3) := by decide +kernel
theorem dX11_follower_128 : decode cX11_follower 128 = .ok (.aload_n 0, 1) := by decide +kernel
theorem dX11_follower_129 : decode cX11_follower 129 = .ok (.getfield 67, 3) := by decide +kernel
theorem dX11_follower_132 : decode cX11_follower 132 = .ok (.aload_n 0, 1) := by decide +kernel
theorem dX11_follower_133 : decode cX11_follower 133 = .ok (.getfield 19, 3) := by decide +kernel
theorem dX11_follower_136 : decode cX11_follower 136 = .ok (.invokevirtual 218, 3) := by decide +kernel
theorem dX11_follower_139 : decode cX11_follower 139 = .ok (.goto 4, 3) := by decide +kernel
theorem dX11_follower_142 : decode cX11_follower 142 = .ok (.iconst (-1), 1) := by decide +kernel
theorem dX11_follower_143 : decode cX11_follower 143 = .ok (.ireturn, 1) := by decide +kernel
theorem dX11_follower_144 : decode cX11_follower 144 = .ok (.ldc 195, 2) := by decide +kernel
theorem dX11_follower_146 : decode cX11_follower 146 = .ok (.ireturn, 1) := by decide +kernel
theorem dX11_sings_0 : decode cX11_sings 0 = .ok (.iload_n 1, 1) := by decide +kernel
theorem dX11_sings_1 : decode cX11_sings 1 = .ok (.invokestatic 192, 3) := by decide +kernel
theorem dX11_sings_4 : decode cX11_sings 4 = .ok (.ifCond .eq 25, 3) := by decide +kernel
theorem dX11_sings_7 : decode cX11_sings 7 = .ok (.aload_n 0, 1) := by decide +kernel
theorem dX11_sings_8 : decode cX11_sings 8 = .ok (.getfield 19, 3) := by decide +kernel
theorem dX11_sings_11 : decode cX11_sings 11 = .ok (.iload_n 1, 1) := by decide +kernel
theorem dX11_sings_12 : decode cX11_sings 12 = .ok (.invokestatic 214, 3) := by decide +kernel
theorem dX11_sings_15 : decode cX11_sings 15 = .ok (.ifCond .eq 14, 3) := by decide +kernel
theorem dX11_sings_18 : decode cX11_sings 18 = .ok (.iload_n 2, 1) := by decide +kernel
theorem dX11_sings_19 : decode cX11_sings 19 = .ok (.ifCond .lt 10, 3) := by decide +kernel
theorem dX11_sings_22 : decode cX11_sings 22 = .ok (.iload_n 2, 1) := by decide +kernel
theorem dX11_sings_23 : decode cX11_sings 23 = .ok (.sipush 999, 3) := by decide +kernel
theorem dX11_sings_26 : decode cX11_sings 26 = .ok (.if_icmp .le 6, 3) := by decide +kernel
theorem dX11_sings_29 : decode cX11_sings 29 = .ok (.ldc 195, 2) := by decide +kernel
theorem dX11_sings_31 : decode cX11_sings 31 = .ok (.ireturn, 1) := by decide +kernel
theorem dX11_sings_32 : decode cX11_sings 32 = .ok (.aload_n 0, 1) := by decide +kernel
theorem dX11_sings_33 : decode cX11_sings 33 = .ok (.getfield 67, 3) := by decide +kernel
theorem dX11_sings_36 : decode cX11_sings 36 = .ok (.iload_n 1, 1) := by decide +kernel
theorem dX11_sings_37 : decode cX11_sings 37 = .ok (.invokevirtual 196, 3) := by decide +kernel
theorem dX11_sings_40 : decode cX11_sings 40 = .ok (.aload_n 0, 1) := by decide +kernel
theorem dX11_sings_41 : decode cX11_sings 41 = .ok (.getfield 67, 3) := by decide +kernel
theorem dX11_sings_44 : decode cX11_sings 44 = .ok (.aload_n 0, 1) := by decide +kernel
theorem dX11_sings_45 : decode cX11_sings 45 = .ok (.getfield 19, 3) := by decide +kernel
theorem dX11_sings_48 : decode cX11_sings 48 = .ok (.aload_n 0, 1) := by decide +kernel
theorem dX11_sings_49 : decode cX11_sings 49 = .ok (.getfield 67, 3) := by decide +kernel
theorem dX11_sings_52 : decode cX11_sings 52 = .ok (.aload_n 0, 1) := by decide +kernel
theorem dX11_sings_53 : decode cX11_sings 53 = .ok (.getfield 19, 3) := by decide +kernel
theorem dX11_sings_56 : decode cX11_sings 56 = .ok (.iload_n 2, 1) := by decide +kernel
theorem dX11_sings_57 : decode cX11_sings 57 = .ok (.invokevirtual 221, 3) := by decide +kernel
theorem dX11_sings_60 : decode cX11_sings 60 = .ok (.invokevirtual 225, 3) := by decide +kernel
theorem dX11_sings_63 : decode cX11_sings 63 = .ok (.ireturn, 1) := by decide +kernel
theorem dX11_breach_0 : decode cX11_breach 0 = .ok (.iload_n 3, 1) := by decide +kernel
theorem dX11_breach_1 : decode cX11_breach 1 = .ok (.ifCond .lt 17, 3) := by decide +kernel
theorem dX11_breach_4 : decode cX11_breach 4 = .ok (.iload_n 3, 1) := by decide +kernel
theorem dX11_breach_5 : decode cX11_breach 5 = .ok (.iconst 1, 1) := by decide +kernel
theorem dX11_breach_6 : decode cX11_breach 6 = .ok (.if_icmp .gt 12, 3) := by decide +kernel
theorem dX11_breach_9 : decode cX11_breach 9 = .ok (.aload_n 0, 1) := by decide +kernel
theorem dX11_breach_10 : decode cX11_breach 10 = .ok (.iload_n 1, 1) := by decide +kernel
theorem dX11_breach_11 : decode cX11_breach 11 = .ok (.iload_n 2, 1) := by decide +kernel
theorem dX11_breach_12 : decode cX11_breach 12 = .ok (.invokevirtual 228, 3) := by decide +kernel
theorem dX11_breach_15 : decode cX11_breach 15 = .ok (.ifCond .ne 5, 3) := by decide +kernel
theorem dX11_breach_18 : decode cX11_breach 18 = .ok (.iconst (-1), 1) := by decide +kernel
theorem dX11_breach_19 : decode cX11_breach 19 = .ok (.ireturn, 1) := by decide +kernel
theorem dX11_breach_20 : decode cX11_breach 20 = .ok (.aload_n 0, 1) := by decide +kernel
theorem dX11_breach_21 : decode cX11_breach 21 = .ok (.getfield 53, 3) := by decide +kernel
theorem dX11_breach_24 : decode cX11_breach 24 = .ok (.aload_n 0, 1) := by decide +kernel
theorem dX11_breach_25 : decode cX11_breach 25 = .ok (.getfield 60, 3) := by decide +kernel
theorem dX11_breach_28 : decode cX11_breach 28 = .ok (.iconst 0, 1) := by decide +kernel
theorem dX11_breach_29 : decode cX11_breach 29 = .ok (.invokevirtual 232, 3) := by decide +kernel
theorem dX11_breach_32 : decode cX11_breach 32 = .ok (.istore 4, 2) := by decide +kernel
theorem dX11_breach_34 : decode cX11_breach 34 = .ok (.iload 4, 2) := by decide +kernel
theorem dX11_breach_36 : decode cX11_breach 36 = .ok (.iconst (-1), 1) := by decide +kernel
theorem dX11_breach_37 : decode cX11_breach 37 = .ok (.if_icmp .ne 5, 3) := by decide +kernel
theorem dX11_breach_40 : decode cX11_breach 40 = .ok (.iconst (-1), 1) := by decide +kernel
theorem dX11_breach_41 : decode cX11_breach 41 = .ok (.ireturn, 1) := by decide +kernel
theorem dX11_breach_42 : decode cX11_breach 42 = .ok (.iload_n 3, 1) := by decide +kernel
theorem dX11_breach_43 : decode cX11_breach 43 = .ok (.ifCond .ne 15, 3) := by decide +kernel
theorem dX11_breach_46 : decode cX11_breach 46 = .ok (.aload_n 0, 1) := by decide +kernel
theorem dX11_breach_47 : decode cX11_breach 47 = .ok (.getfield 60, 3) := by decide +kernel
theorem dX11_breach_50 : decode cX11_breach 50 = .ok (.iload 4, 2) := by decide +kernel
theorem dX11_breach_52 : decode cX11_breach 52 = .ok (.invokevirtual 236, 3) := by decide +kernel
theorem dX11_breach_55 : decode cX11_breach 55 = .ok (.goto 16, 3) := by decide +kernel
theorem dX11_breach_58 : decode cX11_breach 58 = .ok (.aload_n 0, 1) := by decide +kernel
theorem dX11_breach_59 : decode cX11_breach 59 = .ok (.getfield 53, 3) := by decide +kernel
theorem dX11_breach_62 : decode cX11_breach 62 = .ok (.aload_n 0, 1) := by decide +kernel
theorem dX11_breach_63 : decode cX11_breach 63 = .ok (.getfield 60, 3) := by decide +kernel
theorem dX11_breach_66 : decode cX11_breach 66 = .ok (.iload 4, 2) := by decide +kernel
theorem dX11_breach_68 : decode cX11_breach 68 = .ok (.invokevirtual 239, 3) := by decide +kernel
theorem dX11_breach_71 : decode cX11_breach 71 = .ok (.ireturn, 1) := by decide +kernel
theorem dX11_together_0 : decode cX11_together 0 = .ok (.iload_n 3, 1) := by decide +kernel
theorem dX11_together_1 : decode cX11_together 1 = .ok (.ifCond .lt 17, 3) := by decide +kernel
theorem dX11_together_4 : decode cX11_together 4 = .ok (.iload_n 3, 1) := by decide +kernel
theorem dX11_together_5 : decode cX11_together 5 = .ok (.iconst 2, 1) := by decide +kernel
theorem dX11_together_6 : decode cX11_together 6 = .ok (.if_icmp .gt 12, 3) := by decide +kernel
theorem dX11_together_9 : decode cX11_together 9 = .ok (.aload_n 0, 1) := by decide +kernel
theorem dX11_together_10 : decode cX11_together 10 = .ok (.iload_n 1, 1) := by decide +kernel
theorem dX11_together_11 : decode cX11_together 11 = .ok (.iload_n 2, 1) := by decide +kernel
theorem dX11_together_12 : decode cX11_together 12 = .ok (.invokevirtual 228, 3) := by decide +kernel
theorem dX11_together_15 : decode cX11_together 15 = .ok (.ifCond .ne 5, 3) := by decide +kernel
theorem dX11_together_18 : decode cX11_together 18 = .ok (.iconst (-1), 1) := by decide +kernel
theorem dX11_together_19 : decode cX11_together 19 = .ok (.ireturn, 1) := by decide +kernel
theorem dX11_together_20 : decode cX11_together 20 = .ok (.iload_n 3, 1) := by decide +kernel
theorem dX11_together_21 : decode cX11_together 21 = .ok (.ifCond .ne 11, 3) := by decide +kernel
theorem dX11_together_24 : decode cX11_together 24 = .ok (.aload_n 0, 1) := by decide +kernel
theorem dX11_together_25 : decode cX11_together 25 = .ok (.getfield 60, 3) := by decide +kernel
theorem dX11_together_28 : decode cX11_together 28 = .ok (.getfield 242, 3) := by decide +kernel
theorem dX11_together_31 : decode cX11_together 31 = .ok (.ireturn, 1) := by decide +kernel
theorem dX11_together_32 : decode cX11_together 32 = .ok (.iload_n 3, 1) := by decide +kernel
theorem dX11_together_33 : decode cX11_together 33 = .ok (.iconst 1, 1) := by decide +kernel
theorem dX11_together_34 : decode cX11_together 34 = .ok (.if_icmp .ne 17, 3) := by decide +kernel
theorem dX11_together_37 : decode cX11_together 37 = .ok (.aload_n 0, 1) := by decide +kernel
theorem dX11_together_38 : decode cX11_together 38 = .ok (.getfield 53, 3) := by decide +kernel
theorem dX11_together_41 : decode cX11_together 41 = .ok (.aload_n 0, 1) := by decide +kernel
theorem dX11_together_42 : decode cX11_together 42 = .ok (.getfield 60, 3) := by decide +kernel
theorem dX11_together_45 : decode cX11_together 45 = .ok (.invokevirtual 245, 3) := by decide +kernel
theorem dX11_together_48 : decode cX11_together 48 = .ok (.goto 10, 3) := by decide +kernel
theorem dX11_together_51 : decode cX11_together 51 = .ok (.aload_n 0, 1) := by decide +kernel
theorem dX11_together_52 : decode cX11_together 52 = .ok (.getfield 60, 3) := by decide +kernel
theorem dX11_together_55 : decode cX11_together 55 = .ok (.getfield 249, 3) := by decide +kernel
theorem dX11_together_58 : decode cX11_together 58 = .ok (.ireturn, 1) := by decide +kernel
theorem dX11_broken_0 : decode cX11_broken 0 = .ok (.iload_n 3, 1) := by decide +kernel
theorem dX11_broken_1 : decode cX11_broken 1 = .ok (.ifCond .lt 18, 3) := by decide +kernel
theorem dX11_broken_4 : decode cX11_broken 4 = .ok (.iload_n 3, 1) := by decide +kernel
theorem dX11_broken_5 : decode cX11_broken 5 = .ok (.bipush 48, 2) := by decide +kernel
theorem dX11_broken_7 : decode cX11_broken 7 = .ok (.if_icmp .ge 12, 3) := by decide +kernel
theorem dX11_broken_10 : decode cX11_broken 10 = .ok (.aload_n 0, 1) := by decide +kernel
theorem dX11_broken_11 : decode cX11_broken 11 = .ok (.iload_n 1, 1) := by decide +kernel
theorem dX11_broken_12 : decode cX11_broken 12 = .ok (.iload_n 2, 1) := by decide +kernel
theorem dX11_broken_13 : decode cX11_broken 13 = .ok (.invokevirtual 228, 3) := by decide +kernel
theorem dX11_broken_16 : decode cX11_broken 16 = .ok (.ifCond .ne 5, 3) := by decide +kernel
theorem dX11_broken_19 : decode cX11_broken 19 = .ok (.iconst (-1), 1) := by decide +kernel
theorem dX11_broken_20 : decode cX11_broken 20 = .ok (.ireturn, 1) := by decide +kernel
theorem dX11_broken_21 : decode cX11_broken 21 = .ok (.aload_n 0, 1) := by decide +kernel
theorem dX11_broken_22 : decode cX11_broken 22 = .ok (.getfield 53, 3) := by decide +kernel
theorem dX11_broken_25 : decode cX11_broken 25 = .ok (.aload_n 0, 1) := by decide +kernel
theorem dX11_broken_26 : decode cX11_broken 26 = .ok (.getfield 60, 3) := by decide +kernel
theorem dX11_broken_29 : decode cX11_broken 29 = .ok (.iconst 0, 1) := by decide +kernel
theorem dX11_broken_30 : decode cX11_broken 30 = .ok (.invokevirtual 232, 3) := by decide +kernel
theorem dX11_broken_33 : decode cX11_broken 33 = .ok (.istore 4, 2) := by decide +kernel
theorem dX11_broken_35 : decode cX11_broken 35 = .ok (.iconst 0, 1) := by decide +kernel
theorem dX11_broken_36 : decode cX11_broken 36 = .ok (.istore 5, 2) := by decide +kernel
theorem dX11_broken_38 : decode cX11_broken 38 = .ok (.iload 5, 2) := by decide +kernel
theorem dX11_broken_40 : decode cX11_broken 40 = .ok (.iload_n 3, 1) := by decide +kernel
theorem dX11_broken_41 : decode cX11_broken 41 = .ok (.if_icmp .ge 32, 3) := by decide +kernel
theorem dX11_broken_44 : decode cX11_broken 44 = .ok (.iload 4, 2) := by decide +kernel
theorem dX11_broken_46 : decode cX11_broken 46 = .ok (.iconst (-1), 1) := by decide +kernel
theorem dX11_broken_47 : decode cX11_broken 47 = .ok (.if_icmp .eq 26, 3) := by decide +kernel
theorem dX11_broken_50 : decode cX11_broken 50 = .ok (.aload_n 0, 1) := by decide +kernel
theorem dX11_broken_51 : decode cX11_broken 51 = .ok (.getfield 53, 3) := by decide +kernel
theorem dX11_broken_54 : decode cX11_broken 54 = .ok (.aload_n 0, 1) := by decide +kernel
theorem dX11_broken_55 : decode cX11_broken 55 = .ok (.getfield 60, 3) := by decide +kernel
theorem dX11_broken_58 : decode cX11_broken 58 = .ok (.iload 4, 2) := by decide +kernel
theorem dX11_broken_60 : decode cX11_broken 60 = .ok (.iconst 1, 1) := by decide +kernel
theorem dX11_broken_61 : decode cX11_broken 61 = .ok (.iadd, 1) := by decide +kernel
theorem dX11_broken_62 : decode cX11_broken 62 = .ok (.invokevirtual 232, 3) := by decide +kernel
theorem dX11_broken_65 : decode cX11_broken 65 = .ok (.istore 4, 2) := by decide +kernel
theorem dX11_broken_67 : decode cX11_broken 67 = .ok (.iinc 5 1, 3) := by decide +kernel
theorem dX11_broken_70 : decode cX11_broken 70 = .ok (.goto (-32), 3) := by decide +kernel
theorem dX11_broken_73 : decode cX11_broken 73 = .ok (.iload 4, 2) := by decide +kernel
theorem dX11_broken_75 : decode cX11_broken 75 = .ok (.iconst (-1), 1) := by decide +kernel
theorem dX11_broken_76 : decode cX11_broken 76 = .ok (.if_icmp .ne 7, 3) := by decide +kernel
theorem dX11_broken_79 : decode cX11_broken 79 = .ok (.iconst (-1), 1) := by decide +kernel
theorem dX11_broken_80 : decode cX11_broken 80 = .ok (.goto 29, 3) := by decide +kernel
theorem dX11_broken_83 : decode cX11_broken 83 = .ok (.bipush 100, 2) := by decide +kernel
theorem dX11_broken_85 : decode cX11_broken 85 = .ok (.aload_n 0, 1) := by decide +kernel
theorem dX11_broken_86 : decode cX11_broken 86 = .ok (.getfield 60, 3) := by decide +kernel
theorem dX11_broken_89 : decode cX11_broken 89 = .ok (.iload 4, 2) := by decide +kernel
theorem dX11_broken_91 : decode cX11_broken 91 = .ok (.invokevirtual 236, 3) := by decide +kernel
theorem dX11_broken_94 : decode cX11_broken 94 = .ok (.imul, 1) := by decide +kernel
theorem dX11_broken_95 : decode cX11_broken 95 = .ok (.aload_n 0, 1) := by decide +kernel
theorem dX11_broken_96 : decode cX11_broken 96 = .ok (.getfield 53, 3) := by decide +kernel
theorem dX11_broken_99 : decode cX11_broken 99 = .ok (.aload_n 0, 1) := by decide +kernel
theorem dX11_broken_100 : decode cX11_broken 100 = .ok (.getfield 60, 3) := by decide +kernel
theorem dX11_broken_103 : decode cX11_broken 103 = .ok (.iload 4, 2) := by decide +kernel
theorem dX11_broken_105 : decode cX11_broken 105 = .ok (.invokevirtual 239, 3) := by decide +kernel
theorem dX11_broken_108 : decode cX11_broken 108 = .ok (.iadd, 1) := by decide +kernel
theorem dX11_broken_109 : decode cX11_broken 109 = .ok (.ireturn, 1) := by decide +kernel
theorem dX11_span_0 : decode cX11_span 0 = .ok (.iload_n 1, 1) := by decide +kernel
theorem dX11_span_1 : decode cX11_span 1 = .ok (.invokestatic 192, 3) := by decide +kernel
theorem dX11_span_4 : decode cX11_span 4 = .ok (.ifCond .eq 14, 3) := by decide +kernel
theorem dX11_span_7 : decode cX11_span 7 = .ok (.aload_n 0, 1) := by decide +kernel
theorem dX11_span_8 : decode cX11_span 8 = .ok (.getfield 19, 3) := by decide +kernel
theorem dX11_span_11 : decode cX11_span 11 = .ok (.iload_n 1, 1) := by decide +kernel
theorem dX11_span_12 : decode cX11_span 12 = .ok (.invokestatic 214, 3) := by decide +kernel
theorem dX11_span_15 : decode cX11_span 15 = .ok (.ifCond .ne 6, 3) := by decide +kernel
theorem dX11_span_18 : decode cX11_span 18 = .ok (.ldc 195, 2) := by decide +kernel
theorem dX11_span_20 : decode cX11_span 20 = .ok (.ireturn, 1) := by decide +kernel
theorem dX11_span_21 : decode cX11_span 21 = .ok (.aload_n 0, 1) := by decide +kernel
theorem dX11_span_22 : decode cX11_span 22 = .ok (.getfield 67, 3) := by decide +kernel
theorem dX11_span_25 : decode cX11_span 25 = .ok (.iload_n 1, 1) := by decide +kernel
theorem dX11_span_26 : decode cX11_span 26 = .ok (.invokevirtual 196, 3) := by decide +kernel
theorem dX11_span_29 : decode cX11_span 29 = .ok (.ldc 195, 2) := by decide +kernel
theorem dX11_span_31 : decode cX11_span 31 = .ok (.istore_n 3, 1) := by decide +kernel
theorem dX11_span_32 : decode cX11_span 32 = .ok (.iconst 0, 1) := by decide +kernel
theorem dX11_span_33 : decode cX11_span 33 = .ok (.istore 4, 2) := by decide +kernel
theorem dX11_span_35 : decode cX11_span 35 = .ok (.iload 4, 2) := by decide +kernel
theorem dX11_span_37 : decode cX11_span 37 = .ok (.aload_n 0, 1) := by decide +kernel
theorem dX11_span_38 : decode cX11_span 38 = .ok (.getfield 19, 3) := by decide +kernel
theorem dX11_span_41 : decode cX11_span 41 = .ok (.getfield 140, 3) := by decide +kernel
theorem dX11_span_44 : decode cX11_span 44 = .ok (.if_icmp .ge 59, 3) := by decide +kernel
theorem dX11_span_47 : decode cX11_span 47 = .ok (.aload_n 0, 1) := by decide +kernel
theorem dX11_span_48 : decode cX11_span 48 = .ok (.getfield 67, 3) := by decide +kernel
theorem dX11_span_51 : decode cX11_span 51 = .ok (.aload_n 0, 1) := by decide +kernel
theorem dX11_span_52 : decode cX11_span 52 = .ok (.getfield 19, 3) := by decide +kernel
theorem dX11_span_55 : decode cX11_span 55 = .ok (.iload 4, 2) := by decide +kernel
theorem dX11_span_57 : decode cX11_span 57 = .ok (.invokevirtual 225, 3) := by decide +kernel
theorem dX11_span_60 : decode cX11_span 60 = .ok (.istore 5, 2) := by decide +kernel
theorem dX11_span_62 : decode cX11_span 62 = .ok (.iload 5, 2) := by decide +kernel
theorem dX11_span_64 : decode cX11_span 64 = .ok (.ldc 195, 2) := by decide +kernel
theorem dX11_span_66 : decode cX11_span 66 = .ok (.if_icmp .eq 31, 3) := by decide +kernel
theorem dX11_span_69 : decode cX11_span 69 = .ok (.iload_n 3, 1) := by decide +kernel
theorem dX11_span_70 : decode cX11_span 70 = .ok (.ldc 195, 2) := by decide +kernel
theorem dX11_span_72 : decode cX11_span 72 = .ok (.if_icmp .eq 22, 3) := by decide +kernel
theorem dX11_span_75 : decode cX11_span 75 = .ok (.iload_n 2, 1) := by decide +kernel
theorem dX11_span_76 : decode cX11_span 76 = .ok (.ifCond .eq 12, 3) := by decide +kernel
theorem dX11_span_79 : decode cX11_span 79 = .ok (.iload 5, 2) := by decide +kernel
theorem dX11_span_81 : decode cX11_span 81 = .ok (.iload_n 3, 1) := by decide +kernel
theorem dX11_span_82 : decode cX11_span 82 = .ok (.if_icmp .le 15, 3) := by decide +kernel
theorem dX11_span_85 : decode cX11_span 85 = .ok (.goto 9, 3) := by decide +kernel
theorem dX11_span_88 : decode cX11_span 88 = .ok (.iload 5, 2) := by decide +kernel
theorem dX11_span_90 : decode cX11_span 90 = .ok (.iload_n 3, 1) := by decide +kernel
theorem dX11_span_91 : decode cX11_span 91 = .ok (.if_icmp .ge 6, 3) := by decide +kernel
theorem dX11_span_94 : decode cX11_span 94 = .ok (.iload 5, 2) := by decide +kernel
theorem dX11_span_96 : decode cX11_span 96 = .ok (.istore_n 3, 1) := by decide +kernel
theorem dX11_span_97 : decode cX11_span 97 = .ok (.iinc 4 1, 3) := by decide +kernel
theorem dX11_span_100 : decode cX11_span 100 = .ok (.goto (-65), 3) := by decide +kernel
theorem dX11_span_103 : decode cX11_span 103 = .ok (.iload_n 3, 1) := by decide +kernel
theorem dX11_span_104 : decode cX11_span 104 = .ok (.ireturn, 1) := by decide +kernel
theorem dX11_ways_0 : decode cX11_ways 0 = .ok (.aload_n 0, 1) := by decide +kernel
theorem dX11_ways_1 : decode cX11_ways 1 = .ok (.iload_n 1, 1) := by decide +kernel
theorem dX11_ways_2 : decode cX11_ways 2 = .ok (.invokevirtual 252, 3) := by decide +kernel
theorem dX11_ways_5 : decode cX11_ways 5 = .ok (.aload_n 0, 1) := by decide +kernel
theorem dX11_ways_6 : decode cX11_ways 6 = .ok (.iload_n 1, 1) := by decide +kernel
theorem dX11_ways_7 : decode cX11_ways 7 = .ok (.invokevirtual 255, 3) := by decide +kernel
theorem dX11_ways_10 : decode cX11_ways 10 = .ok (.ireturn, 1) := by decide +kernel
theorem dX11_way_0 : decode cX11_way 0 = .ok (.aload_n 0, 1) := by decide +kernel
theorem dX11_way_1 : decode cX11_way 1 = .ok (.iload_n 1, 1) := by decide +kernel
theorem dX11_way_2 : decode cX11_way 2 = .ok (.invokevirtual 252, 3) := by decide +kernel
theorem dX11_way_5 : decode cX11_way 5 = .ok (.aload_n 0, 1) := by decide +kernel
theorem dX11_way_6 : decode cX11_way 6 = .ok (.getfield 74, 3) := by decide +kernel
theorem dX11_way_9 : decode cX11_way 9 = .ok (.aload_n 0, 1) := by decide +kernel
theorem dX11_way_10 : decode cX11_way 10 = .ok (.iload_n 1, 1) := by decide +kernel
theorem dX11_way_11 : decode cX11_way 11 = .ok (.iload_n 2, 1) := by decide +kernel
theorem dX11_way_12 : decode cX11_way 12 = .ok (.iload_n 3, 1) := by decide +kernel
theorem dX11_way_13 : decode cX11_way 13 = .ok (.invokevirtual 258, 3) := by decide +kernel
theorem dX11_way_16 : decode cX11_way 16 = .ok (.invokevirtual 261, 3) := by decide +kernel
theorem dX11_way_19 : decode cX11_way 19 = .ok (.ireturn, 1) := by decide +kernel
theorem dX11_signs_0 : decode cX11_signs 0 = .ok (.aload_n 0, 1) := by decide +kernel
theorem dX11_signs_1 : decode cX11_signs 1 = .ok (.iconst 2, 1) := by decide +kernel
theorem dX11_signs_2 : decode cX11_signs 2 = .ok (.invokevirtual 252, 3) := by decide +kernel
theorem dX11_signs_5 : decode cX11_signs 5 = .ok (.aload_n 0, 1) := by decide +kernel
theorem dX11_signs_6 : decode cX11_signs 6 = .ok (.getfield 74, 3) := by decide +kernel
theorem dX11_signs_9 : decode cX11_signs 9 = .ok (.iload_n 1, 1) := by decide +kernel
theorem dX11_signs_10 : decode cX11_signs 10 = .ok (.invokevirtual 263, 3) := by decide +kernel
theorem dX11_signs_13 : decode cX11_signs 13 = .ok (.ireturn, 1) := by decide +kernel
theorem dX11_like_0 : decode cX11_like 0 = .ok (.aload_n 0, 1) := by decide +kernel
theorem dX11_like_1 : decode cX11_like 1 = .ok (.iconst 2, 1) := by decide +kernel
theorem dX11_like_2 : decode cX11_like 2 = .ok (.invokevirtual 252, 3) := by decide +kernel
theorem dX11_like_5 : decode cX11_like 5 = .ok (.aload_n 0, 1) := by decide +kernel
theorem dX11_like_6 : decode cX11_like 6 = .ok (.getfield 74, 3) := by decide +kernel
theorem dX11_like_9 : decode cX11_like 9 = .ok (.iload_n 1, 1) := by decide +kernel
theorem dX11_like_10 : decode cX11_like 10 = .ok (.iload_n 2, 1) := by decide +kernel
theorem dX11_like_11 : decode cX11_like 11 = .ok (.invokevirtual 266, 3) := by decide +kernel
theorem dX11_like_14 : decode cX11_like 14 = .ok (.ireturn, 1) := by decide +kernel
theorem dX11_means_0 : decode cX11_means 0 = .ok (.iload_n 1, 1) := by decide +kernel
theorem dX11_means_1 : decode cX11_means 1 = .ok (.ifCond .lt 19, 3) := by decide +kernel
theorem dX11_means_4 : decode cX11_means 4 = .ok (.iload_n 1, 1) := by decide +kernel
theorem dX11_means_5 : decode cX11_means 5 = .ok (.aload_n 0, 1) := by decide +kernel
theorem dX11_means_6 : decode cX11_means 6 = .ok (.getfield 32, 3) := by decide +kernel
theorem dX11_means_9 : decode cX11_means 9 = .ok (.getfield 153, 3) := by decide +kernel
theorem dX11_means_12 : decode cX11_means 12 = .ok (.if_icmp .ge 8, 3) := by decide +kernel
theorem dX11_means_15 : decode cX11_means 15 = .ok (.iload_n 2, 1) := by decide +kernel
theorem dX11_means_16 : decode cX11_means 16 = .ok (.iconst (-1), 1) := by decide +kernel
theorem dX11_means_17 : decode cX11_means 17 = .ok (.if_icmp .ge 5, 3) := by decide +kernel
theorem dX11_means_20 : decode cX11_means 20 = .ok (.iconst (-1), 1) := by decide +kernel
theorem dX11_means_21 : decode cX11_means 21 = .ok (.ireturn, 1) := by decide +kernel
theorem dX11_means_22 : decode cX11_means 22 = .ok (.aload_n 0, 1) := by decide +kernel
theorem dX11_means_23 : decode cX11_means 23 = .ok (.iconst 2, 1) := by decide +kernel
theorem dX11_means_24 : decode cX11_means 24 = .ok (.invokevirtual 252, 3) := by decide +kernel
theorem dX11_means_27 : decode cX11_means 27 = .ok (.iload_n 2, 1) := by decide +kernel
theorem dX11_means_28 : decode cX11_means 28 = .ok (.iconst (-1), 1) := by decide +kernel
theorem dX11_means_29 : decode cX11_means 29 = .ok (.if_icmp .ne 16, 3) := by decide +kernel
theorem dX11_means_32 : decode cX11_means 32 = .ok (.aload_n 0, 1) := by decide +kernel
theorem dX11_means_33 : decode cX11_means 33 = .ok (.getfield 74, 3) := by decide +kernel
theorem dX11_means_36 : decode cX11_means 36 = .ok (.iconst 1, 1) := by decide +kernel
theorem dX11_means_37 : decode cX11_means 37 = .ok (.iload_n 1, 1) := by decide +kernel
theorem dX11_means_38 : decode cX11_means 38 = .ok (.ishl, 1) := by decide +kernel
theorem dX11_means_39 : decode cX11_means 39 = .ok (.invokevirtual 269, 3) := by decide +kernel
theorem dX11_means_42 : decode cX11_means 42 = .ok (.goto 14, 3) := by decide +kernel
theorem dX11_means_45 : decode cX11_means 45 = .ok (.aload_n 0, 1) := by decide +kernel
theorem dX11_means_46 : decode cX11_means 46 = .ok (.getfield 74, 3) := by decide +kernel
theorem dX11_means_49 : decode cX11_means 49 = .ok (.iconst 1, 1) := by decide +kernel
theorem dX11_means_50 : decode cX11_means 50 = .ok (.iload_n 1, 1) := by decide +kernel
theorem dX11_means_51 : decode cX11_means 51 = .ok (.ishl, 1) := by decide +kernel
theorem dX11_means_52 : decode cX11_means 52 = .ok (.iload_n 2, 1) := by decide +kernel
theorem dX11_means_53 : decode cX11_means 53 = .ok (.invokevirtual 272, 3) := by decide +kernel
theorem dX11_means_56 : decode cX11_means 56 = .ok (.ireturn, 1) := by decide +kernel
theorem dX11_mean_0 : decode cX11_mean 0 = .ok (.iload_n 1, 1) := by decide +kernel
theorem dX11_mean_1 : decode cX11_mean 1 = .ok (.ifCond .lt 16, 3) := by decide +kernel
theorem dX11_mean_4 : decode cX11_mean 4 = .ok (.iload_n 1, 1) := by decide +kernel
theorem dX11_mean_5 : decode cX11_mean 5 = .ok (.iconst 1, 1) := by decide +kernel
theorem dX11_mean_6 : decode cX11_mean 6 = .ok (.aload_n 0, 1) := by decide +kernel
theorem dX11_mean_7 : decode cX11_mean 7 = .ok (.getfield 32, 3) := by decide +kernel
theorem dX11_mean_10 : decode cX11_mean 10 = .ok (.getfield 153, 3) := by decide +kernel
theorem dX11_mean_13 : decode cX11_mean 13 = .ok (.ishl, 1) := by decide +kernel
theorem dX11_mean_14 : decode cX11_mean 14 = .ok (.if_icmp .lt 5, 3) := by decide +kernel
theorem dX11_mean_17 : decode cX11_mean 17 = .ok (.iconst (-1), 1) := by decide +kernel
theorem dX11_mean_18 : decode cX11_mean 18 = .ok (.ireturn, 1) := by decide +kernel
theorem dX11_mean_19 : decode cX11_mean 19 = .ok (.aload_n 0, 1) := by decide +kernel
theorem dX11_mean_20 : decode cX11_mean 20 = .ok (.iconst 2, 1) := by decide +kernel
theorem dX11_mean_21 : decode cX11_mean 21 = .ok (.invokevirtual 252, 3) := by decide +kernel
theorem dX11_mean_24 : decode cX11_mean 24 = .ok (.aload_n 0, 1) := by decide +kernel
theorem dX11_mean_25 : decode cX11_mean 25 = .ok (.getfield 74, 3) := by decide +kernel
theorem dX11_mean_28 : decode cX11_mean 28 = .ok (.iload_n 1, 1) := by decide +kernel
theorem dX11_mean_29 : decode cX11_mean 29 = .ok (.invokevirtual 269, 3) := by decide +kernel
theorem dX11_mean_32 : decode cX11_mean 32 = .ok (.ireturn, 1) := by decide +kernel
theorem dX11_mottos_0 : decode cX11_mottos 0 = .ok (.aload_n 0, 1) := by decide +kernel
theorem dX11_mottos_1 : decode cX11_mottos 1 = .ok (.iconst 2, 1) := by decide +kernel
theorem dX11_mottos_2 : decode cX11_mottos 2 = .ok (.invokevirtual 252, 3) := by decide +kernel
theorem dX11_mottos_5 : decode cX11_mottos 5 = .ok (.aload_n 0, 1) := by decide +kernel
theorem dX11_mottos_6 : decode cX11_mottos 6 = .ok (.getfield 74, 3) := by decide +kernel
theorem dX11_mottos_9 : decode cX11_mottos 9 = .ok (.iload_n 1, 1) := by decide +kernel
theorem dX11_mottos_10 : decode cX11_mottos 10 = .ok (.invokevirtual 275, 3) := by decide +kernel
theorem dX11_mottos_13 : decode cX11_mottos 13 = .ok (.ireturn, 1) := by decide +kernel
theorem dX11_common_0 : decode cX11_common 0 = .ok (.aload_n 0, 1) := by decide +kernel
theorem dX11_common_1 : decode cX11_common 1 = .ok (.iconst 2, 1) := by decide +kernel
theorem dX11_common_2 : decode cX11_common 2 = .ok (.invokevirtual 252, 3) := by decide +kernel
theorem dX11_common_5 : decode cX11_common 5 = .ok (.iload_n 1, 1) := by decide +kernel
theorem dX11_common_6 : decode cX11_common 6 = .ok (.ifCond .lt 18, 3) := by decide +kernel
theorem dX11_common_9 : decode cX11_common 9 = .ok (.iload_n 1, 1) := by decide +kernel
theorem dX11_common_10 : decode cX11_common 10 = .ok (.iconst 3, 1) := by decide +kernel
theorem dX11_common_11 : decode cX11_common 11 = .ok (.if_icmp .gt 13, 3) := by decide +kernel
theorem dX11_common_14 : decode cX11_common 14 = .ok (.aload_n 0, 1) := by decide +kernel
theorem dX11_common_15 : decode cX11_common 15 = .ok (.getfield 74, 3) := by decide +kernel
theorem dX11_common_18 : decode cX11_common 18 = .ok (.getfield 278, 3) := by decide +kernel
theorem dX11_common_21 : decode cX11_common 21 = .ok (.ifCond .ne 6, 3) := by decide +kernel
theorem dX11_common_24 : decode cX11_common 24 = .ok (.ldc 195, 2) := by decide +kernel
theorem dX11_common_26 : decode cX11_common 26 = .ok (.ireturn, 1) := by decide +kernel
theorem dX11_common_27 : decode cX11_common 27 = .ok (.aload_n 0, 1) := by decide +kernel
theorem dX11_common_28 : decode cX11_common 28 = .ok (.getfield 74, 3) := by decide +kernel
theorem dX11_common_31 : decode cX11_common 31 = .ok (.iload_n 1, 1) := by decide +kernel
theorem dX11_common_32 : decode cX11_common 32 = .ok (.iconst 2, 1) := by decide +kernel
theorem dX11_common_33 : decode cX11_common 33 = .ok (.irem, 1) := by decide +kernel
theorem dX11_common_34 : decode cX11_common 34 = .ok (.ifCond .ne 7, 3) := by decide +kernel
theorem dX11_common_37 : decode cX11_common 37 = .ok (.iconst 1, 1) := by decide +kernel
theorem dX11_common_38 : decode cX11_common 38 = .ok (.goto 4, 3) := by decide +kernel
theorem dX11_common_41 : decode cX11_common 41 = .ok (.iconst 0, 1) := by decide +kernel
theorem dX11_common_42 : decode cX11_common 42 = .ok (.iload_n 1, 1) := by decide +kernel
theorem dX11_common_43 : decode cX11_common 43 = .ok (.iconst 2, 1) := by decide +kernel
theorem dX11_common_44 : decode cX11_common 44 = .ok (.if_icmp .lt 7, 3) := by decide +kernel
theorem dX11_common_47 : decode cX11_common 47 = .ok (.iconst 1, 1) := by decide +kernel
theorem dX11_common_48 : decode cX11_common 48 = .ok (.goto 4, 3) := by decide +kernel
theorem dX11_common_51 : decode cX11_common 51 = .ok (.iconst 0, 1) := by decide +kernel
theorem dX11_common_52 : decode cX11_common 52 = .ok (.invokevirtual 279, 3) := by decide +kernel
theorem dX11_common_55 : decode cX11_common 55 = .ok (.ireturn, 1) := by decide +kernel
theorem dX11_over_0 : decode cX11_over 0 = .ok (.aload_n 0, 1) := by decide +kernel
theorem dX11_over_1 : decode cX11_over 1 = .ok (.iload_n 1, 1) := by decide +kernel
theorem dX11_over_2 : decode cX11_over 2 = .ok (.invokevirtual 252, 3) := by decide +kernel
theorem dX11_over_5 : decode cX11_over 5 = .ok (.iload_n 2, 1) := by decide +kernel
theorem dX11_over_6 : decode cX11_over 6 = .ok (.ifCond .lt 12, 3) := by decide +kernel
theorem dX11_over_9 : decode cX11_over 9 = .ok (.iload_n 2, 1) := by decide +kernel
theorem dX11_over_10 : decode cX11_over 10 = .ok (.aload_n 0, 1) := by decide +kernel
theorem dX11_over_11 : decode cX11_over 11 = .ok (.iload_n 1, 1) := by decide +kernel
theorem dX11_over_12 : decode cX11_over 12 = .ok (.invokevirtual 255, 3) := by decide +kernel
theorem dX11_over_15 : decode cX11_over 15 = .ok (.if_icmp .lt 5, 3) := by decide +kernel
theorem dX11_over_18 : decode cX11_over 18 = .ok (.iconst (-1), 1) := by decide +kernel
theorem dX11_over_19 : decode cX11_over 19 = .ok (.ireturn, 1) := by decide +kernel
theorem dX11_over_20 : decode cX11_over 20 = .ok (.aload_n 0, 1) := by decide +kernel
theorem dX11_over_21 : decode cX11_over 21 = .ok (.getfield 19, 3) := by decide +kernel
theorem dX11_over_24 : decode cX11_over 24 = .ok (.getfield 147, 3) := by decide +kernel
theorem dX11_over_27 : decode cX11_over 27 = .ok (.istore_n 3, 1) := by decide +kernel
theorem dX11_over_28 : decode cX11_over 28 = .ok (.iconst 0, 1) := by decide +kernel
theorem dX11_over_29 : decode cX11_over 29 = .ok (.istore 4, 2) := by decide +kernel
theorem dX11_over_31 : decode cX11_over 31 = .ok (.iload 4, 2) := by decide +kernel
theorem dX11_over_33 : decode cX11_over 33 = .ok (.iload_n 1, 1) := by decide +kernel
theorem dX11_over_34 : decode cX11_over 34 = .ok (.iconst 1, 1) := by decide +kernel
theorem dX11_over_35 : decode cX11_over 35 = .ok (.isub, 1) := by decide +kernel
theorem dX11_over_36 : decode cX11_over 36 = .ok (.if_icmp .ge 47, 3) := by decide +kernel
theorem dX11_over_39 : decode cX11_over 39 = .ok (.aload_n 0, 1) := by decide +kernel
theorem dX11_over_40 : decode cX11_over 40 = .ok (.getfield 67, 3) := by decide +kernel
theorem dX11_over_43 : decode cX11_over 43 = .ok (.aload_n 0, 1) := by decide +kernel
theorem dX11_over_44 : decode cX11_over 44 = .ok (.getfield 74, 3) := by decide +kernel
theorem dX11_over_47 : decode cX11_over 47 = .ok (.aload_n 0, 1) := by decide +kernel
theorem dX11_over_48 : decode cX11_over 48 = .ok (.iload_n 1, 1) := by decide +kernel
theorem dX11_over_49 : decode cX11_over 49 = .ok (.iload_n 2, 1) := by decide +kernel
theorem dX11_over_50 : decode cX11_over 50 = .ok (.iload 4, 2) := by decide +kernel
theorem dX11_over_52 : decode cX11_over 52 = .ok (.invokevirtual 258, 3) := by decide +kernel
theorem dX11_over_55 : decode cX11_over 55 = .ok (.invokevirtual 261, 3) := by decide +kernel
theorem dX11_over_58 : decode cX11_over 58 = .ok (.invokevirtual 196, 3) := by decide +kernel
theorem dX11_over_61 : decode cX11_over 61 = .ok (.iload_n 3, 1) := by decide +kernel
theorem dX11_over_62 : decode cX11_over 62 = .ok (.aload_n 0, 1) := by decide +kernel
theorem dX11_over_63 : decode cX11_over 63 = .ok (.getfield 67, 3) := by decide +kernel
theorem dX11_over_66 : decode cX11_over 66 = .ok (.aload_n 0, 1) := by decide +kernel
theorem dX11_over_67 : decode cX11_over 67 = .ok (.getfield 19, 3) := by decide +kernel
theorem dX11_over_70 : decode cX11_over 70 = .ok (.invokevirtual 218, 3) := by decide +kernel
theorem dX11_over_73 : decode cX11_over 73 = .ok (.invokestatic 283, 3) := by decide +kernel
theorem dX11_over_76 : decode cX11_over 76 = .ok (.istore_n 3, 1) := by decide +kernel
theorem dX11_over_77 : decode cX11_over 77 = .ok (.iinc 4 1, 3) := by decide +kernel
theorem dX11_over_80 : decode cX11_over 80 = .ok (.goto (-49), 3) := by decide +kernel
theorem dX11_over_83 : decode cX11_over 83 = .ok (.iload_n 3, 1) := by decide +kernel
theorem dX11_over_84 : decode cX11_over 84 = .ok (.ireturn, 1) := by decide +kernel
theorem dX11_alike_0 : decode cX11_alike 0 = .ok (.aload_n 0, 1) := by decide +kernel
theorem dX11_alike_1 : decode cX11_alike 1 = .ok (.iconst 2, 1) := by decide +kernel
theorem dX11_alike_2 : decode cX11_alike 2 = .ok (.invokevirtual 252, 3) := by decide +kernel
theorem dX11_alike_5 : decode cX11_alike 5 = .ok (.aload_n 0, 1) := by decide +kernel
theorem dX11_alike_6 : decode cX11_alike 6 = .ok (.invokevirtual 288, 3) := by decide +kernel
theorem dX11_alike_9 : decode cX11_alike 9 = .ok (.aload_n 0, 1) := by decide +kernel
theorem dX11_alike_10 : decode cX11_alike 10 = .ok (.getfield 88, 3) := by decide +kernel
theorem dX11_alike_13 : decode cX11_alike 13 = .ok (.iload_n 1, 1) := by decide +kernel
theorem dX11_alike_14 : decode cX11_alike 14 = .ok (.invokevirtual 291, 3) := by decide +kernel
theorem dX11_alike_17 : decode cX11_alike 17 = .ok (.ireturn, 1) := by decide +kernel
theorem dX11_unlike_0 : decode cX11_unlike 0 = .ok (.aload_n 0, 1) := by decide +kernel
theorem dX11_unlike_1 : decode cX11_unlike 1 = .ok (.iconst 2, 1) := by decide +kernel
theorem dX11_unlike_2 : decode cX11_unlike 2 = .ok (.invokevirtual 252, 3) := by decide +kernel
theorem dX11_unlike_5 : decode cX11_unlike 5 = .ok (.aload_n 0, 1) := by decide +kernel
theorem dX11_unlike_6 : decode cX11_unlike 6 = .ok (.invokevirtual 288, 3) := by decide +kernel
theorem dX11_unlike_9 : decode cX11_unlike 9 = .ok (.aload_n 0, 1) := by decide +kernel
theorem dX11_unlike_10 : decode cX11_unlike 10 = .ok (.getfield 88, 3) := by decide +kernel
theorem dX11_unlike_13 : decode cX11_unlike 13 = .ok (.getfield 294, 3) := by decide +kernel
theorem dX11_unlike_16 : decode cX11_unlike 16 = .ok (.ireturn, 1) := by decide +kernel
theorem dX11_rule_0 : decode cX11_rule 0 = .ok (.iload_n 1, 1) := by decide +kernel
theorem dX11_rule_1 : decode cX11_rule 1 = .ok (.ifCond .lt 14, 3) := by decide +kernel
theorem dX11_rule_4 : decode cX11_rule 4 = .ok (.iload_n 1, 1) := by decide +kernel
theorem dX11_rule_5 : decode cX11_rule 5 = .ok (.aload_n 0, 1) := by decide +kernel
theorem dX11_rule_6 : decode cX11_rule 6 = .ok (.getfield 32, 3) := by decide +kernel
theorem dX11_rule_9 : decode cX11_rule 9 = .ok (.getfield 150, 3) := by decide +kernel
theorem dX11_rule_12 : decode cX11_rule 12 = .ok (.if_icmp .lt 5, 3) := by decide +kernel
theorem dX11_rule_15 : decode cX11_rule 15 = .ok (.iconst (-1), 1) := by decide +kernel
theorem dX11_rule_16 : decode cX11_rule 16 = .ok (.ireturn, 1) := by decide +kernel
theorem dX11_rule_17 : decode cX11_rule 17 = .ok (.aload_n 0, 1) := by decide +kernel
theorem dX11_rule_18 : decode cX11_rule 18 = .ok (.iconst 2, 1) := by decide +kernel
theorem dX11_rule_19 : decode cX11_rule 19 = .ok (.invokevirtual 252, 3) := by decide +kernel
theorem dX11_rule_22 : decode cX11_rule 22 = .ok (.iload_n 2, 1) := by decide +kernel
theorem dX11_rule_23 : decode cX11_rule 23 = .ok (.ifCond .eq 14, 3) := by decide +kernel
theorem dX11_rule_26 : decode cX11_rule 26 = .ok (.aload_n 0, 1) := by decide +kernel
theorem dX11_rule_27 : decode cX11_rule 27 = .ok (.getfield 74, 3) := by decide +kernel
theorem dX11_rule_30 : decode cX11_rule 30 = .ok (.iload_n 1, 1) := by decide +kernel
theorem dX11_rule_31 : decode cX11_rule 31 = .ok (.invokevirtual 297, 3) := by decide +kernel
theorem dX11_rule_34 : decode cX11_rule 34 = .ok (.goto 11, 3) := by decide +kernel
theorem dX11_rule_37 : decode cX11_rule 37 = .ok (.aload_n 0, 1) := by decide +kernel
theorem dX11_rule_38 : decode cX11_rule 38 = .ok (.getfield 74, 3) := by decide +kernel
theorem dX11_rule_41 : decode cX11_rule 41 = .ok (.iload_n 1, 1) := by decide +kernel
theorem dX11_rule_42 : decode cX11_rule 42 = .ok (.invokevirtual 300, 3) := by decide +kernel
theorem dX11_rule_45 : decode cX11_rule 45 = .ok (.ireturn, 1) := by decide +kernel
theorem dX11_meant_0 : decode cX11_meant 0 = .ok (.iload_n 1, 1) := by decide +kernel
theorem dX11_meant_1 : decode cX11_meant 1 = .ok (.iconst 2, 1) := by decide +kernel
theorem dX11_meant_2 : decode cX11_meant 2 = .ok (.if_icmp .lt 23, 3) := by decide +kernel
theorem dX11_meant_5 : decode cX11_meant 5 = .ok (.iload_n 1, 1) := by decide +kernel
theorem dX11_meant_6 : decode cX11_meant 6 = .ok (.iconst 4, 1) := by decide +kernel
theorem dX11_meant_7 : decode cX11_meant 7 = .ok (.if_icmp .gt 18, 3) := by decide +kernel
theorem dX11_meant_10 : decode cX11_meant 10 = .ok (.iload_n 2, 1) := by decide +kernel
theorem dX11_meant_11 : decode cX11_meant 11 = .ok (.ifCond .lt 14, 3) := by decide +kernel
theorem dX11_meant_14 : decode cX11_meant 14 = .ok (.iload_n 2, 1) := by decide +kernel
theorem dX11_meant_15 : decode cX11_meant 15 = .ok (.aload_n 0, 1) := by decide +kernel
theorem dX11_meant_16 : decode cX11_meant 16 = .ok (.getfield 32, 3) := by decide +kernel
theorem dX11_meant_19 : decode cX11_meant 19 = .ok (.getfield 153, 3) := by decide +kernel
theorem dX11_meant_22 : decode cX11_meant 22 = .ok (.if_icmp .lt 5, 3) := by decide +kernel
theorem dX11_meant_25 : decode cX11_meant 25 = .ok (.iconst (-1), 1) := by decide +kernel
theorem dX11_meant_26 : decode cX11_meant 26 = .ok (.ireturn, 1) := by decide +kernel
theorem dX11_meant_27 : decode cX11_meant 27 = .ok (.aload_n 0, 1) := by decide +kernel
theorem dX11_meant_28 : decode cX11_meant 28 = .ok (.iload_n 1, 1) := by decide +kernel
theorem dX11_meant_29 : decode cX11_meant 29 = .ok (.invokevirtual 252, 3) := by decide +kernel
theorem dX11_meant_32 : decode cX11_meant 32 = .ok (.iconst 0, 1) := by decide +kernel
theorem dX11_meant_33 : decode cX11_meant 33 = .ok (.istore_n 3, 1) := by decide +kernel
theorem dX11_meant_34 : decode cX11_meant 34 = .ok (.iconst 0, 1) := by decide +kernel
theorem dX11_meant_35 : decode cX11_meant 35 = .ok (.istore 4, 2) := by decide +kernel
theorem dX11_meant_37 : decode cX11_meant 37 = .ok (.iload 4, 2) := by decide +kernel
theorem dX11_meant_39 : decode cX11_meant 39 = .ok (.aload_n 0, 1) := by decide +kernel
theorem dX11_meant_40 : decode cX11_meant 40 = .ok (.iload_n 1, 1) := by decide +kernel
theorem dX11_meant_41 : decode cX11_meant 41 = .ok (.invokevirtual 255, 3) := by decide +kernel
theorem dX11_meant_44 : decode cX11_meant 44 = .ok (.if_icmp .ge 68, 3) := by decide +kernel
theorem dX11_meant_47 : decode cX11_meant 47 = .ok (.iconst 1, 1) := by decide +kernel
theorem dX11_meant_48 : decode cX11_meant 48 = .ok (.istore 5, 2) := by decide +kernel
theorem dX11_meant_50 : decode cX11_meant 50 = .ok (.iconst 0, 1) := by decide +kernel
theorem dX11_meant_51 : decode cX11_meant 51 = .ok (.istore 6, 2) := by decide +kernel
theorem dX11_meant_53 : decode cX11_meant 53 = .ok (.iload 6, 2) := by decide +kernel
theorem dX11_meant_55 : decode cX11_meant 55 = .ok (.iload_n 1, 1) := by decide +kernel
theorem dX11_meant_56 : decode cX11_meant 56 = .ok (.iconst 1, 1) := by decide +kernel
theorem dX11_meant_57 : decode cX11_meant 57 = .ok (.isub, 1) := by decide +kernel
theorem dX11_meant_58 : decode cX11_meant 58 = .ok (.if_icmp .ge 35, 3) := by decide +kernel
theorem dX11_meant_61 : decode cX11_meant 61 = .ok (.iload 5, 2) := by decide +kernel
theorem dX11_meant_63 : decode cX11_meant 63 = .ok (.ifCond .eq 30, 3) := by decide +kernel
theorem dX11_meant_66 : decode cX11_meant 66 = .ok (.aload_n 0, 1) := by decide +kernel
theorem dX11_meant_67 : decode cX11_meant 67 = .ok (.getfield 74, 3) := by decide +kernel
theorem dX11_meant_70 : decode cX11_meant 70 = .ok (.aload_n 0, 1) := by decide +kernel
theorem dX11_meant_71 : decode cX11_meant 71 = .ok (.iload_n 1, 1) := by decide +kernel
theorem dX11_meant_72 : decode cX11_meant 72 = .ok (.iload 4, 2) := by decide +kernel
theorem dX11_meant_74 : decode cX11_meant 74 = .ok (.iload 6, 2) := by decide +kernel
theorem dX11_meant_76 : decode cX11_meant 76 = .ok (.invokevirtual 258, 3) := by decide +kernel
theorem dX11_meant_79 : decode cX11_meant 79 = .ok (.iconst 1, 1) := by decide +kernel
theorem dX11_meant_80 : decode cX11_meant 80 = .ok (.iload_n 2, 1) := by decide +kernel
theorem dX11_meant_81 : decode cX11_meant 81 = .ok (.ishl, 1) := by decide +kernel
theorem dX11_meant_82 : decode cX11_meant 82 = .ok (.invokevirtual 302, 3) := by decide +kernel
theorem dX11_meant_85 : decode cX11_meant 85 = .ok (.istore 5, 2) := by decide +kernel
theorem dX11_meant_87 : decode cX11_meant 87 = .ok (.iinc 6 1, 3) := by decide +kernel
theorem dX11_meant_90 : decode cX11_meant 90 = .ok (.goto (-37), 3) := by decide +kernel
theorem dX11_meant_93 : decode cX11_meant 93 = .ok (.iload_n 3, 1) := by decide +kernel
theorem dX11_meant_94 : decode cX11_meant 94 = .ok (.iload 5, 2) := by decide +kernel
theorem dX11_meant_96 : decode cX11_meant 96 = .ok (.ifCond .eq 7, 3) := by decide +kernel
theorem dX11_meant_99 : decode cX11_meant 99 = .ok (.iconst 1, 1) := by decide +kernel
theorem dX11_meant_100 : decode cX11_meant 100 = .ok (.goto 4, 3) := by decide +kernel
theorem dX11_meant_103 : decode cX11_meant 103 = .ok (.iconst 0, 1) := by decide +kernel
theorem dX11_meant_104 : decode cX11_meant 104 = .ok (.iadd, 1) := by decide +kernel
theorem dX11_meant_105 : decode cX11_meant 105 = .ok (.istore_n 3, 1) := by decide +kernel
theorem dX11_meant_106 : decode cX11_meant 106 = .ok (.iinc 4 1, 3) := by decide +kernel
theorem dX11_meant_109 : decode cX11_meant 109 = .ok (.goto (-72), 3) := by decide +kernel
theorem dX11_meant_112 : decode cX11_meant 112 = .ok (.iload_n 3, 1) := by decide +kernel
theorem dX11_meant_113 : decode cX11_meant 113 = .ok (.ireturn, 1) := by decide +kernel
theorem dX11_round_0 : decode cX11_round 0 = .ok (.iload_n 1, 1) := by decide +kernel
theorem dX11_round_1 : decode cX11_round 1 = .ok (.invokestatic 305, 3) := by decide +kernel
theorem dX11_round_4 : decode cX11_round 4 = .ok (.ifCond .eq 19, 3) := by decide +kernel
theorem dX11_round_7 : decode cX11_round 7 = .ok (.iload_n 1, 1) := by decide +kernel
theorem dX11_round_8 : decode cX11_round 8 = .ok (.iconst 3, 1) := by decide +kernel
theorem dX11_round_9 : decode cX11_round 9 = .ok (.irem, 1) := by decide +kernel
theorem dX11_round_10 : decode cX11_round 10 = .ok (.ifCond .ne 13, 3) := by decide +kernel
theorem dX11_round_13 : decode cX11_round 13 = .ok (.aload_n 0, 1) := by decide +kernel
theorem dX11_round_14 : decode cX11_round 14 = .ok (.getfield 19, 3) := by decide +kernel
theorem dX11_round_17 : decode cX11_round 17 = .ok (.getfield 147, 3) := by decide +kernel
theorem dX11_round_20 : decode cX11_round 20 = .ok (.ifCond .ne 5, 3) := by decide +kernel
theorem dX11_round_23 : decode cX11_round 23 = .ok (.iconst (-1), 1) := by decide +kernel
theorem dX11_round_24 : decode cX11_round 24 = .ok (.ireturn, 1) := by decide +kernel
theorem dX11_round_25 : decode cX11_round 25 = .ok (.aload_n 0, 1) := by decide +kernel
theorem dX11_round_26 : decode cX11_round 26 = .ok (.getfield 60, 3) := by decide +kernel
