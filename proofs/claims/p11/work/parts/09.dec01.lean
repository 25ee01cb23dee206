theorem dX5_readLine_36 : decode cX5_readLine 36 = .ok (.iinc 2 1, 3) := by decide +kernel
theorem dX5_readLine_39 : decode cX5_readLine 39 = .ok (.goto (-29), 3) := by decide +kernel
theorem dX5_readLine_42 : decode cX5_readLine 42 = .ok (.aload_n 0, 1) := by decide +kernel
theorem dX5_readLine_43 : decode cX5_readLine 43 = .ok (.bipush 24, 2) := by decide +kernel
theorem dX5_readLine_45 : decode cX5_readLine 45 = .ok (.invokevirtual 51, 3) := by decide +kernel
theorem dX5_readLine_48 : decode cX5_readLine 48 = .ok (.ireturn, 1) := by decide +kernel
theorem dX5_readBook_0 : decode cX5_readBook 0 = .ok (.aload_n 0, 1) := by decide +kernel
theorem dX5_readBook_1 : decode cX5_readBook 1 = .ok (.invokevirtual 35, 3) := by decide +kernel
theorem dX5_readBook_4 : decode cX5_readBook 4 = .ok (.aload_n 0, 1) := by decide +kernel
theorem dX5_readBook_5 : decode cX5_readBook 5 = .ok (.aload_n 1, 1) := by decide +kernel
theorem dX5_readBook_6 : decode cX5_readBook 6 = .ok (.putfield 19, 3) := by decide +kernel
theorem dX5_readBook_9 : decode cX5_readBook 9 = .ok (.aload_n 0, 1) := by decide +kernel
theorem dX5_readBook_10 : decode cX5_readBook 10 = .ok (.getfield 19, 3) := by decide +kernel
theorem dX5_readBook_13 : decode cX5_readBook 13 = .ok (.invokevirtual 55, 3) := by decide +kernel
theorem dX5_readBook_16 : decode cX5_readBook 16 = .ok (.iconst 0, 1) := by decide +kernel
theorem dX5_readBook_17 : decode cX5_readBook 17 = .ok (.istore_n 2, 1) := by decide +kernel
theorem dX5_readBook_18 : decode cX5_readBook 18 = .ok (.iload_n 2, 1) := by decide +kernel
theorem dX5_readBook_19 : decode cX5_readBook 19 = .ok (.bipush 60, 2) := by decide +kernel
theorem dX5_readBook_21 : decode cX5_readBook 21 = .ok (.if_icmp .ge 28, 3) := by decide +kernel
theorem dX5_readBook_24 : decode cX5_readBook 24 = .ok (.aload_n 0, 1) := by decide +kernel
theorem dX5_readBook_25 : decode cX5_readBook 25 = .ok (.invokevirtual 43, 3) := by decide +kernel
theorem dX5_readBook_28 : decode cX5_readBook 28 = .ok (.iconst (-1), 1) := by decide +kernel
theorem dX5_readBook_29 : decode cX5_readBook 29 = .ok (.if_icmp .ne 5, 3) := by decide +kernel
theorem dX5_readBook_32 : decode cX5_readBook 32 = .ok (.iload_n 2, 1) := by decide +kernel
theorem dX5_readBook_33 : decode cX5_readBook 33 = .ok (.ireturn, 1) := by decide +kernel
theorem dX5_readBook_34 : decode cX5_readBook 34 = .ok (.aload_n 0, 1) := by decide +kernel
theorem dX5_readBook_35 : decode cX5_readBook 35 = .ok (.invokevirtual 58, 3) := by decide +kernel
theorem dX5_readBook_38 : decode cX5_readBook 38 = .ok (.ifCond .ne 5, 3) := by decide +kernel
theorem dX5_readBook_41 : decode cX5_readBook 41 = .ok (.iconst (-1), 1) := by decide +kernel
theorem dX5_readBook_42 : decode cX5_readBook 42 = .ok (.ireturn, 1) := by decide +kernel
theorem dX5_readBook_43 : decode cX5_readBook 43 = .ok (.iinc 2 1, 3) := by decide +kernel
theorem dX5_readBook_46 : decode cX5_readBook 46 = .ok (.goto (-28), 3) := by decide +kernel
theorem dX5_readBook_49 : decode cX5_readBook 49 = .ok (.aload_n 0, 1) := by decide +kernel
theorem dX5_readBook_50 : decode cX5_readBook 50 = .ok (.bipush 60, 2) := by decide +kernel
theorem dX5_readBook_52 : decode cX5_readBook 52 = .ok (.invokevirtual 51, 3) := by decide +kernel
theorem dX5_readBook_55 : decode cX5_readBook 55 = .ok (.ireturn, 1) := by decide +kernel
theorem dX5_closing_0 : decode cX5_closing 0 = .ok (.aload_n 0, 1) := by decide +kernel
theorem dX5_closing_1 : decode cX5_closing 1 = .ok (.invokevirtual 43, 3) := by decide +kernel
theorem dX5_closing_4 : decode cX5_closing 4 = .ok (.iconst (-1), 1) := by decide +kernel
theorem dX5_closing_5 : decode cX5_closing 5 = .ok (.if_icmp .ne 5, 3) := by decide +kernel
theorem dX5_closing_8 : decode cX5_closing 8 = .ok (.iload_n 1, 1) := by decide +kernel
theorem dX5_closing_9 : decode cX5_closing 9 = .ok (.ireturn, 1) := by decide +kernel
theorem dX5_closing_10 : decode cX5_closing 10 = .ok (.aload_n 0, 1) := by decide +kernel
theorem dX5_closing_11 : decode cX5_closing 11 = .ok (.iconst 5, 1) := by decide +kernel
theorem dX5_closing_12 : decode cX5_closing 12 = .ok (.aload_n 0, 1) := by decide +kernel
theorem dX5_closing_13 : decode cX5_closing 13 = .ok (.getfield 23, 3) := by decide +kernel
theorem dX5_closing_16 : decode cX5_closing 16 = .ok (.invokevirtual 62, 3) := by decide +kernel
theorem dX5_closing_19 : decode cX5_closing 19 = .ok (.pop, 1) := by decide +kernel
theorem dX5_closing_20 : decode cX5_closing 20 = .ok (.iconst (-1), 1) := by decide +kernel
theorem dX5_closing_21 : decode cX5_closing 21 = .ok (.ireturn, 1) := by decide +kernel
theorem dX5_noteStatement_0 : decode cX5_noteStatement 0 = .ok (.iconst (-1), 1) := by decide +kernel
theorem dX5_noteStatement_1 : decode cX5_noteStatement 1 = .ok (.istore_n 2, 1) := by decide +kernel
theorem dX5_noteStatement_2 : decode cX5_noteStatement 2 = .ok (.aload_n 0, 1) := by decide +kernel
theorem dX5_noteStatement_3 : decode cX5_noteStatement 3 = .ok (.iconst 0, 1) := by decide +kernel
theorem dX5_noteStatement_4 : decode cX5_noteStatement 4 = .ok (.invokevirtual 66, 3) := by decide +kernel
theorem dX5_noteStatement_7 : decode cX5_noteStatement 7 = .ok (.ifCond .eq 18, 3) := by decide +kernel
theorem dX5_noteStatement_10 : decode cX5_noteStatement 10 = .ok (.aload_n 0, 1) := by decide +kernel
theorem dX5_noteStatement_11 : decode cX5_noteStatement 11 = .ok (.iconst 0, 1) := by decide +kernel
theorem dX5_noteStatement_12 : decode cX5_noteStatement 12 = .ok (.bipush 28, 2) := by decide +kernel
theorem dX5_noteStatement_14 : decode cX5_noteStatement 14 = .ok (.invokevirtual 70, 3) := by decide +kernel
theorem dX5_noteStatement_17 : decode cX5_noteStatement 17 = .ok (.istore_n 2, 1) := by decide +kernel
theorem dX5_noteStatement_18 : decode cX5_noteStatement 18 = .ok (.iload_n 2, 1) := by decide +kernel
theorem dX5_noteStatement_19 : decode cX5_noteStatement 19 = .ok (.iconst (-1), 1) := by decide +kernel
theorem dX5_noteStatement_20 : decode cX5_noteStatement 20 = .ok (.if_icmp .ne 15, 3) := by decide +kernel
theorem dX5_noteStatement_23 : decode cX5_noteStatement 23 = .ok (.iconst 0, 1) := by decide +kernel
theorem dX5_noteStatement_24 : decode cX5_noteStatement 24 = .ok (.ireturn, 1) := by decide +kernel
theorem dX5_noteStatement_25 : decode cX5_noteStatement 25 = .ok (.aload_n 0, 1) := by decide +kernel
theorem dX5_noteStatement_26 : decode cX5_noteStatement 26 = .ok (.iconst 2, 1) := by decide +kernel
theorem dX5_noteStatement_27 : decode cX5_noteStatement 27 = .ok (.invokevirtual 74, 3) := by decide +kernel
theorem dX5_noteStatement_30 : decode cX5_noteStatement 30 = .ok (.ifCond .ne 5, 3) := by decide +kernel
theorem dX5_noteStatement_33 : decode cX5_noteStatement 33 = .ok (.iconst 0, 1) := by decide +kernel
theorem dX5_noteStatement_34 : decode cX5_noteStatement 34 = .ok (.ireturn, 1) := by decide +kernel
theorem dX5_noteStatement_35 : decode cX5_noteStatement 35 = .ok (.aload_n 0, 1) := by decide +kernel
theorem dX5_noteStatement_36 : decode cX5_noteStatement 36 = .ok (.iconst 1, 1) := by decide +kernel
theorem dX5_noteStatement_37 : decode cX5_noteStatement 37 = .ok (.invokevirtual 74, 3) := by decide +kernel
theorem dX5_noteStatement_40 : decode cX5_noteStatement 40 = .ok (.ifCond .ne 5, 3) := by decide +kernel
theorem dX5_noteStatement_43 : decode cX5_noteStatement 43 = .ok (.iconst 0, 1) := by decide +kernel
theorem dX5_noteStatement_44 : decode cX5_noteStatement 44 = .ok (.ireturn, 1) := by decide +kernel
theorem dX5_noteStatement_45 : decode cX5_noteStatement 45 = .ok (.aload_n 0, 1) := by decide +kernel
theorem dX5_noteStatement_46 : decode cX5_noteStatement 46 = .ok (.iconst 1, 1) := by decide +kernel
theorem dX5_noteStatement_47 : decode cX5_noteStatement 47 = .ok (.bipush 16, 2) := by decide +kernel
theorem dX5_noteStatement_49 : decode cX5_noteStatement 49 = .ok (.bipush 96, 2) := by decide +kernel
theorem dX5_noteStatement_51 : decode cX5_noteStatement 51 = .ok (.aload_n 1, 1) := by decide +kernel
theorem dX5_noteStatement_52 : decode cX5_noteStatement 52 = .ok (.getfield 77, 3) := by decide +kernel
theorem dX5_noteStatement_55 : decode cX5_noteStatement 55 = .ok (.isub, 1) := by decide +kernel
theorem dX5_noteStatement_56 : decode cX5_noteStatement 56 = .ok (.invokestatic 80, 3) := by decide +kernel
theorem dX5_noteStatement_59 : decode cX5_noteStatement 59 = .ok (.invokevirtual 70, 3) := by decide +kernel
theorem dX5_noteStatement_62 : decode cX5_noteStatement 62 = .ok (.istore_n 3, 1) := by decide +kernel
theorem dX5_noteStatement_63 : decode cX5_noteStatement 63 = .ok (.iload_n 3, 1) := by decide +kernel
theorem dX5_noteStatement_64 : decode cX5_noteStatement 64 = .ok (.iconst (-1), 1) := by decide +kernel
theorem dX5_noteStatement_65 : decode cX5_noteStatement 65 = .ok (.if_icmp .eq 25, 3) := by decide +kernel
theorem dX5_noteStatement_68 : decode cX5_noteStatement 68 = .ok (.aload_n 1, 1) := by decide +kernel
theorem dX5_noteStatement_69 : decode cX5_noteStatement 69 = .ok (.iload_n 2, 1) := by decide +kernel
theorem dX5_noteStatement_70 : decode cX5_noteStatement 70 = .ok (.iload_n 3, 1) := by decide +kernel
theorem dX5_noteStatement_71 : decode cX5_noteStatement 71 = .ok (.invokevirtual 85, 3) := by decide +kernel
theorem dX5_noteStatement_74 : decode cX5_noteStatement 74 = .ok (.ifCond .eq 16, 3) := by decide +kernel
theorem dX5_noteStatement_77 : decode cX5_noteStatement 77 = .ok (.aload_n 0, 1) := by decide +kernel
theorem dX5_noteStatement_78 : decode cX5_noteStatement 78 = .ok (.bipush 59, 2) := by decide +kernel
theorem dX5_noteStatement_80 : decode cX5_noteStatement 80 = .ok (.invokevirtual 88, 3) := by decide +kernel
theorem dX5_noteStatement_83 : decode cX5_noteStatement 83 = .ok (.ifCond .eq 7, 3) := by decide +kernel
theorem dX5_noteStatement_86 : decode cX5_noteStatement 86 = .ok (.iconst 1, 1) := by decide +kernel
theorem dX5_noteStatement_87 : decode cX5_noteStatement 87 = .ok (.goto 4, 3) := by decide +kernel
theorem dX5_noteStatement_90 : decode cX5_noteStatement 90 = .ok (.iconst 0, 1) := by decide +kernel
theorem dX5_noteStatement_91 : decode cX5_noteStatement 91 = .ok (.ireturn, 1) := by decide +kernel
theorem dX5_bookStatement_0 : decode cX5_bookStatement 0 = .ok (.aload_n 0, 1) := by decide +kernel
theorem dX5_bookStatement_1 : decode cX5_bookStatement 1 = .ok (.invokevirtual 91, 3) := by decide +kernel
theorem dX5_bookStatement_4 : decode cX5_bookStatement 4 = .ok (.istore_n 1, 1) := by decide +kernel
theorem dX5_bookStatement_5 : decode cX5_bookStatement 5 = .ok (.iload_n 1, 1) := by decide +kernel
theorem dX5_bookStatement_6 : decode cX5_bookStatement 6 = .ok (.iconst 3, 1) := by decide +kernel
theorem dX5_bookStatement_7 : decode cX5_bookStatement 7 = .ok (.if_icmp .eq 23, 3) := by decide +kernel
theorem dX5_bookStatement_10 : decode cX5_bookStatement 10 = .ok (.iload_n 1, 1) := by decide +kernel
theorem dX5_bookStatement_11 : decode cX5_bookStatement 11 = .ok (.iconst 4, 1) := by decide +kernel
theorem dX5_bookStatement_12 : decode cX5_bookStatement 12 = .ok (.if_icmp .eq 18, 3) := by decide +kernel
theorem dX5_bookStatement_15 : decode cX5_bookStatement 15 = .ok (.iload_n 1, 1) := by decide +kernel
theorem dX5_bookStatement_16 : decode cX5_bookStatement 16 = .ok (.iconst 5, 1) := by decide +kernel
theorem dX5_bookStatement_17 : decode cX5_bookStatement 17 = .ok (.if_icmp .eq 13, 3) := by decide +kernel
theorem dX5_bookStatement_20 : decode cX5_bookStatement 20 = .ok (.aload_n 0, 1) := by decide +kernel
theorem dX5_bookStatement_21 : decode cX5_bookStatement 21 = .ok (.iconst 1, 1) := by decide +kernel
theorem dX5_bookStatement_22 : decode cX5_bookStatement 22 = .ok (.aload_n 0, 1) := by decide +kernel
theorem dX5_bookStatement_23 : decode cX5_bookStatement 23 = .ok (.getfield 23, 3) := by decide +kernel
theorem dX5_bookStatement_26 : decode cX5_bookStatement 26 = .ok (.invokevirtual 62, 3) := by decide +kernel
theorem dX5_bookStatement_29 : decode cX5_bookStatement 29 = .ok (.ireturn, 1) := by decide +kernel
theorem dX5_bookStatement_30 : decode cX5_bookStatement 30 = .ok (.iload_n 1, 1) := by decide +kernel
theorem dX5_bookStatement_31 : decode cX5_bookStatement 31 = .ok (.iconst 4, 1) := by decide +kernel
theorem dX5_bookStatement_32 : decode cX5_bookStatement 32 = .ok (.if_icmp .ne 15, 3) := by decide +kernel
theorem dX5_bookStatement_35 : decode cX5_bookStatement 35 = .ok (.aload_n 0, 1) := by decide +kernel
theorem dX5_bookStatement_36 : decode cX5_bookStatement 36 = .ok (.getfield 19, 3) := by decide +kernel
theorem dX5_bookStatement_39 : decode cX5_bookStatement 39 = .ok (.getfield 94, 3) := by decide +kernel
theorem dX5_bookStatement_42 : decode cX5_bookStatement 42 = .ok (.bipush 12, 2) := by decide +kernel
theorem dX5_bookStatement_44 : decode cX5_bookStatement 44 = .ok (.if_icmp .ge 20, 3) := by decide +kernel
theorem dX5_bookStatement_47 : decode cX5_bookStatement 47 = .ok (.iload_n 1, 1) := by decide +kernel
theorem dX5_bookStatement_48 : decode cX5_bookStatement 48 = .ok (.iconst 5, 1) := by decide +kernel
theorem dX5_bookStatement_49 : decode cX5_bookStatement 49 = .ok (.if_icmp .ne 25, 3) := by decide +kernel
theorem dX5_bookStatement_52 : decode cX5_bookStatement 52 = .ok (.aload_n 0, 1) := by decide +kernel
theorem dX5_bookStatement_53 : decode cX5_bookStatement 53 = .ok (.getfield 19, 3) := by decide +kernel
theorem dX5_bookStatement_56 : decode cX5_bookStatement 56 = .ok (.getfield 97, 3) := by decide +kernel
theorem dX5_bookStatement_59 : decode cX5_bookStatement 59 = .ok (.bipush 6, 2) := by decide +kernel
theorem dX5_bookStatement_61 : decode cX5_bookStatement 61 = .ok (.if_icmp .lt 13, 3) := by decide +kernel
theorem dX5_bookStatement_64 : decode cX5_bookStatement 64 = .ok (.aload_n 0, 1) := by decide +kernel
theorem dX5_bookStatement_65 : decode cX5_bookStatement 65 = .ok (.iconst 5, 1) := by decide +kernel
theorem dX5_bookStatement_66 : decode cX5_bookStatement 66 = .ok (.aload_n 0, 1) := by decide +kernel
theorem dX5_bookStatement_67 : decode cX5_bookStatement 67 = .ok (.getfield 23, 3) := by decide +kernel
theorem dX5_bookStatement_70 : decode cX5_bookStatement 70 = .ok (.invokevirtual 62, 3) := by decide +kernel
theorem dX5_bookStatement_73 : decode cX5_bookStatement 73 = .ok (.ireturn, 1) := by decide +kernel
theorem dX5_bookStatement_74 : decode cX5_bookStatement 74 = .ok (.aload_n 0, 1) := by decide +kernel
theorem dX5_bookStatement_75 : decode cX5_bookStatement 75 = .ok (.invokevirtual 100, 3) := by decide +kernel
theorem dX5_bookStatement_78 : decode cX5_bookStatement 78 = .ok (.iload_n 1, 1) := by decide +kernel
theorem dX5_bookStatement_79 : decode cX5_bookStatement 79 = .ok (.iconst 3, 1) := by decide +kernel
theorem dX5_bookStatement_80 : decode cX5_bookStatement 80 = .ok (.if_icmp .ne 25, 3) := by decide +kernel
theorem dX5_bookStatement_83 : decode cX5_bookStatement 83 = .ok (.aload_n 0, 1) := by decide +kernel
theorem dX5_bookStatement_84 : decode cX5_bookStatement 84 = .ok (.invokevirtual 103, 3) := by decide +kernel
theorem dX5_bookStatement_87 : decode cX5_bookStatement 87 = .ok (.ifCond .eq 16, 3) := by decide +kernel
theorem dX5_bookStatement_90 : decode cX5_bookStatement 90 = .ok (.aload_n 0, 1) := by decide +kernel
theorem dX5_bookStatement_91 : decode cX5_bookStatement 91 = .ok (.bipush 59, 2) := by decide +kernel
theorem dX5_bookStatement_93 : decode cX5_bookStatement 93 = .ok (.invokevirtual 88, 3) := by decide +kernel
theorem dX5_bookStatement_96 : decode cX5_bookStatement 96 = .ok (.ifCond .eq 7, 3) := by decide +kernel
theorem dX5_bookStatement_99 : decode cX5_bookStatement 99 = .ok (.iconst 1, 1) := by decide +kernel
theorem dX5_bookStatement_100 : decode cX5_bookStatement 100 = .ok (.goto 4, 3) := by decide +kernel
theorem dX5_bookStatement_103 : decode cX5_bookStatement 103 = .ok (.iconst 0, 1) := by decide +kernel
theorem dX5_bookStatement_104 : decode cX5_bookStatement 104 = .ok (.ireturn, 1) := by decide +kernel
theorem dX5_bookStatement_105 : decode cX5_bookStatement 105 = .ok (.aload_n 0, 1) := by decide +kernel
theorem dX5_bookStatement_106 : decode cX5_bookStatement 106 = .ok (.getfield 19, 3) := by decide +kernel
theorem dX5_bookStatement_109 : decode cX5_bookStatement 109 = .ok (.getfield 106, 3) := by decide +kernel
theorem dX5_bookStatement_112 : decode cX5_bookStatement 112 = .ok (.istore_n 2, 1) := by decide +kernel
theorem dX5_bookStatement_113 : decode cX5_bookStatement 113 = .ok (.aload_n 0, 1) := by decide +kernel
theorem dX5_bookStatement_114 : decode cX5_bookStatement 114 = .ok (.iload_n 1, 1) := by decide +kernel
theorem dX5_bookStatement_115 : decode cX5_bookStatement 115 = .ok (.iconst 5, 1) := by decide +kernel
theorem dX5_bookStatement_116 : decode cX5_bookStatement 116 = .ok (.if_icmp .ne 8, 3) := by decide +kernel
theorem dX5_bookStatement_119 : decode cX5_bookStatement 119 = .ok (.bipush 19, 2) := by decide +kernel
theorem dX5_bookStatement_121 : decode cX5_bookStatement 121 = .ok (.goto 5, 3) := by decide +kernel
theorem dX5_bookStatement_124 : decode cX5_bookStatement 124 = .ok (.bipush 11, 2) := by decide +kernel
theorem dX5_bookStatement_126 : decode cX5_bookStatement 126 = .ok (.putfield 109, 3) := by decide +kernel
theorem dX5_bookStatement_129 : decode cX5_bookStatement 129 = .ok (.aload_n 0, 1) := by decide +kernel
theorem dX5_bookStatement_130 : decode cX5_bookStatement 130 = .ok (.iload_n 1, 1) := by decide +kernel
theorem dX5_bookStatement_131 : decode cX5_bookStatement 131 = .ok (.iconst 5, 1) := by decide +kernel
theorem dX5_bookStatement_132 : decode cX5_bookStatement 132 = .ok (.if_icmp .ne 8, 3) := by decide +kernel
theorem dX5_bookStatement_135 : decode cX5_bookStatement 135 = .ok (.bipush 24, 2) := by decide +kernel
theorem dX5_bookStatement_137 : decode cX5_bookStatement 137 = .ok (.goto 5, 3) := by decide +kernel
theorem dX5_bookStatement_140 : decode cX5_bookStatement 140 = .ok (.bipush 19, 2) := by decide +kernel
theorem dX5_bookStatement_142 : decode cX5_bookStatement 142 = .ok (.putfield 112, 3) := by decide +kernel
theorem dX5_bookStatement_145 : decode cX5_bookStatement 145 = .ok (.iload_n 1, 1) := by decide +kernel
theorem dX5_bookStatement_146 : decode cX5_bookStatement 146 = .ok (.iconst 5, 1) := by decide +kernel
theorem dX5_bookStatement_147 : decode cX5_bookStatement 147 = .ok (.if_icmp .ne 10, 3) := by decide +kernel
theorem dX5_bookStatement_150 : decode cX5_bookStatement 150 = .ok (.aload_n 0, 1) := by decide +kernel
theorem dX5_bookStatement_151 : decode cX5_bookStatement 151 = .ok (.invokevirtual 115, 3) := by decide +kernel
theorem dX5_bookStatement_154 : decode cX5_bookStatement 154 = .ok (.ifCond .eq 28, 3) := by decide +kernel
theorem dX5_bookStatement_157 : decode cX5_bookStatement 157 = .ok (.aload_n 0, 1) := by decide +kernel
theorem dX5_bookStatement_158 : decode cX5_bookStatement 158 = .ok (.bipush 6, 2) := by decide +kernel
theorem dX5_bookStatement_160 : decode cX5_bookStatement 160 = .ok (.invokevirtual 74, 3) := by decide +kernel
theorem dX5_bookStatement_163 : decode cX5_bookStatement 163 = .ok (.ifCond .eq 19, 3) := by decide +kernel
theorem dX5_bookStatement_166 : decode cX5_bookStatement 166 = .ok (.aload_n 0, 1) := by decide +kernel
theorem dX5_bookStatement_167 : decode cX5_bookStatement 167 = .ok (.invokevirtual 118, 3) := by decide +kernel
theorem dX5_bookStatement_170 : decode cX5_bookStatement 170 = .ok (.ifCond .eq 12, 3) := by decide +kernel
theorem dX5_bookStatement_173 : decode cX5_bookStatement 173 = .ok (.aload_n 0, 1) := by decide +kernel
theorem dX5_bookStatement_174 : decode cX5_bookStatement 174 = .ok (.bipush 59, 2) := by decide +kernel
theorem dX5_bookStatement_176 : decode cX5_bookStatement 176 = .ok (.invokevirtual 88, 3) := by decide +kernel
theorem dX5_bookStatement_179 : decode cX5_bookStatement 179 = .ok (.ifCond .ne 5, 3) := by decide +kernel
theorem dX5_bookStatement_182 : decode cX5_bookStatement 182 = .ok (.iconst 0, 1) := by decide +kernel
theorem dX5_bookStatement_183 : decode cX5_bookStatement 183 = .ok (.ireturn, 1) := by decide +kernel
theorem dX5_bookStatement_184 : decode cX5_bookStatement 184 = .ok (.aload_n 0, 1) := by decide +kernel
theorem dX5_bookStatement_185 : decode cX5_bookStatement 185 = .ok (.getfield 19, 3) := by decide +kernel
theorem dX5_bookStatement_188 : decode cX5_bookStatement 188 = .ok (.iload_n 1, 1) := by decide +kernel
theorem dX5_bookStatement_189 : decode cX5_bookStatement 189 = .ok (.iconst 5, 1) := by decide +kernel
theorem dX5_bookStatement_190 : decode cX5_bookStatement 190 = .ok (.if_icmp .ne 7, 3) := by decide +kernel
theorem dX5_bookStatement_193 : decode cX5_bookStatement 193 = .ok (.iconst 1, 1) := by decide +kernel
theorem dX5_bookStatement_194 : decode cX5_bookStatement 194 = .ok (.goto 4, 3) := by decide +kernel
theorem dX5_bookStatement_197 : decode cX5_bookStatement 197 = .ok (.iconst 0, 1) := by decide +kernel
theorem dX5_bookStatement_198 : decode cX5_bookStatement 198 = .ok (.iload_n 2, 1) := by decide +kernel
theorem dX5_bookStatement_199 : decode cX5_bookStatement 199 = .ok (.invokevirtual 121, 3) := by decide +kernel
theorem dX5_bookStatement_202 : decode cX5_bookStatement 202 = .ok (.iconst 1, 1) := by decide +kernel
theorem dX5_bookStatement_203 : decode cX5_bookStatement 203 = .ok (.ireturn, 1) := by decide +kernel
theorem dX5_measure_0 : decode cX5_measure 0 = .ok (.aload_n 0, 1) := by decide +kernel
theorem dX5_measure_1 : decode cX5_measure 1 = .ok (.iconst 2, 1) := by decide +kernel
theorem dX5_measure_2 : decode cX5_measure 2 = .ok (.bipush 12, 2) := by decide +kernel
theorem dX5_measure_4 : decode cX5_measure 4 = .ok (.invokevirtual 70, 3) := by decide +kernel
theorem dX5_measure_7 : decode cX5_measure 7 = .ok (.istore_n 1, 1) := by decide +kernel
theorem dX5_measure_8 : decode cX5_measure 8 = .ok (.iload_n 1, 1) := by decide +kernel
theorem dX5_measure_9 : decode cX5_measure 9 = .ok (.iconst (-1), 1) := by decide +kernel
theorem dX5_measure_10 : decode cX5_measure 10 = .ok (.if_icmp .ne 5, 3) := by decide +kernel
theorem dX5_measure_13 : decode cX5_measure 13 = .ok (.iconst 0, 1) := by decide +kernel
theorem dX5_measure_14 : decode cX5_measure 14 = .ok (.ireturn, 1) := by decide +kernel
theorem dX5_measure_15 : decode cX5_measure 15 = .ok (.aload_n 0, 1) := by decide +kernel
theorem dX5_measure_16 : decode cX5_measure 16 = .ok (.getfield 19, 3) := by decide +kernel
theorem dX5_measure_19 : decode cX5_measure 19 = .ok (.iload_n 1, 1) := by decide +kernel
theorem dX5_measure_20 : decode cX5_measure 20 = .ok (.putfield 125, 3) := by decide +kernel
theorem dX5_measure_23 : decode cX5_measure 23 = .ok (.iconst 1, 1) := by decide +kernel
theorem dX5_measure_24 : decode cX5_measure 24 = .ok (.ireturn, 1) := by decide +kernel
theorem dX5_name_0 : decode cX5_name 0 = .ok (.aload_n 0, 1) := by decide +kernel
theorem dX5_name_1 : decode cX5_name 1 = .ok (.invokevirtual 43, 3) := by decide +kernel
theorem dX5_name_4 : decode cX5_name 4 = .ok (.invokestatic 127, 3) := by decide +kernel
theorem dX5_name_7 : decode cX5_name 7 = .ok (.ifCond .ne 13, 3) := by decide +kernel
theorem dX5_name_10 : decode cX5_name 10 = .ok (.aload_n 0, 1) := by decide +kernel
theorem dX5_name_11 : decode cX5_name 11 = .ok (.iconst 1, 1) := by decide +kernel
theorem dX5_name_12 : decode cX5_name 12 = .ok (.aload_n 0, 1) := by decide +kernel
theorem dX5_name_13 : decode cX5_name 13 = .ok (.getfield 23, 3) := by decide +kernel
theorem dX5_name_16 : decode cX5_name 16 = .ok (.invokevirtual 62, 3) := by decide +kernel
theorem dX5_name_19 : decode cX5_name 19 = .ok (.ireturn, 1) := by decide +kernel
theorem dX5_name_20 : decode cX5_name 20 = .ok (.aload_n 0, 1) := by decide +kernel
theorem dX5_name_21 : decode cX5_name 21 = .ok (.invokevirtual 91, 3) := by decide +kernel
theorem dX5_name_24 : decode cX5_name 24 = .ok (.iconst (-1), 1) := by decide +kernel
theorem dX5_name_25 : decode cX5_name 25 = .ok (.if_icmp .eq 13, 3) := by decide +kernel
theorem dX5_name_28 : decode cX5_name 28 = .ok (.aload_n 0, 1) := by decide +kernel
theorem dX5_name_29 : decode cX5_name 29 = .ok (.iconst 1, 1) := by decide +kernel
theorem dX5_name_30 : decode cX5_name 30 = .ok (.aload_n 0, 1) := by decide +kernel
theorem dX5_name_31 : decode cX5_name 31 = .ok (.getfield 23, 3) := by decide +kernel
theorem dX5_name_34 : decode cX5_name 34 = .ok (.invokevirtual 62, 3) := by decide +kernel
theorem dX5_name_37 : decode cX5_name 37 = .ok (.ireturn, 1) := by decide +kernel
theorem dX5_name_38 : decode cX5_name 38 = .ok (.iconst 0, 1) := by decide +kernel
theorem dX5_name_39 : decode cX5_name 39 = .ok (.istore_n 1, 1) := by decide +kernel
theorem dX5_name_40 : decode cX5_name 40 = .ok (.iload_n 1, 1) := by decide +kernel
theorem dX5_name_41 : decode cX5_name 41 = .ok (.bipush 6, 2) := by decide +kernel
theorem dX5_name_43 : decode cX5_name 43 = .ok (.if_icmp .ge 52, 3) := by decide +kernel
theorem dX5_name_46 : decode cX5_name 46 = .ok (.aload_n 0, 1) := by decide +kernel
theorem dX5_name_47 : decode cX5_name 47 = .ok (.getfield 19, 3) := by decide +kernel
theorem dX5_name_50 : decode cX5_name 50 = .ok (.iload_n 1, 1) := by decide +kernel
theorem dX5_name_51 : decode cX5_name 51 = .ok (.aload_n 0, 1) := by decide +kernel
theorem dX5_name_52 : decode cX5_name 52 = .ok (.getfield 23, 3) := by decide +kernel
theorem dX5_name_55 : decode cX5_name 55 = .ok (.iload_n 1, 1) := by decide +kernel
theorem dX5_name_56 : decode cX5_name 56 = .ok (.iadd, 1) := by decide +kernel
theorem dX5_name_57 : decode cX5_name 57 = .ok (.aload_n 0, 1) := by decide +kernel
theorem dX5_name_58 : decode cX5_name 58 = .ok (.getfield 130, 3) := by decide +kernel
theorem dX5_name_61 : decode cX5_name 61 = .ok (.if_icmp .ge 24, 3) := by decide +kernel
theorem dX5_name_64 : decode cX5_name 64 = .ok (.aload_n 0, 1) := by decide +kernel
theorem dX5_name_65 : decode cX5_name 65 = .ok (.getfield 15, 3) := by decide +kernel
theorem dX5_name_68 : decode cX5_name 68 = .ok (.aload_n 0, 1) := by decide +kernel
theorem dX5_name_69 : decode cX5_name 69 = .ok (.getfield 23, 3) := by decide +kernel
theorem dX5_name_72 : decode cX5_name 72 = .ok (.iload_n 1, 1) := by decide +kernel
theorem dX5_name_73 : decode cX5_name 73 = .ok (.iadd, 1) := by decide +kernel
theorem dX5_name_74 : decode cX5_name 74 = .ok (.invokevirtual 133, 3) := by decide +kernel
theorem dX5_name_77 : decode cX5_name 77 = .ok (.bipush 97, 2) := by decide +kernel
theorem dX5_name_79 : decode cX5_name 79 = .ok (.isub, 1) := by decide +kernel
theorem dX5_name_80 : decode cX5_name 80 = .ok (.iconst 1, 1) := by decide +kernel
theorem dX5_name_81 : decode cX5_name 81 = .ok (.iadd, 1) := by decide +kernel
theorem dX5_name_82 : decode cX5_name 82 = .ok (.goto 4, 3) := by decide +kernel
theorem dX5_name_85 : decode cX5_name 85 = .ok (.iconst 0, 1) := by decide +kernel
theorem dX5_name_86 : decode cX5_name 86 = .ok (.invokevirtual 137, 3) := by decide +kernel
theorem dX5_name_89 : decode cX5_name 89 = .ok (.iinc 1 1, 3) := by decide +kernel
theorem dX5_name_92 : decode cX5_name 92 = .ok (.goto (-52), 3) := by decide +kernel
theorem dX5_name_95 : decode cX5_name 95 = .ok (.aload_n 0, 1) := by decide +kernel
theorem dX5_name_96 : decode cX5_name 96 = .ok (.getfield 130, 3) := by decide +kernel
theorem dX5_name_99 : decode cX5_name 99 = .ok (.aload_n 0, 1) := by decide +kernel
theorem dX5_name_100 : decode cX5_name 100 = .ok (.getfield 23, 3) := by decide +kernel
theorem dX5_name_103 : decode cX5_name 103 = .ok (.isub, 1) := by decide +kernel
theorem dX5_name_104 : decode cX5_name 104 = .ok (.bipush 6, 2) := by decide +kernel
theorem dX5_name_106 : decode cX5_name 106 = .ok (.if_icmp .le 16, 3) := by decide +kernel
theorem dX5_name_109 : decode cX5_name 109 = .ok (.aload_n 0, 1) := by decide +kernel
theorem dX5_name_110 : decode cX5_name 110 = .ok (.iconst 1, 1) := by decide +kernel
theorem dX5_name_111 : decode cX5_name 111 = .ok (.aload_n 0, 1) := by decide +kernel
theorem dX5_name_112 : decode cX5_name 112 = .ok (.getfield 23, 3) := by decide +kernel
theorem dX5_name_115 : decode cX5_name 115 = .ok (.bipush 6, 2) := by decide +kernel
theorem dX5_name_117 : decode cX5_name 117 = .ok (.iadd, 1) := by decide +kernel
theorem dX5_name_118 : decode cX5_name 118 = .ok (.invokevirtual 62, 3) := by decide +kernel
theorem dX5_name_121 : decode cX5_name 121 = .ok (.ireturn, 1) := by decide +kernel
theorem dX5_name_122 : decode cX5_name 122 = .ok (.aload_n 0, 1) := by decide +kernel
theorem dX5_name_123 : decode cX5_name 123 = .ok (.getfield 19, 3) := by decide +kernel
theorem dX5_name_126 : decode cX5_name 126 = .ok (.invokevirtual 141, 3) := by decide +kernel
theorem dX5_name_129 : decode cX5_name 129 = .ok (.ifCond .eq 13, 3) := by decide +kernel
theorem dX5_name_132 : decode cX5_name 132 = .ok (.aload_n 0, 1) := by decide +kernel
theorem dX5_name_133 : decode cX5_name 133 = .ok (.iconst 3, 1) := by decide +kernel
theorem dX5_name_134 : decode cX5_name 134 = .ok (.aload_n 0, 1) := by decide +kernel
theorem dX5_name_135 : decode cX5_name 135 = .ok (.getfield 23, 3) := by decide +kernel
theorem dX5_name_138 : decode cX5_name 138 = .ok (.invokevirtual 62, 3) := by decide +kernel
theorem dX5_name_141 : decode cX5_name 141 = .ok (.ireturn, 1) := by decide +kernel
theorem dX5_name_142 : decode cX5_name 142 = .ok (.aload_n 0, 1) := by decide +kernel
theorem dX5_name_143 : decode cX5_name 143 = .ok (.invokevirtual 100, 3) := by decide +kernel
theorem dX5_name_146 : decode cX5_name 146 = .ok (.iconst 1, 1) := by decide +kernel
theorem dX5_name_147 : decode cX5_name 147 = .ok (.ireturn, 1) := by decide +kernel
theorem dX5_test_0 : decode cX5_test 0 = .ok (.aload_n 0, 1) := by decide +kernel
theorem dX5_test_1 : decode cX5_test 1 = .ok (.invokevirtual 144, 3) := by decide +kernel
theorem dX5_test_4 : decode cX5_test 4 = .ok (.ifCond .ne 5, 3) := by decide +kernel
theorem dX5_test_7 : decode cX5_test 7 = .ok (.iconst 0, 1) := by decide +kernel
theorem dX5_test_8 : decode cX5_test 8 = .ok (.ireturn, 1) := by decide +kernel
theorem dX5_test_9 : decode cX5_test 9 = .ok (.iconst 0, 1) := by decide +kernel
theorem dX5_test_10 : decode cX5_test 10 = .ok (.istore_n 1, 1) := by decide +kernel
theorem dX5_test_11 : decode cX5_test 11 = .ok (.iload_n 1, 1) := by decide +kernel
theorem dX5_test_12 : decode cX5_test 12 = .ok (.sipush 1600, 3) := by decide +kernel
theorem dX5_test_15 : decode cX5_test 15 = .ok (.if_icmp .ge 37, 3) := by decide +kernel
theorem dX5_test_18 : decode cX5_test 18 = .ok (.aload_n 0, 1) := by decide +kernel
theorem dX5_test_19 : decode cX5_test 19 = .ok (.bipush 7, 2) := by decide +kernel
theorem dX5_test_21 : decode cX5_test 21 = .ok (.invokevirtual 66, 3) := by decide +kernel
theorem dX5_test_24 : decode cX5_test 24 = .ok (.ifCond .eq 28, 3) := by decide +kernel
theorem dX5_test_27 : decode cX5_test 27 = .ok (.aload_n 0, 1) := by decide +kernel
theorem dX5_test_28 : decode cX5_test 28 = .ok (.invokevirtual 144, 3) := by decide +kernel
theorem dX5_test_31 : decode cX5_test 31 = .ok (.ifCond .ne 5, 3) := by decide +kernel
theorem dX5_test_34 : decode cX5_test 34 = .ok (.iconst 0, 1) := by decide +kernel
theorem dX5_test_35 : decode cX5_test 35 = .ok (.ireturn, 1) := by decide +kernel
theorem dX5_test_36 : decode cX5_test 36 = .ok (.aload_n 0, 1) := by decide +kernel
theorem dX5_test_37 : decode cX5_test 37 = .ok (.getfield 19, 3) := by decide +kernel
theorem dX5_test_40 : decode cX5_test 40 = .ok (.sipush 10021, 3) := by decide +kernel
theorem dX5_test_43 : decode cX5_test 43 = .ok (.invokevirtual 147, 3) := by decide +kernel
theorem dX5_test_46 : decode cX5_test 46 = .ok (.iinc 1 1, 3) := by decide +kernel
theorem dX5_test_49 : decode cX5_test 49 = .ok (.goto (-38), 3) := by decide +kernel
theorem dX5_test_52 : decode cX5_test 52 = .ok (.iconst 1, 1) := by decide +kernel
theorem dX5_test_53 : decode cX5_test 53 = .ok (.ireturn, 1) := by decide +kernel
theorem dX5_both_0 : decode cX5_both 0 = .ok (.aload_n 0, 1) := by decide +kernel
theorem dX5_both_1 : decode cX5_both 1 = .ok (.invokevirtual 151, 3) := by decide +kernel
theorem dX5_both_4 : decode cX5_both 4 = .ok (.ifCond .ne 5, 3) := by decide +kernel
theorem dX5_both_7 : decode cX5_both 7 = .ok (.iconst 0, 1) := by decide +kernel
theorem dX5_both_8 : decode cX5_both 8 = .ok (.ireturn, 1) := by decide +kernel
theorem dX5_both_9 : decode cX5_both 9 = .ok (.iconst 0, 1) := by decide +kernel
theorem dX5_both_10 : decode cX5_both 10 = .ok (.istore_n 1, 1) := by decide +kernel
theorem dX5_both_11 : decode cX5_both 11 = .ok (.iload_n 1, 1) := by decide +kernel
theorem dX5_both_12 : decode cX5_both 12 = .ok (.sipush 1600, 3) := by decide +kernel
theorem dX5_both_15 : decode cX5_both 15 = .ok (.if_icmp .ge 37, 3) := by decide +kernel
theorem dX5_both_18 : decode cX5_both 18 = .ok (.aload_n 0, 1) := by decide +kernel
theorem dX5_both_19 : decode cX5_both 19 = .ok (.bipush 8, 2) := by decide +kernel
theorem dX5_both_21 : decode cX5_both 21 = .ok (.invokevirtual 66, 3) := by decide +kernel
theorem dX5_both_24 : decode cX5_both 24 = .ok (.ifCond .eq 28, 3) := by decide +kernel
theorem dX5_both_27 : decode cX5_both 27 = .ok (.aload_n 0, 1) := by decide +kernel
theorem dX5_both_28 : decode cX5_both 28 = .ok (.invokevirtual 151, 3) := by decide +kernel
theorem dX5_both_31 : decode cX5_both 31 = .ok (.ifCond .ne 5, 3) := by decide +kernel
theorem dX5_both_34 : decode cX5_both 34 = .ok (.iconst 0, 1) := by decide +kernel
theorem dX5_both_35 : decode cX5_both 35 = .ok (.ireturn, 1) := by decide +kernel
theorem dX5_both_36 : decode cX5_both 36 = .ok (.aload_n 0, 1) := by decide +kernel
theorem dX5_both_37 : decode cX5_both 37 = .ok (.getfield 19, 3) := by decide +kernel
theorem dX5_both_40 : decode cX5_both 40 = .ok (.sipush 10022, 3) := by decide +kernel
theorem dX5_both_43 : decode cX5_both 43 = .ok (.invokevirtual 147, 3) := by decide +kernel
theorem dX5_both_46 : decode cX5_both 46 = .ok (.iinc 1 1, 3) := by decide +kernel
theorem dX5_both_49 : decode cX5_both 49 = .ok (.goto (-38), 3) := by decide +kernel
theorem dX5_both_52 : decode cX5_both 52 = .ok (.iconst 1, 1) := by decide +kernel
theorem dX5_both_53 : decode cX5_both 53 = .ok (.ireturn, 1) := by decide +kernel
theorem dX5_fact_0 : decode cX5_fact 0 = .ok (.aload_n 0, 1) := by decide +kernel
theorem dX5_fact_1 : decode cX5_fact 1 = .ok (.invokevirtual 43, 3) := by decide +kernel
theorem dX5_fact_4 : decode cX5_fact 4 = .ok (.bipush 91, 2) := by decide +kernel
theorem dX5_fact_6 : decode cX5_fact 6 = .ok (.if_icmp .ne 48, 3) := by decide +kernel
theorem dX5_fact_9 : decode cX5_fact 9 = .ok (.aload_n 0, 1) := by decide +kernel
theorem dX5_fact_10 : decode cX5_fact 10 = .ok (.invokevirtual 154, 3) := by decide +kernel
theorem dX5_fact_13 : decode cX5_fact 13 = .ok (.ifCond .eq 39, 3) := by decide +kernel
theorem dX5_fact_16 : decode cX5_fact 16 = .ok (.aload_n 0, 1) := by decide +kernel
theorem dX5_fact_17 : decode cX5_fact 17 = .ok (.bipush 91, 2) := by decide +kernel
theorem dX5_fact_19 : decode cX5_fact 19 = .ok (.invokevirtual 88, 3) := by decide +kernel
theorem dX5_fact_22 : decode cX5_fact 22 = .ok (.ifCond .eq 30, 3) := by decide +kernel
theorem dX5_fact_25 : decode cX5_fact 25 = .ok (.aload_n 0, 1) := by decide +kernel
theorem dX5_fact_26 : decode cX5_fact 26 = .ok (.invokevirtual 118, 3) := by decide +kernel
theorem dX5_fact_29 : decode cX5_fact 29 = .ok (.ifCond .eq 23, 3) := by decide +kernel
theorem dX5_fact_32 : decode cX5_fact 32 = .ok (.aload_n 0, 1) := by decide +kernel
theorem dX5_fact_33 : decode cX5_fact 33 = .ok (.bipush 93, 2) := by decide +kernel
theorem dX5_fact_35 : decode cX5_fact 35 = .ok (.invokevirtual 88, 3) := by decide +kernel
theorem dX5_fact_38 : decode cX5_fact 38 = .ok (.ifCond .eq 14, 3) := by decide +kernel
theorem dX5_fact_41 : decode cX5_fact 41 = .ok (.aload_n 0, 1) := by decide +kernel
theorem dX5_fact_42 : decode cX5_fact 42 = .ok (.invokevirtual 157, 3) := by decide +kernel
theorem dX5_fact_45 : decode cX5_fact 45 = .ok (.ifCond .eq 7, 3) := by decide +kernel
theorem dX5_fact_48 : decode cX5_fact 48 = .ok (.iconst 1, 1) := by decide +kernel
theorem dX5_fact_49 : decode cX5_fact 49 = .ok (.goto 4, 3) := by decide +kernel
theorem dX5_fact_52 : decode cX5_fact 52 = .ok (.iconst 0, 1) := by decide +kernel
theorem dX5_fact_53 : decode cX5_fact 53 = .ok (.ireturn, 1) := by decide +kernel
theorem dX5_fact_54 : decode cX5_fact 54 = .ok (.aload_n 0, 1) := by decide +kernel
theorem dX5_fact_55 : decode cX5_fact 55 = .ok (.invokevirtual 91, 3) := by decide +kernel
theorem dX5_fact_58 : decode cX5_fact 58 = .ok (.istore_n 1, 1) := by decide +kernel
theorem dX5_fact_59 : decode cX5_fact 59 = .ok (.iload_n 1, 1) := by decide +kernel
theorem dX5_fact_60 : decode cX5_fact 60 = .ok (.bipush 9, 2) := by decide +kernel
theorem dX5_fact_62 : decode cX5_fact 62 = .ok (.if_icmp .ne 43, 3) := by decide +kernel
theorem dX5_fact_65 : decode cX5_fact 65 = .ok (.aload_n 0, 1) := by decide +kernel
theorem dX5_fact_66 : decode cX5_fact 66 = .ok (.invokevirtual 154, 3) := by decide +kernel
theorem dX5_fact_69 : decode cX5_fact 69 = .ok (.ifCond .eq 19, 3) := by decide +kernel
theorem dX5_fact_72 : decode cX5_fact 72 = .ok (.aload_n 0, 1) := by decide +kernel
theorem dX5_fact_73 : decode cX5_fact 73 = .ok (.bipush 9, 2) := by decide +kernel
theorem dX5_fact_75 : decode cX5_fact 75 = .ok (.invokevirtual 74, 3) := by decide +kernel
theorem dX5_fact_78 : decode cX5_fact 78 = .ok (.ifCond .eq 10, 3) := by decide +kernel
theorem dX5_fact_81 : decode cX5_fact 81 = .ok (.aload_n 0, 1) := by decide +kernel
theorem dX5_fact_82 : decode cX5_fact 82 = .ok (.invokevirtual 151, 3) := by decide +kernel
theorem dX5_fact_85 : decode cX5_fact 85 = .ok (.ifCond .ne 5, 3) := by decide +kernel
theorem dX5_fact_88 : decode cX5_fact 88 = .ok (.iconst 0, 1) := by decide +kernel
theorem dX5_fact_89 : decode cX5_fact 89 = .ok (.ireturn, 1) := by decide +kernel
theorem dX5_fact_90 : decode cX5_fact 90 = .ok (.aload_n 0, 1) := by decide +kernel
theorem dX5_fact_91 : decode cX5_fact 91 = .ok (.getfield 19, 3) := by decide +kernel
theorem dX5_fact_94 : decode cX5_fact 94 = .ok (.sipush 10020, 3) := by decide +kernel
theorem dX5_fact_97 : decode cX5_fact 97 = .ok (.invokevirtual 147, 3) := by decide +kernel
theorem dX5_fact_100 : decode cX5_fact 100 = .ok (.aload_n 0, 1) := by decide +kernel
theorem dX5_fact_101 : decode cX5_fact 101 = .ok (.invokevirtual 157, 3) := by decide +kernel
theorem dX5_fact_104 : decode cX5_fact 104 = .ok (.ireturn, 1) := by decide +kernel
theorem dX5_fact_105 : decode cX5_fact 105 = .ok (.iload_n 1, 1) := by decide +kernel
theorem dX5_fact_106 : decode cX5_fact 106 = .ok (.bipush 10, 2) := by decide +kernel
theorem dX5_fact_108 : decode cX5_fact 108 = .ok (.if_icmp .ne 18, 3) := by decide +kernel
theorem dX5_fact_111 : decode cX5_fact 111 = .ok (.aload_n 0, 1) := by decide +kernel
theorem dX5_fact_112 : decode cX5_fact 112 = .ok (.getfield 19, 3) := by decide +kernel
theorem dX5_fact_115 : decode cX5_fact 115 = .ok (.iconst 1, 1) := by decide +kernel
theorem dX5_fact_116 : decode cX5_fact 116 = .ok (.invokevirtual 147, 3) := by decide +kernel
theorem dX5_fact_119 : decode cX5_fact 119 = .ok (.aload_n 0, 1) := by decide +kernel
theorem dX5_fact_120 : decode cX5_fact 120 = .ok (.bipush 10, 2) := by decide +kernel
theorem dX5_fact_122 : decode cX5_fact 122 = .ok (.invokevirtual 74, 3) := by decide +kernel
theorem dX5_fact_125 : decode cX5_fact 125 = .ok (.ireturn, 1) := by decide +kernel
theorem dX5_fact_126 : decode cX5_fact 126 = .ok (.aload_n 0, 1) := by decide +kernel
theorem dX5_fact_127 : decode cX5_fact 127 = .ok (.invokevirtual 160, 3) := by decide +kernel
theorem dX5_fact_130 : decode cX5_fact 130 = .ok (.ifCond .ne 5, 3) := by decide +kernel
theorem dX5_fact_133 : decode cX5_fact 133 = .ok (.iconst 0, 1) := by decide +kernel
theorem dX5_fact_134 : decode cX5_fact 134 = .ok (.ireturn, 1) := by decide +kernel
theorem dX5_fact_135 : decode cX5_fact 135 = .ok (.aload_n 0, 1) := by decide +kernel
theorem dX5_fact_136 : decode cX5_fact 136 = .ok (.invokevirtual 43, 3) := by decide +kernel
theorem dX5_fact_139 : decode cX5_fact 139 = .ok (.istore_n 2, 1) := by decide +kernel
theorem dX5_fact_140 : decode cX5_fact 140 = .ok (.iload_n 2, 1) := by decide +kernel
theorem dX5_fact_141 : decode cX5_fact 141 = .ok (.bipush 60, 2) := by decide +kernel
theorem dX5_fact_143 : decode cX5_fact 143 = .ok (.if_icmp .eq 25, 3) := by decide +kernel
theorem dX5_fact_146 : decode cX5_fact 146 = .ok (.iload_n 2, 1) := by decide +kernel
theorem dX5_fact_147 : decode cX5_fact 147 = .ok (.bipush 62, 2) := by decide +kernel
theorem dX5_fact_149 : decode cX5_fact 149 = .ok (.if_icmp .eq 19, 3) := by decide +kernel
theorem dX5_fact_152 : decode cX5_fact 152 = .ok (.iload_n 2, 1) := by decide +kernel
theorem dX5_fact_153 : decode cX5_fact 153 = .ok (.bipush 61, 2) := by decide +kernel
theorem dX5_fact_155 : decode cX5_fact 155 = .ok (.if_icmp .eq 13, 3) := by decide +kernel
theorem dX5_fact_158 : decode cX5_fact 158 = .ok (.aload_n 0, 1) := by decide +kernel
theorem dX5_fact_159 : decode cX5_fact 159 = .ok (.iconst 1, 1) := by decide +kernel
theorem dX5_fact_160 : decode cX5_fact 160 = .ok (.aload_n 0, 1) := by decide +kernel
theorem dX5_fact_161 : decode cX5_fact 161 = .ok (.getfield 23, 3) := by decide +kernel
theorem dX5_fact_164 : decode cX5_fact 164 = .ok (.invokevirtual 62, 3) := by decide +kernel
theorem dX5_fact_167 : decode cX5_fact 167 = .ok (.ireturn, 1) := by decide +kernel
theorem dX5_fact_168 : decode cX5_fact 168 = .ok (.aload_n 0, 1) := by decide +kernel
theorem dX5_fact_169 : decode cX5_fact 169 = .ok (.dup, 1) := by decide +kernel
theorem dX5_fact_170 : decode cX5_fact 170 = .ok (.getfield 23, 3) := by decide +kernel
theorem dX5_fact_173 : decode cX5_fact 173 = .ok (.iconst 1, 1) := by decide +kernel
theorem dX5_fact_174 : decode cX5_fact 174 = .ok (.iadd, 1) := by decide +kernel
theorem dX5_fact_175 : decode cX5_fact 175 = .ok (.putfield 23, 3) := by decide +kernel
theorem dX5_fact_178 : decode cX5_fact 178 = .ok (.aload_n 0, 1) := by decide +kernel
theorem dX5_fact_179 : decode cX5_fact 179 = .ok (.invokevirtual 160, 3) := by decide +kernel
theorem dX5_fact_182 : decode cX5_fact 182 = .ok (.ifCond .ne 5, 3) := by decide +kernel
theorem dX5_fact_185 : decode cX5_fact 185 = .ok (.iconst 0, 1) := by decide +kernel
theorem dX5_fact_186 : decode cX5_fact 186 = .ok (.ireturn, 1) := by decide +kernel
theorem dX5_fact_187 : decode cX5_fact 187 = .ok (.aload_n 0, 1) := by decide +kernel
theorem dX5_fact_188 : decode cX5_fact 188 = .ok (.getfield 19, 3) := by decide +kernel
theorem dX5_fact_191 : decode cX5_fact 191 = .ok (.iload_n 2, 1) := by decide +kernel
theorem dX5_fact_192 : decode cX5_fact 192 = .ok (.bipush 60, 2) := by decide +kernel
theorem dX5_fact_194 : decode cX5_fact 194 = .ok (.if_icmp .ne 9, 3) := by decide +kernel
theorem dX5_fact_197 : decode cX5_fact 197 = .ok (.sipush 10023, 3) := by decide +kernel
theorem dX5_fact_200 : decode cX5_fact 200 = .ok (.goto 18, 3) := by decide +kernel
theorem dX5_fact_203 : decode cX5_fact 203 = .ok (.iload_n 2, 1) := by decide +kernel
theorem dX5_fact_204 : decode cX5_fact 204 = .ok (.bipush 62, 2) := by decide +kernel
theorem dX5_fact_206 : decode cX5_fact 206 = .ok (.if_icmp .ne 9, 3) := by decide +kernel
theorem dX5_fact_209 : decode cX5_fact 209 = .ok (.sipush 10024, 3) := by decide +kernel
theorem dX5_fact_212 : decode cX5_fact 212 = .ok (.goto 6, 3) := by decide +kernel
theorem dX5_fact_215 : decode cX5_fact 215 = .ok (.sipush 10025, 3) := by decide +kernel
theorem dX5_fact_218 : decode cX5_fact 218 = .ok (.invokevirtual 147, 3) := by decide +kernel
theorem dX5_fact_221 : decode cX5_fact 221 = .ok (.iconst 1, 1) := by decide +kernel
theorem dX5_fact_222 : decode cX5_fact 222 = .ok (.ireturn, 1) := by decide +kernel
theorem dX5_sum_0 : decode cX5_sum 0 = .ok (.aload_n 0, 1) := by decide +kernel
theorem dX5_sum_1 : decode cX5_sum 1 = .ok (.invokevirtual 163, 3) := by decide +kernel
theorem dX5_sum_4 : decode cX5_sum 4 = .ok (.ifCond .ne 5, 3) := by decide +kernel
theorem dX5_sum_7 : decode cX5_sum 7 = .ok (.iconst 0, 1) := by decide +kernel
theorem dX5_sum_8 : decode cX5_sum 8 = .ok (.ireturn, 1) := by decide +kernel
theorem dX5_sum_9 : decode cX5_sum 9 = .ok (.iconst 0, 1) := by decide +kernel
theorem dX5_sum_10 : decode cX5_sum 10 = .ok (.istore_n 1, 1) := by decide +kernel
theorem dX5_sum_11 : decode cX5_sum 11 = .ok (.iload_n 1, 1) := by decide +kernel
theorem dX5_sum_12 : decode cX5_sum 12 = .ok (.sipush 1600, 3) := by decide +kernel
theorem dX5_sum_15 : decode cX5_sum 15 = .ok (.if_icmp .ge 69, 3) := by decide +kernel
theorem dX5_sum_18 : decode cX5_sum 18 = .ok (.aload_n 0, 1) := by decide +kernel
theorem dX5_sum_19 : decode cX5_sum 19 = .ok (.invokevirtual 43, 3) := by decide +kernel
theorem dX5_sum_22 : decode cX5_sum 22 = .ok (.istore_n 2, 1) := by decide +kernel
theorem dX5_sum_23 : decode cX5_sum 23 = .ok (.iload_n 2, 1) := by decide +kernel
theorem dX5_sum_24 : decode cX5_sum 24 = .ok (.bipush 43, 2) := by decide +kernel
theorem dX5_sum_26 : decode cX5_sum 26 = .ok (.if_icmp .eq 11, 3) := by decide +kernel
theorem dX5_sum_29 : decode cX5_sum 29 = .ok (.iload_n 2, 1) := by decide +kernel
theorem dX5_sum_30 : decode cX5_sum 30 = .ok (.bipush 45, 2) := by decide +kernel
theorem dX5_sum_32 : decode cX5_sum 32 = .ok (.if_icmp .eq 5, 3) := by decide +kernel
theorem dX5_sum_35 : decode cX5_sum 35 = .ok (.iconst 1, 1) := by decide +kernel
theorem dX5_sum_36 : decode cX5_sum 36 = .ok (.ireturn, 1) := by decide +kernel
theorem dX5_sum_37 : decode cX5_sum 37 = .ok (.aload_n 0, 1) := by decide +kernel
theorem dX5_sum_38 : decode cX5_sum 38 = .ok (.dup, 1) := by decide +kernel
theorem dX5_sum_39 : decode cX5_sum 39 = .ok (.getfield 23, 3) := by decide +kernel
theorem dX5_sum_42 : decode cX5_sum 42 = .ok (.iconst 1, 1) := by decide +kernel
theorem dX5_sum_43 : decode cX5_sum 43 = .ok (.iadd, 1) := by decide +kernel
theorem dX5_sum_44 : decode cX5_sum 44 = .ok (.putfield 23, 3) := by decide +kernel
theorem dX5_sum_47 : decode cX5_sum 47 = .ok (.aload_n 0, 1) := by decide +kernel
theorem dX5_sum_48 : decode cX5_sum 48 = .ok (.invokevirtual 163, 3) := by decide +kernel
theorem dX5_sum_51 : decode cX5_sum 51 = .ok (.ifCond .ne 5, 3) := by decide +kernel
theorem dX5_sum_54 : decode cX5_sum 54 = .ok (.iconst 0, 1) := by decide +kernel
theorem dX5_sum_55 : decode cX5_sum 55 = .ok (.ireturn, 1) := by decide +kernel
theorem dX5_sum_56 : decode cX5_sum 56 = .ok (.aload_n 0, 1) := by decide +kernel
theorem dX5_sum_57 : decode cX5_sum 57 = .ok (.getfield 19, 3) := by decide +kernel
theorem dX5_sum_60 : decode cX5_sum 60 = .ok (.iload_n 2, 1) := by decide +kernel
theorem dX5_sum_61 : decode cX5_sum 61 = .ok (.bipush 43, 2) := by decide +kernel
theorem dX5_sum_63 : decode cX5_sum 63 = .ok (.if_icmp .ne 9, 3) := by decide +kernel
theorem dX5_sum_66 : decode cX5_sum 66 = .ok (.sipush 10026, 3) := by decide +kernel
theorem dX5_sum_69 : decode cX5_sum 69 = .ok (.goto 6, 3) := by decide +kernel
theorem dX5_sum_72 : decode cX5_sum 72 = .ok (.sipush 10027, 3) := by decide +kernel
theorem dX5_sum_75 : decode cX5_sum 75 = .ok (.invokevirtual 147, 3) := by decide +kernel
theorem dX5_sum_78 : decode cX5_sum 78 = .ok (.iinc 1 1, 3) := by decide +kernel
theorem dX5_sum_81 : decode cX5_sum 81 = .ok (.goto (-70), 3) := by decide +kernel
theorem dX5_sum_84 : decode cX5_sum 84 = .ok (.iconst 1, 1) := by decide +kernel
theorem dX5_sum_85 : decode cX5_sum 85 = .ok (.ireturn, 1) := by decide +kernel
theorem dX5_product_0 : decode cX5_product 0 = .ok (.aload_n 0, 1) := by decide +kernel
theorem dX5_product_1 : decode cX5_product 1 = .ok (.invokevirtual 166, 3) := by decide +kernel
theorem dX5_product_4 : decode cX5_product 4 = .ok (.ifCond .ne 5, 3) := by decide +kernel
theorem dX5_product_7 : decode cX5_product 7 = .ok (.iconst 0, 1) := by decide +kernel
theorem dX5_product_8 : decode cX5_product 8 = .ok (.ireturn, 1) := by decide +kernel
theorem dX5_product_9 : decode cX5_product 9 = .ok (.iconst 0, 1) := by decide +kernel
theorem dX5_product_10 : decode cX5_product 10 = .ok (.istore_n 1, 1) := by decide +kernel
theorem dX5_product_11 : decode cX5_product 11 = .ok (.iload_n 1, 1) := by decide +kernel
theorem dX5_product_12 : decode cX5_product 12 = .ok (.sipush 1600, 3) := by decide +kernel
theorem dX5_product_15 : decode cX5_product 15 = .ok (.if_icmp .ge 69, 3) := by decide +kernel
theorem dX5_product_18 : decode cX5_product 18 = .ok (.aload_n 0, 1) := by decide +kernel
theorem dX5_product_19 : decode cX5_product 19 = .ok (.invokevirtual 43, 3) := by decide +kernel
theorem dX5_product_22 : decode cX5_product 22 = .ok (.istore_n 2, 1) := by decide +kernel
theorem dX5_product_23 : decode cX5_product 23 = .ok (.iload_n 2, 1) := by decide +kernel
theorem dX5_product_24 : decode cX5_product 24 = .ok (.bipush 42, 2) := by decide +kernel
theorem dX5_product_26 : decode cX5_product 26 = .ok (.if_icmp .eq 11, 3) := by decide +kernel
theorem dX5_product_29 : decode cX5_product 29 = .ok (.iload_n 2, 1) := by decide +kernel
theorem dX5_product_30 : decode cX5_product 30 = .ok (.bipush 47, 2) := by decide +kernel
theorem dX5_product_32 : decode cX5_product 32 = .ok (.if_icmp .eq 5, 3) := by decide +kernel
theorem dX5_product_35 : decode cX5_product 35 = .ok (.iconst 1, 1) := by decide +kernel
theorem dX5_product_36 : decode cX5_product 36 = .ok (.ireturn, 1) := by decide +kernel
theorem dX5_product_37 : decode cX5_product 37 = .ok (.aload_n 0, 1) := by decide +kernel
theorem dX5_product_38 : decode cX5_product 38 = .ok (.dup, 1) := by decide +kernel
theorem dX5_product_39 : decode cX5_product 39 = .ok (.getfield 23, 3) := by decide +kernel
theorem dX5_product_42 : decode cX5_product 42 = .ok (.iconst 1, 1) := by decide +kernel
theorem dX5_product_43 : decode cX5_product 43 = .ok (.iadd, 1) := by decide +kernel
theorem dX5_product_44 : decode cX5_product 44 = .ok (.putfield 23, 3) := by decide +kernel
theorem dX5_product_47 : decode cX5_product 47 = .ok (.aload_n 0, 1) := by decide +kernel
theorem dX5_product_48 : decode cX5_product 48 = .ok (.invokevirtual 166, 3) := by decide +kernel
theorem dX5_product_51 : decode cX5_product 51 = .ok (.ifCond .ne 5, 3) := by decide +kernel
theorem dX5_product_54 : decode cX5_product 54 = .ok (.iconst 0, 1) := by decide +kernel
theorem dX5_product_55 : decode cX5_product 55 = .ok (.ireturn, 1) := by decide +kernel
theorem dX5_product_56 : decode cX5_product 56 = .ok (.aload_n 0, 1) := by decide +kernel
theorem dX5_product_57 : decode cX5_product 57 = .ok (.getfield 19, 3) := by decide +kernel
theorem dX5_product_60 : decode cX5_product 60 = .ok (.iload_n 2, 1) := by decide +kernel
theorem dX5_product_61 : decode cX5_product 61 = .ok (.bipush 42, 2) := by decide +kernel
theorem dX5_product_63 : decode cX5_product 63 = .ok (.if_icmp .ne 9, 3) := by decide +kernel
theorem dX5_product_66 : decode cX5_product 66 = .ok (.sipush 10028, 3) := by decide +kernel
theorem dX5_product_69 : decode cX5_product 69 = .ok (.goto 6, 3) := by decide +kernel
theorem dX5_product_72 : decode cX5_product 72 = .ok (.sipush 10029, 3) := by decide +kernel
theorem dX5_product_75 : decode cX5_product 75 = .ok (.invokevirtual 147, 3) := by decide +kernel
theorem dX5_product_78 : decode cX5_product 78 = .ok (.iinc 1 1, 3) := by decide +kernel
theorem dX5_product_81 : decode cX5_product 81 = .ok (.goto (-70), 3) := by decide +kernel
theorem dX5_product_84 : decode cX5_product 84 = .ok (.iconst 1, 1) := by decide +kernel
theorem dX5_product_85 : decode cX5_product 85 = .ok (.ireturn, 1) := by decide +kernel
theorem dX5_part_0 : decode cX5_part 0 = .ok (.aload_n 0, 1) := by decide +kernel
theorem dX5_part_1 : decode cX5_part 1 = .ok (.invokevirtual 43, 3) := by decide +kernel
theorem dX5_part_4 : decode cX5_part 4 = .ok (.istore_n 1, 1) := by decide +kernel
theorem dX5_part_5 : decode cX5_part 5 = .ok (.iload_n 1, 1) := by decide +kernel
theorem dX5_part_6 : decode cX5_part 6 = .ok (.bipush 40, 2) := by decide +kernel
theorem dX5_part_8 : decode cX5_part 8 = .ok (.if_icmp .ne 48, 3) := by decide +kernel
theorem dX5_part_11 : decode cX5_part 11 = .ok (.aload_n 0, 1) := by decide +kernel
theorem dX5_part_12 : decode cX5_part 12 = .ok (.invokevirtual 154, 3) := by decide +kernel
theorem dX5_part_15 : decode cX5_part 15 = .ok (.ifCond .eq 39, 3) := by decide +kernel
theorem dX5_part_18 : decode cX5_part 18 = .ok (.aload_n 0, 1) := by decide +kernel
theorem dX5_part_19 : decode cX5_part 19 = .ok (.bipush 40, 2) := by decide +kernel
theorem dX5_part_21 : decode cX5_part 21 = .ok (.invokevirtual 88, 3) := by decide +kernel
theorem dX5_part_24 : decode cX5_part 24 = .ok (.ifCond .eq 30, 3) := by decide +kernel
theorem dX5_part_27 : decode cX5_part 27 = .ok (.aload_n 0, 1) := by decide +kernel
theorem dX5_part_28 : decode cX5_part 28 = .ok (.invokevirtual 160, 3) := by decide +kernel
theorem dX5_part_31 : decode cX5_part 31 = .ok (.ifCond .eq 23, 3) := by decide +kernel
theorem dX5_part_34 : decode cX5_part 34 = .ok (.aload_n 0, 1) := by decide +kernel
theorem dX5_part_35 : decode cX5_part 35 = .ok (.bipush 41, 2) := by decide +kernel
theorem dX5_part_37 : decode cX5_part 37 = .ok (.invokevirtual 88, 3) := by decide +kernel
theorem dX5_part_40 : decode cX5_part 40 = .ok (.ifCond .eq 14, 3) := by decide +kernel
theorem dX5_part_43 : decode cX5_part 43 = .ok (.aload_n 0, 1) := by decide +kernel
theorem dX5_part_44 : decode cX5_part 44 = .ok (.invokevirtual 157, 3) := by decide +kernel
theorem dX5_part_47 : decode cX5_part 47 = .ok (.ifCond .eq 7, 3) := by decide +kernel
theorem dX5_part_50 : decode cX5_part 50 = .ok (.iconst 1, 1) := by decide +kernel
theorem dX5_part_51 : decode cX5_part 51 = .ok (.goto 4, 3) := by decide +kernel
theorem dX5_part_54 : decode cX5_part 54 = .ok (.iconst 0, 1) := by decide +kernel
theorem dX5_part_55 : decode cX5_part 55 = .ok (.ireturn, 1) := by decide +kernel
theorem dX5_part_56 : decode cX5_part 56 = .ok (.iload_n 1, 1) := by decide +kernel
theorem dX5_part_57 : decode cX5_part 57 = .ok (.invokestatic 169, 3) := by decide +kernel
theorem dX5_part_60 : decode cX5_part 60 = .ok (.ifCond .eq 31, 3) := by decide +kernel
theorem dX5_part_63 : decode cX5_part 63 = .ok (.aload_n 0, 1) := by decide +kernel
theorem dX5_part_64 : decode cX5_part 64 = .ok (.iconst 0, 1) := by decide +kernel
theorem dX5_part_65 : decode cX5_part 65 = .ok (.sipush 9999, 3) := by decide +kernel
theorem dX5_part_68 : decode cX5_part 68 = .ok (.invokevirtual 70, 3) := by decide +kernel
theorem dX5_part_71 : decode cX5_part 71 = .ok (.istore_n 2, 1) := by decide +kernel
theorem dX5_part_72 : decode cX5_part 72 = .ok (.aload_n 0, 1) := by decide +kernel
theorem dX5_part_73 : decode cX5_part 73 = .ok (.getfield 19, 3) := by decide +kernel
theorem dX5_part_76 : decode cX5_part 76 = .ok (.iload_n 2, 1) := by decide +kernel
theorem dX5_part_77 : decode cX5_part 77 = .ok (.invokevirtual 147, 3) := by decide +kernel
theorem dX5_part_80 : decode cX5_part 80 = .ok (.iload_n 2, 1) := by decide +kernel
theorem dX5_part_81 : decode cX5_part 81 = .ok (.iconst (-1), 1) := by decide +kernel
theorem dX5_part_82 : decode cX5_part 82 = .ok (.if_icmp .eq 7, 3) := by decide +kernel
theorem dX5_part_85 : decode cX5_part 85 = .ok (.iconst 1, 1) := by decide +kernel
theorem dX5_part_86 : decode cX5_part 86 = .ok (.goto 4, 3) := by decide +kernel
theorem dX5_part_89 : decode cX5_part 89 = .ok (.iconst 0, 1) := by decide +kernel
theorem dX5_part_90 : decode cX5_part 90 = .ok (.ireturn, 1) := by decide +kernel
theorem dX5_part_91 : decode cX5_part 91 = .ok (.aload_n 0, 1) := by decide +kernel
theorem dX5_part_92 : decode cX5_part 92 = .ok (.invokevirtual 91, 3) := by decide +kernel
theorem dX5_part_95 : decode cX5_part 95 = .ok (.istore_n 2, 1) := by decide +kernel
theorem dX5_part_96 : decode cX5_part 96 = .ok (.iload_n 2, 1) := by decide +kernel
theorem dX5_part_97 : decode cX5_part 97 = .ok (.aload_n 0, 1) := by decide +kernel
theorem dX5_part_98 : decode cX5_part 98 = .ok (.getfield 109, 3) := by decide +kernel
theorem dX5_part_101 : decode cX5_part 101 = .ok (.if_icmp .lt 34, 3) := by decide +kernel
theorem dX5_part_104 : decode cX5_part 104 = .ok (.iload_n 2, 1) := by decide +kernel
theorem dX5_part_105 : decode cX5_part 105 = .ok (.aload_n 0, 1) := by decide +kernel
theorem dX5_part_106 : decode cX5_part 106 = .ok (.getfield 112, 3) := by decide +kernel
theorem dX5_part_109 : decode cX5_part 109 = .ok (.if_icmp .ge 26, 3) := by decide +kernel
theorem dX5_part_112 : decode cX5_part 112 = .ok (.aload_n 0, 1) := by decide +kernel
theorem dX5_part_113 : decode cX5_part 113 = .ok (.getfield 19, 3) := by decide +kernel
theorem dX5_part_116 : decode cX5_part 116 = .ok (.sipush 10000, 3) := by decide +kernel
theorem dX5_part_119 : decode cX5_part 119 = .ok (.iload_n 2, 1) := by decide +kernel
theorem dX5_part_120 : decode cX5_part 120 = .ok (.iadd, 1) := by decide +kernel
theorem dX5_part_121 : decode cX5_part 121 = .ok (.aload_n 0, 1) := by decide +kernel
theorem dX5_part_122 : decode cX5_part 122 = .ok (.getfield 109, 3) := by decide +kernel
theorem dX5_part_125 : decode cX5_part 125 = .ok (.isub, 1) := by decide +kernel
theorem dX5_part_126 : decode cX5_part 126 = .ok (.invokevirtual 147, 3) := by decide +kernel
theorem dX5_part_129 : decode cX5_part 129 = .ok (.aload_n 0, 1) := by decide +kernel
theorem dX5_part_130 : decode cX5_part 130 = .ok (.iload_n 2, 1) := by decide +kernel
theorem dX5_part_131 : decode cX5_part 131 = .ok (.invokevirtual 74, 3) := by decide +kernel
theorem dX5_part_134 : decode cX5_part 134 = .ok (.ireturn, 1) := by decide +kernel
theorem dX5_part_135 : decode cX5_part 135 = .ok (.iload_n 2, 1) := by decide +kernel
theorem dX5_part_136 : decode cX5_part 136 = .ok (.bipush 24, 2) := by decide +kernel
theorem dX5_part_138 : decode cX5_part 138 = .ok (.if_icmp .eq 19, 3) := by decide +kernel
theorem dX5_part_141 : decode cX5_part 141 = .ok (.iload_n 2, 1) := by decide +kernel
theorem dX5_part_142 : decode cX5_part 142 = .ok (.bipush 25, 2) := by decide +kernel
theorem dX5_part_144 : decode cX5_part 144 = .ok (.if_icmp .eq 13, 3) := by decide +kernel
theorem dX5_part_147 : decode cX5_part 147 = .ok (.aload_n 0, 1) := by decide +kernel
theorem dX5_part_148 : decode cX5_part 148 = .ok (.iconst 1, 1) := by decide +kernel
theorem dX5_part_149 : decode cX5_part 149 = .ok (.aload_n 0, 1) := by decide +kernel
theorem dX5_part_150 : decode cX5_part 150 = .ok (.getfield 23, 3) := by decide +kernel
theorem dX5_part_153 : decode cX5_part 153 = .ok (.invokevirtual 62, 3) := by decide +kernel
theorem dX5_part_156 : decode cX5_part 156 = .ok (.ireturn, 1) := by decide +kernel
theorem dX5_part_157 : decode cX5_part 157 = .ok (.aload_n 0, 1) := by decide +kernel
theorem dX5_part_158 : decode cX5_part 158 = .ok (.iload_n 2, 1) := by decide +kernel
theorem dX5_part_159 : decode cX5_part 159 = .ok (.invokevirtual 74, 3) := by decide +kernel
theorem dX5_part_162 : decode cX5_part 162 = .ok (.ifCond .eq 29, 3) := by decide +kernel
theorem dX5_part_165 : decode cX5_part 165 = .ok (.aload_n 0, 1) := by decide +kernel
theorem dX5_part_166 : decode cX5_part 166 = .ok (.iload_n 2, 1) := by decide +kernel
theorem dX5_part_167 : decode cX5_part 167 = .ok (.bipush 24, 2) := by decide +kernel
theorem dX5_part_169 : decode cX5_part 169 = .ok (.if_icmp .ne 9, 3) := by decide +kernel
theorem dX5_part_172 : decode cX5_part 172 = .ok (.sipush 10030, 3) := by decide +kernel
theorem dX5_part_175 : decode cX5_part 175 = .ok (.goto 6, 3) := by decide +kernel
theorem dX5_part_178 : decode cX5_part 178 = .ok (.sipush 10031, 3) := by decide +kernel
theorem dX5_part_181 : decode cX5_part 181 = .ok (.invokevirtual 172, 3) := by decide +kernel
theorem dX5_part_184 : decode cX5_part 184 = .ok (.ifCond .eq 7, 3) := by decide +kernel
theorem dX5_part_187 : decode cX5_part 187 = .ok (.iconst 1, 1) := by decide +kernel
theorem dX5_part_188 : decode cX5_part 188 = .ok (.goto 4, 3) := by decide +kernel
theorem dX5_part_191 : decode cX5_part 191 = .ok (.iconst 0, 1) := by decide +kernel
theorem dX5_part_192 : decode cX5_part 192 = .ok (.ireturn, 1) := by decide +kernel
theorem dX5_choice_0 : decode cX5_choice 0 = .ok (.aload_n 0, 1) := by decide +kernel
theorem dX5_choice_1 : decode cX5_choice 1 = .ok (.invokevirtual 43, 3) := by decide +kernel
theorem dX5_choice_4 : decode cX5_choice 4 = .ok (.bipush 40, 2) := by decide +kernel
theorem dX5_choice_6 : decode cX5_choice 6 = .ok (.if_icmp .eq 13, 3) := by decide +kernel
theorem dX5_choice_9 : decode cX5_choice 9 = .ok (.aload_n 0, 1) := by decide +kernel
theorem dX5_choice_10 : decode cX5_choice 10 = .ok (.iconst 1, 1) := by decide +kernel
theorem dX5_choice_11 : decode cX5_choice 11 = .ok (.aload_n 0, 1) := by decide +kernel
theorem dX5_choice_12 : decode cX5_choice 12 = .ok (.getfield 23, 3) := by decide +kernel
theorem dX5_choice_15 : decode cX5_choice 15 = .ok (.invokevirtual 62, 3) := by decide +kernel
theorem dX5_choice_18 : decode cX5_choice 18 = .ok (.ireturn, 1) := by decide +kernel
theorem dX5_choice_19 : decode cX5_choice 19 = .ok (.aload_n 0, 1) := by decide +kernel
theorem dX5_choice_20 : decode cX5_choice 20 = .ok (.invokevirtual 154, 3) := by decide +kernel
theorem dX5_choice_23 : decode cX5_choice 23 = .ok (.ifCond .eq 44, 3) := by decide +kernel
theorem dX5_choice_26 : decode cX5_choice 26 = .ok (.aload_n 0, 1) := by decide +kernel
theorem dX5_choice_27 : decode cX5_choice 27 = .ok (.bipush 40, 2) := by decide +kernel
theorem dX5_choice_29 : decode cX5_choice 29 = .ok (.invokevirtual 88, 3) := by decide +kernel
theorem dX5_choice_32 : decode cX5_choice 32 = .ok (.ifCond .eq 35, 3) := by decide +kernel
theorem dX5_choice_35 : decode cX5_choice 35 = .ok (.aload_n 0, 1) := by decide +kernel
theorem dX5_choice_36 : decode cX5_choice 36 = .ok (.invokevirtual 160, 3) := by decide +kernel
theorem dX5_choice_39 : decode cX5_choice 39 = .ok (.ifCond .eq 28, 3) := by decide +kernel
theorem dX5_choice_42 : decode cX5_choice 42 = .ok (.aload_n 0, 1) := by decide +kernel
theorem dX5_choice_43 : decode cX5_choice 43 = .ok (.bipush 44, 2) := by decide +kernel
theorem dX5_choice_45 : decode cX5_choice 45 = .ok (.invokevirtual 88, 3) := by decide +kernel
theorem dX5_choice_48 : decode cX5_choice 48 = .ok (.ifCond .eq 19, 3) := by decide +kernel
theorem dX5_choice_51 : decode cX5_choice 51 = .ok (.aload_n 0, 1) := by decide +kernel
theorem dX5_choice_52 : decode cX5_choice 52 = .ok (.invokevirtual 160, 3) := by decide +kernel
theorem dX5_choice_55 : decode cX5_choice 55 = .ok (.ifCond .eq 12, 3) := by decide +kernel
theorem dX5_choice_58 : decode cX5_choice 58 = .ok (.aload_n 0, 1) := by decide +kernel
theorem dX5_choice_59 : decode cX5_choice 59 = .ok (.bipush 41, 2) := by decide +kernel
theorem dX5_choice_61 : decode cX5_choice 61 = .ok (.invokevirtual 88, 3) := by decide +kernel
theorem dX5_choice_64 : decode cX5_choice 64 = .ok (.ifCond .ne 5, 3) := by decide +kernel
theorem dX5_choice_67 : decode cX5_choice 67 = .ok (.iconst 0, 1) := by decide +kernel
theorem dX5_choice_68 : decode cX5_choice 68 = .ok (.ireturn, 1) := by decide +kernel
theorem dX5_choice_69 : decode cX5_choice 69 = .ok (.aload_n 0, 1) := by decide +kernel
theorem dX5_choice_70 : decode cX5_choice 70 = .ok (.getfield 19, 3) := by decide +kernel
theorem dX5_choice_73 : decode cX5_choice 73 = .ok (.iload_n 1, 1) := by decide +kernel
theorem dX5_choice_74 : decode cX5_choice 74 = .ok (.invokevirtual 147, 3) := by decide +kernel
theorem dX5_choice_77 : decode cX5_choice 77 = .ok (.aload_n 0, 1) := by decide +kernel
theorem dX5_choice_78 : decode cX5_choice 78 = .ok (.invokevirtual 157, 3) := by decide +kernel
theorem dX5_choice_81 : decode cX5_choice 81 = .ok (.ireturn, 1) := by decide +kernel
theorem dX5_opens_0 : decode cX5_opens 0 = .ok (.aload_n 0, 1) := by decide +kernel
theorem dX5_opens_1 : decode cX5_opens 1 = .ok (.getfield 29, 3) := by decide +kernel
theorem dX5_opens_4 : decode cX5_opens 4 = .ok (.bipush 6, 2) := by decide +kernel
theorem dX5_opens_6 : decode cX5_opens 6 = .ok (.if_icmp .lt 13, 3) := by decide +kernel
theorem dX5_opens_9 : decode cX5_opens 9 = .ok (.aload_n 0, 1) := by decide +kernel
theorem dX5_opens_10 : decode cX5_opens 10 = .ok (.iconst 4, 1) := by decide +kernel
theorem dX5_opens_11 : decode cX5_opens 11 = .ok (.aload_n 0, 1) := by decide +kernel
theorem dX5_opens_12 : decode cX5_opens 12 = .ok (.getfield 23, 3) := by decide +kernel
theorem dX5_opens_15 : decode cX5_opens 15 = .ok (.invokevirtual 62, 3) := by decide +kernel
theorem dX5_opens_18 : decode cX5_opens 18 = .ok (.ireturn, 1) := by decide +kernel
theorem dX5_opens_19 : decode cX5_opens 19 = .ok (.aload_n 0, 1) := by decide +kernel
theorem dX5_opens_20 : decode cX5_opens 20 = .ok (.dup, 1) := by decide +kernel
theorem dX5_opens_21 : decode cX5_opens 21 = .ok (.getfield 29, 3) := by decide +kernel
theorem dX5_opens_24 : decode cX5_opens 24 = .ok (.iconst 1, 1) := by decide +kernel
theorem dX5_opens_25 : decode cX5_opens 25 = .ok (.iadd, 1) := by decide +kernel
theorem dX5_opens_26 : decode cX5_opens 26 = .ok (.putfield 29, 3) := by decide +kernel
theorem dX5_opens_29 : decode cX5_opens 29 = .ok (.iconst 1, 1) := by decide +kernel
theorem dX5_opens_30 : decode cX5_opens 30 = .ok (.ireturn, 1) := by decide +kernel
theorem dX5_closes_0 : decode cX5_closes 0 = .ok (.aload_n 0, 1) := by decide +kernel
theorem dX5_closes_1 : decode cX5_closes 1 = .ok (.dup, 1) := by decide +kernel
theorem dX5_closes_2 : decode cX5_closes 2 = .ok (.getfield 29, 3) := by decide +kernel
theorem dX5_closes_5 : decode cX5_closes 5 = .ok (.iconst 1, 1) := by decide +kernel
theorem dX5_closes_6 : decode cX5_closes 6 = .ok (.isub, 1) := by decide +kernel
theorem dX5_closes_7 : decode cX5_closes 7 = .ok (.putfield 29, 3) := by decide +kernel
theorem dX5_closes_10 : decode cX5_closes 10 = .ok (.iconst 1, 1) := by decide +kernel
theorem dX5_closes_11 : decode cX5_closes 11 = .ok (.ireturn, 1) := by decide +kernel
theorem dX5_number_0 : decode cX5_number 0 = .ok (.aload_n 0, 1) := by decide +kernel
theorem dX5_number_1 : decode cX5_number 1 = .ok (.invokevirtual 43, 3) := by decide +kernel
theorem dX5_number_4 : decode cX5_number 4 = .ok (.invokestatic 169, 3) := by decide +kernel
theorem dX5_number_7 : decode cX5_number 7 = .ok (.ifCond .eq 14, 3) := by decide +kernel
theorem dX5_number_10 : decode cX5_number 10 = .ok (.aload_n 0, 1) := by decide +kernel
theorem dX5_number_11 : decode cX5_number 11 = .ok (.getfield 23, 3) := by decide +kernel
theorem dX5_number_14 : decode cX5_number 14 = .ok (.aload_n 0, 1) := by decide +kernel
theorem dX5_number_15 : decode cX5_number 15 = .ok (.getfield 26, 3) := by decide +kernel
theorem dX5_number_18 : decode cX5_number 18 = .ok (.if_icmp .ne 15, 3) := by decide +kernel
theorem dX5_number_21 : decode cX5_number 21 = .ok (.aload_n 0, 1) := by decide +kernel
theorem dX5_number_22 : decode cX5_number 22 = .ok (.iconst 1, 1) := by decide +kernel
theorem dX5_number_23 : decode cX5_number 23 = .ok (.aload_n 0, 1) := by decide +kernel
theorem dX5_number_24 : decode cX5_number 24 = .ok (.getfield 23, 3) := by decide +kernel
theorem dX5_number_27 : decode cX5_number 27 = .ok (.invokevirtual 62, 3) := by decide +kernel
theorem dX5_number_30 : decode cX5_number 30 = .ok (.pop, 1) := by decide +kernel
theorem dX5_number_31 : decode cX5_number 31 = .ok (.iconst (-1), 1) := by decide +kernel
theorem dX5_number_32 : decode cX5_number 32 = .ok (.ireturn, 1) := by decide +kernel
theorem dX5_number_33 : decode cX5_number 33 = .ok (.aload_n 0, 1) := by decide +kernel
theorem dX5_number_34 : decode cX5_number 34 = .ok (.getfield 23, 3) := by decide +kernel
theorem dX5_number_37 : decode cX5_number 37 = .ok (.istore_n 3, 1) := by decide +kernel
theorem dX5_number_38 : decode cX5_number 38 = .ok (.iconst 0, 1) := by decide +kernel
theorem dX5_number_39 : decode cX5_number 39 = .ok (.istore 4, 2) := by decide +kernel
theorem dX5_number_41 : decode cX5_number 41 = .ok (.iconst 0, 1) := by decide +kernel
theorem dX5_number_42 : decode cX5_number 42 = .ok (.istore 5, 2) := by decide +kernel
theorem dX5_number_44 : decode cX5_number 44 = .ok (.iload 5, 2) := by decide +kernel
theorem dX5_number_46 : decode cX5_number 46 = .ok (.iconst 4, 1) := by decide +kernel
theorem dX5_number_47 : decode cX5_number 47 = .ok (.if_icmp .ge 58, 3) := by decide +kernel
theorem dX5_number_50 : decode cX5_number 50 = .ok (.aload_n 0, 1) := by decide +kernel
theorem dX5_number_51 : decode cX5_number 51 = .ok (.getfield 15, 3) := by decide +kernel
theorem dX5_number_54 : decode cX5_number 54 = .ok (.aload_n 0, 1) := by decide +kernel
theorem dX5_number_55 : decode cX5_number 55 = .ok (.getfield 23, 3) := by decide +kernel
theorem dX5_number_58 : decode cX5_number 58 = .ok (.invokevirtual 133, 3) := by decide +kernel
theorem dX5_number_61 : decode cX5_number 61 = .ok (.invokestatic 169, 3) := by decide +kernel
theorem dX5_number_64 : decode cX5_number 64 = .ok (.ifCond .eq 41, 3) := by decide +kernel
theorem dX5_number_67 : decode cX5_number 67 = .ok (.bipush 10, 2) := by decide +kernel
theorem dX5_number_69 : decode cX5_number 69 = .ok (.iload 4, 2) := by decide +kernel
theorem dX5_number_71 : decode cX5_number 71 = .ok (.imul, 1) := by decide +kernel
theorem dX5_number_72 : decode cX5_number 72 = .ok (.aload_n 0, 1) := by decide +kernel
theorem dX5_number_73 : decode cX5_number 73 = .ok (.getfield 15, 3) := by decide +kernel
theorem dX5_number_76 : decode cX5_number 76 = .ok (.aload_n 0, 1) := by decide +kernel
theorem dX5_number_77 : decode cX5_number 77 = .ok (.getfield 23, 3) := by decide +kernel
theorem dX5_number_80 : decode cX5_number 80 = .ok (.invokevirtual 133, 3) := by decide +kernel
theorem dX5_number_83 : decode cX5_number 83 = .ok (.iadd, 1) := by decide +kernel
theorem dX5_number_84 : decode cX5_number 84 = .ok (.bipush 48, 2) := by decide +kernel
theorem dX5_number_86 : decode cX5_number 86 = .ok (.isub, 1) := by decide +kernel
theorem dX5_number_87 : decode cX5_number 87 = .ok (.istore 4, 2) := by decide +kernel
theorem dX5_number_89 : decode cX5_number 89 = .ok (.aload_n 0, 1) := by decide +kernel
theorem dX5_number_90 : decode cX5_number 90 = .ok (.dup, 1) := by decide +kernel
theorem dX5_number_91 : decode cX5_number 91 = .ok (.getfield 23, 3) := by decide +kernel
theorem dX5_number_94 : decode cX5_number 94 = .ok (.iconst 1, 1) := by decide +kernel
theorem dX5_number_95 : decode cX5_number 95 = .ok (.iadd, 1) := by decide +kernel
theorem dX5_number_96 : decode cX5_number 96 = .ok (.putfield 23, 3) := by decide +kernel
theorem dX5_number_99 : decode cX5_number 99 = .ok (.iinc 5 1, 3) := by decide +kernel
theorem dX5_number_102 : decode cX5_number 102 = .ok (.goto (-58), 3) := by decide +kernel
theorem dX5_number_105 : decode cX5_number 105 = .ok (.aload_n 0, 1) := by decide +kernel
theorem dX5_number_106 : decode cX5_number 106 = .ok (.getfield 15, 3) := by decide +kernel
theorem dX5_number_109 : decode cX5_number 109 = .ok (.aload_n 0, 1) := by decide +kernel
theorem dX5_number_110 : decode cX5_number 110 = .ok (.getfield 23, 3) := by decide +kernel
theorem dX5_number_113 : decode cX5_number 113 = .ok (.invokevirtual 133, 3) := by decide +kernel
theorem dX5_number_116 : decode cX5_number 116 = .ok (.invokestatic 169, 3) := by decide +kernel
theorem dX5_number_119 : decode cX5_number 119 = .ok (.ifCond .eq 15, 3) := by decide +kernel
theorem dX5_number_122 : decode cX5_number 122 = .ok (.aload_n 0, 1) := by decide +kernel
theorem dX5_number_123 : decode cX5_number 123 = .ok (.iconst 1, 1) := by decide +kernel
theorem dX5_number_124 : decode cX5_number 124 = .ok (.aload_n 0, 1) := by decide +kernel
theorem dX5_number_125 : decode cX5_number 125 = .ok (.getfield 23, 3) := by decide +kernel
theorem dX5_number_128 : decode cX5_number 128 = .ok (.invokevirtual 62, 3) := by decide +kernel
theorem dX5_number_131 : decode cX5_number 131 = .ok (.pop, 1) := by decide +kernel
theorem dX5_number_132 : decode cX5_number 132 = .ok (.iconst (-1), 1) := by decide +kernel
theorem dX5_number_133 : decode cX5_number 133 = .ok (.ireturn, 1) := by decide +kernel
theorem dX5_number_134 : decode cX5_number 134 = .ok (.iload 4, 2) := by decide +kernel
theorem dX5_number_136 : decode cX5_number 136 = .ok (.iload_n 1, 1) := by decide +kernel
theorem dX5_number_137 : decode cX5_number 137 = .ok (.if_icmp .lt 9, 3) := by decide +kernel
theorem dX5_number_140 : decode cX5_number 140 = .ok (.iload 4, 2) := by decide +kernel
theorem dX5_number_142 : decode cX5_number 142 = .ok (.iload_n 2, 1) := by decide +kernel
theorem dX5_number_143 : decode cX5_number 143 = .ok (.if_icmp .le 12, 3) := by decide +kernel
theorem dX5_number_146 : decode cX5_number 146 = .ok (.aload_n 0, 1) := by decide +kernel
theorem dX5_number_147 : decode cX5_number 147 = .ok (.iconst 2, 1) := by decide +kernel
theorem dX5_number_148 : decode cX5_number 148 = .ok (.iload_n 3, 1) := by decide +kernel
theorem dX5_number_149 : decode cX5_number 149 = .ok (.invokevirtual 62, 3) := by decide +kernel
theorem dX5_number_152 : decode cX5_number 152 = .ok (.pop, 1) := by decide +kernel
theorem dX5_number_153 : decode cX5_number 153 = .ok (.iconst (-1), 1) := by decide +kernel
theorem dX5_number_154 : decode cX5_number 154 = .ok (.ireturn, 1) := by decide +kernel
theorem dX5_number_155 : decode cX5_number 155 = .ok (.aload_n 0, 1) := by decide +kernel
theorem dX5_number_156 : decode cX5_number 156 = .ok (.aload_n 0, 1) := by decide +kernel
theorem dX5_number_157 : decode cX5_number 157 = .ok (.getfield 23, 3) := by decide +kernel
theorem dX5_number_160 : decode cX5_number 160 = .ok (.putfield 26, 3) := by decide +kernel
theorem dX5_number_163 : decode cX5_number 163 = .ok (.iload 4, 2) := by decide +kernel
theorem dX5_number_165 : decode cX5_number 165 = .ok (.ireturn, 1) := by decide +kernel
theorem dX5_expect_0 : decode cX5_expect 0 = .ok (.aload_n 0, 1) := by decide +kernel
theorem dX5_expect_1 : decode cX5_expect 1 = .ok (.invokevirtual 91, 3) := by decide +kernel
theorem dX5_expect_4 : decode cX5_expect 4 = .ok (.iload_n 1, 1) := by decide +kernel
theorem dX5_expect_5 : decode cX5_expect 5 = .ok (.if_icmp .eq 13, 3) := by decide +kernel
theorem dX5_expect_8 : decode cX5_expect 8 = .ok (.aload_n 0, 1) := by decide +kernel
theorem dX5_expect_9 : decode cX5_expect 9 = .ok (.iconst 1, 1) := by decide +kernel
theorem dX5_expect_10 : decode cX5_expect 10 = .ok (.aload_n 0, 1) := by decide +kernel
theorem dX5_expect_11 : decode cX5_expect 11 = .ok (.getfield 23, 3) := by decide +kernel
theorem dX5_expect_14 : decode cX5_expect 14 = .ok (.invokevirtual 62, 3) := by decide +kernel
theorem dX5_expect_17 : decode cX5_expect 17 = .ok (.ireturn, 1) := by decide +kernel
theorem dX5_expect_18 : decode cX5_expect 18 = .ok (.aload_n 0, 1) := by decide +kernel
theorem dX5_expect_19 : decode cX5_expect 19 = .ok (.invokevirtual 100, 3) := by decide +kernel
theorem dX5_expect_22 : decode cX5_expect 22 = .ok (.iconst 1, 1) := by decide +kernel
theorem dX5_expect_23 : decode cX5_expect 23 = .ok (.ireturn, 1) := by decide +kernel
theorem dX5_accept_0 : decode cX5_accept 0 = .ok (.aload_n 0, 1) := by decide +kernel
theorem dX5_accept_1 : decode cX5_accept 1 = .ok (.invokevirtual 91, 3) := by decide +kernel
theorem dX5_accept_4 : decode cX5_accept 4 = .ok (.iload_n 1, 1) := by decide +kernel
theorem dX5_accept_5 : decode cX5_accept 5 = .ok (.if_icmp .eq 5, 3) := by decide +kernel
theorem dX5_accept_8 : decode cX5_accept 8 = .ok (.iconst 0, 1) := by decide +kernel
theorem dX5_accept_9 : decode cX5_accept 9 = .ok (.ireturn, 1) := by decide +kernel
theorem dX5_accept_10 : decode cX5_accept 10 = .ok (.aload_n 0, 1) := by decide +kernel
theorem dX5_accept_11 : decode cX5_accept 11 = .ok (.invokevirtual 100, 3) := by decide +kernel
theorem dX5_accept_14 : decode cX5_accept 14 = .ok (.iconst 1, 1) := by decide +kernel
theorem dX5_accept_15 : decode cX5_accept 15 = .ok (.ireturn, 1) := by decide +kernel
theorem dX5_passWord_0 : decode cX5_passWord 0 = .ok (.aload_n 0, 1) := by decide +kernel
theorem dX5_passWord_1 : decode cX5_passWord 1 = .ok (.aload_n 0, 1) := by decide +kernel
theorem dX5_passWord_2 : decode cX5_passWord 2 = .ok (.getfield 130, 3) := by decide +kernel
theorem dX5_passWord_5 : decode cX5_passWord 5 = .ok (.putfield 23, 3) := by decide +kernel
theorem dX5_passWord_8 : decode cX5_passWord 8 = .ok (.aload_n 0, 1) := by decide +kernel
theorem dX5_passWord_9 : decode cX5_passWord 9 = .ok (.aload_n 0, 1) := by decide +kernel
theorem dX5_passWord_10 : decode cX5_passWord 10 = .ok (.getfield 130, 3) := by decide +kernel
theorem dX5_passWord_13 : decode cX5_passWord 13 = .ok (.putfield 26, 3) := by decide +kernel
theorem dX5_passWord_16 : decode cX5_passWord 16 = .ok (.return_, 1) := by decide +kernel
theorem dX5_expectSign_0 : decode cX5_expectSign 0 = .ok (.aload_n 0, 1) := by decide +kernel
theorem dX5_expectSign_1 : decode cX5_expectSign 1 = .ok (.invokevirtual 43, 3) := by decide +kernel
theorem dX5_expectSign_4 : decode cX5_expectSign 4 = .ok (.iload_n 1, 1) := by decide +kernel
theorem dX5_expectSign_5 : decode cX5_expectSign 5 = .ok (.if_icmp .eq 13, 3) := by decide +kernel
theorem dX5_expectSign_8 : decode cX5_expectSign 8 = .ok (.aload_n 0, 1) := by decide +kernel
theorem dX5_expectSign_9 : decode cX5_expectSign 9 = .ok (.iconst 1, 1) := by decide +kernel
theorem dX5_expectSign_10 : decode cX5_expectSign 10 = .ok (.aload_n 0, 1) := by decide +kernel
theorem dX5_expectSign_11 : decode cX5_expectSign 11 = .ok (.getfield 23, 3) := by decide +kernel
theorem dX5_expectSign_14 : decode cX5_expectSign 14 = .ok (.invokevirtual 62, 3) := by decide +kernel
theorem dX5_expectSign_17 : decode cX5_expectSign 17 = .ok (.ireturn, 1) := by decide +kernel
theorem dX5_expectSign_18 : decode cX5_expectSign 18 = .ok (.aload_n 0, 1) := by decide +kernel
theorem dX5_expectSign_19 : decode cX5_expectSign 19 = .ok (.dup, 1) := by decide +kernel
theorem dX5_expectSign_20 : decode cX5_expectSign 20 = .ok (.getfield 23, 3) := by decide +kernel
theorem dX5_expectSign_23 : decode cX5_expectSign 23 = .ok (.iconst 1, 1) := by decide +kernel
theorem dX5_expectSign_24 : decode cX5_expectSign 24 = .ok (.iadd, 1) := by decide +kernel
theorem dX5_expectSign_25 : decode cX5_expectSign 25 = .ok (.putfield 23, 3) := by decide +kernel
theorem dX5_expectSign_28 : decode cX5_expectSign 28 = .ok (.iconst 1, 1) := by decide +kernel
theorem dX5_expectSign_29 : decode cX5_expectSign 29 = .ok (.ireturn, 1) := by decide +kernel
theorem dX5_wordAhead_0 : decode cX5_wordAhead 0 = .ok (.aload_n 0, 1) := by decide +kernel
theorem dX5_wordAhead_1 : decode cX5_wordAhead 1 = .ok (.invokevirtual 43, 3) := by decide +kernel
theorem dX5_wordAhead_4 : decode cX5_wordAhead 4 = .ok (.invokestatic 127, 3) := by decide +kernel
theorem dX5_wordAhead_7 : decode cX5_wordAhead 7 = .ok (.ifCond .eq 14, 3) := by decide +kernel
theorem dX5_wordAhead_10 : decode cX5_wordAhead 10 = .ok (.aload_n 0, 1) := by decide +kernel
theorem dX5_wordAhead_11 : decode cX5_wordAhead 11 = .ok (.getfield 23, 3) := by decide +kernel
theorem dX5_wordAhead_14 : decode cX5_wordAhead 14 = .ok (.aload_n 0, 1) := by decide +kernel
theorem dX5_wordAhead_15 : decode cX5_wordAhead 15 = .ok (.getfield 26, 3) := by decide +kernel
theorem dX5_wordAhead_18 : decode cX5_wordAhead 18 = .ok (.if_icmp .ne 5, 3) := by decide +kernel
theorem dX5_wordAhead_21 : decode cX5_wordAhead 21 = .ok (.iconst (-1), 1) := by decide +kernel
theorem dX5_wordAhead_22 : decode cX5_wordAhead 22 = .ok (.ireturn, 1) := by decide +kernel
theorem dX5_wordAhead_23 : decode cX5_wordAhead 23 = .ok (.aload_n 0, 1) := by decide +kernel
theorem dX5_wordAhead_24 : decode cX5_wordAhead 24 = .ok (.aload_n 0, 1) := by decide +kernel
theorem dX5_wordAhead_25 : decode cX5_wordAhead 25 = .ok (.getfield 23, 3) := by decide +kernel
theorem dX5_wordAhead_28 : decode cX5_wordAhead 28 = .ok (.putfield 130, 3) := by decide +kernel
theorem dX5_wordAhead_31 : decode cX5_wordAhead 31 = .ok (.aload_n 0, 1) := by decide +kernel
theorem dX5_wordAhead_32 : decode cX5_wordAhead 32 = .ok (.getfield 130, 3) := by decide +kernel
theorem dX5_wordAhead_35 : decode cX5_wordAhead 35 = .ok (.aload_n 0, 1) := by decide +kernel
theorem dX5_wordAhead_36 : decode cX5_wordAhead 36 = .ok (.getfield 15, 3) := by decide +kernel
theorem dX5_wordAhead_39 : decode cX5_wordAhead 39 = .ok (.getfield 175, 3) := by decide +kernel
theorem dX5_wordAhead_42 : decode cX5_wordAhead 42 = .ok (.if_icmp .ge 33, 3) := by decide +kernel
theorem dX5_wordAhead_45 : decode cX5_wordAhead 45 = .ok (.aload_n 0, 1) := by decide +kernel
theorem dX5_wordAhead_46 : decode cX5_wordAhead 46 = .ok (.getfield 15, 3) := by decide +kernel
theorem dX5_wordAhead_49 : decode cX5_wordAhead 49 = .ok (.aload_n 0, 1) := by decide +kernel
theorem dX5_wordAhead_50 : decode cX5_wordAhead 50 = .ok (.getfield 130, 3) := by decide +kernel
theorem dX5_wordAhead_53 : decode cX5_wordAhead 53 = .ok (.invokevirtual 133, 3) := by decide +kernel
theorem dX5_wordAhead_56 : decode cX5_wordAhead 56 = .ok (.invokestatic 127, 3) := by decide +kernel
theorem dX5_wordAhead_59 : decode cX5_wordAhead 59 = .ok (.ifCond .eq 16, 3) := by decide +kernel
theorem dX5_wordAhead_62 : decode cX5_wordAhead 62 = .ok (.aload_n 0, 1) := by decide +kernel
theorem dX5_wordAhead_63 : decode cX5_wordAhead 63 = .ok (.dup, 1) := by decide +kernel
theorem dX5_wordAhead_64 : decode cX5_wordAhead 64 = .ok (.getfield 130, 3) := by decide +kernel
theorem dX5_wordAhead_67 : decode cX5_wordAhead 67 = .ok (.iconst 1, 1) := by decide +kernel
theorem dX5_wordAhead_68 : decode cX5_wordAhead 68 = .ok (.iadd, 1) := by decide +kernel
theorem dX5_wordAhead_69 : decode cX5_wordAhead 69 = .ok (.putfield 130, 3) := by decide +kernel
theorem dX5_wordAhead_72 : decode cX5_wordAhead 72 = .ok (.goto (-41), 3) := by decide +kernel
theorem dX5_wordAhead_75 : decode cX5_wordAhead 75 = .ok (.iconst 0, 1) := by decide +kernel
theorem dX5_wordAhead_76 : decode cX5_wordAhead 76 = .ok (.istore_n 1, 1) := by decide +kernel
theorem dX5_wordAhead_77 : decode cX5_wordAhead 77 = .ok (.iload_n 1, 1) := by decide +kernel
theorem dX5_wordAhead_78 : decode cX5_wordAhead 78 = .ok (.bipush 7, 2) := by decide +kernel
theorem dX5_wordAhead_80 : decode cX5_wordAhead 80 = .ok (.iadd, 1) := by decide +kernel
theorem dX5_wordAhead_81 : decode cX5_wordAhead 81 = .ok (.ldc 176, 2) := by decide +kernel
theorem dX5_wordAhead_83 : decode cX5_wordAhead 83 = .ok (.invokevirtual 178, 3) := by decide +kernel
theorem dX5_wordAhead_86 : decode cX5_wordAhead 86 = .ok (.if_icmp .gt 90, 3) := by decide +kernel
theorem dX5_wordAhead_89 : decode cX5_wordAhead 89 = .ok (.aload_n 0, 1) := by decide +kernel
theorem dX5_wordAhead_90 : decode cX5_wordAhead 90 = .ok (.getfield 130, 3) := by decide +kernel
theorem dX5_wordAhead_93 : decode cX5_wordAhead 93 = .ok (.aload_n 0, 1) := by decide +kernel
theorem dX5_wordAhead_94 : decode cX5_wordAhead 94 = .ok (.getfield 23, 3) := by decide +kernel
theorem dX5_wordAhead_97 : decode cX5_wordAhead 97 = .ok (.isub, 1) := by decide +kernel
theorem dX5_wordAhead_98 : decode cX5_wordAhead 98 = .ok (.bipush 7, 2) := by decide +kernel
theorem dX5_wordAhead_100 : decode cX5_wordAhead 100 = .ok (.if_icmp .gt 76, 3) := by decide +kernel
theorem dX5_wordAhead_103 : decode cX5_wordAhead 103 = .ok (.iconst 0, 1) := by decide +kernel
theorem dX5_wordAhead_104 : decode cX5_wordAhead 104 = .ok (.istore_n 2, 1) := by decide +kernel
theorem dX5_wordAhead_105 : decode cX5_wordAhead 105 = .ok (.iload_n 2, 1) := by decide +kernel
theorem dX5_wordAhead_106 : decode cX5_wordAhead 106 = .ok (.bipush 7, 2) := by decide +kernel
theorem dX5_wordAhead_108 : decode cX5_wordAhead 108 = .ok (.if_icmp .ge 51, 3) := by decide +kernel
theorem dX5_wordAhead_111 : decode cX5_wordAhead 111 = .ok (.ldc 176, 2) := by decide +kernel
theorem dX5_wordAhead_113 : decode cX5_wordAhead 113 = .ok (.iload_n 1, 1) := by decide +kernel
theorem dX5_wordAhead_114 : decode cX5_wordAhead 114 = .ok (.iload_n 2, 1) := by decide +kernel
theorem dX5_wordAhead_115 : decode cX5_wordAhead 115 = .ok (.iadd, 1) := by decide +kernel
theorem dX5_wordAhead_116 : decode cX5_wordAhead 116 = .ok (.invokevirtual 182, 3) := by decide +kernel
theorem dX5_wordAhead_119 : decode cX5_wordAhead 119 = .ok (.aload_n 0, 1) := by decide +kernel
theorem dX5_wordAhead_120 : decode cX5_wordAhead 120 = .ok (.getfield 23, 3) := by decide +kernel
theorem dX5_wordAhead_123 : decode cX5_wordAhead 123 = .ok (.iload_n 2, 1) := by decide +kernel
theorem dX5_wordAhead_124 : decode cX5_wordAhead 124 = .ok (.iadd, 1) := by decide +kernel
theorem dX5_wordAhead_125 : decode cX5_wordAhead 125 = .ok (.aload_n 0, 1) := by decide +kernel
theorem dX5_wordAhead_126 : decode cX5_wordAhead 126 = .ok (.getfield 130, 3) := by decide +kernel
theorem dX5_wordAhead_129 : decode cX5_wordAhead 129 = .ok (.if_icmp .ge 19, 3) := by decide +kernel
theorem dX5_wordAhead_132 : decode cX5_wordAhead 132 = .ok (.aload_n 0, 1) := by decide +kernel
theorem dX5_wordAhead_133 : decode cX5_wordAhead 133 = .ok (.getfield 15, 3) := by decide +kernel
theorem dX5_wordAhead_136 : decode cX5_wordAhead 136 = .ok (.aload_n 0, 1) := by decide +kernel
theorem dX5_wordAhead_137 : decode cX5_wordAhead 137 = .ok (.getfield 23, 3) := by decide +kernel
theorem dX5_wordAhead_140 : decode cX5_wordAhead 140 = .ok (.iload_n 2, 1) := by decide +kernel
theorem dX5_wordAhead_141 : decode cX5_wordAhead 141 = .ok (.iadd, 1) := by decide +kernel
theorem dX5_wordAhead_142 : decode cX5_wordAhead 142 = .ok (.invokevirtual 133, 3) := by decide +kernel
theorem dX5_wordAhead_145 : decode cX5_wordAhead 145 = .ok (.goto 5, 3) := by decide +kernel
theorem dX5_wordAhead_148 : decode cX5_wordAhead 148 = .ok (.bipush 32, 2) := by decide +kernel
theorem dX5_wordAhead_150 : decode cX5_wordAhead 150 = .ok (.if_icmp .ne 9, 3) := by decide +kernel
theorem dX5_wordAhead_153 : decode cX5_wordAhead 153 = .ok (.iinc 2 1, 3) := by decide +kernel
theorem dX5_wordAhead_156 : decode cX5_wordAhead 156 = .ok (.goto (-51), 3) := by decide +kernel
theorem dX5_wordAhead_159 : decode cX5_wordAhead 159 = .ok (.iload_n 2, 1) := by decide +kernel
theorem dX5_wordAhead_160 : decode cX5_wordAhead 160 = .ok (.bipush 7, 2) := by decide +kernel
theorem dX5_wordAhead_162 : decode cX5_wordAhead 162 = .ok (.if_icmp .ne 8, 3) := by decide +kernel
theorem dX5_wordAhead_165 : decode cX5_wordAhead 165 = .ok (.iload_n 1, 1) := by decide +kernel
theorem dX5_wordAhead_166 : decode cX5_wordAhead 166 = .ok (.bipush 7, 2) := by decide +kernel
theorem dX5_wordAhead_168 : decode cX5_wordAhead 168 = .ok (.idiv, 1) := by decide +kernel
theorem dX5_wordAhead_169 : decode cX5_wordAhead 169 = .ok (.ireturn, 1) := by decide +kernel
theorem dX5_wordAhead_170 : decode cX5_wordAhead 170 = .ok (.iinc 1 7, 3) := by decide +kernel
theorem dX5_wordAhead_173 : decode cX5_wordAhead 173 = .ok (.goto (-96), 3) := by decide +kernel
theorem dX5_wordAhead_176 : decode cX5_wordAhead 176 = .ok (.iconst (-1), 1) := by decide +kernel
theorem dX5_wordAhead_177 : decode cX5_wordAhead 177 = .ok (.ireturn, 1) := by decide +kernel
theorem dX5_peek_0 : decode cX5_peek 0 = .ok (.aload_n 0, 1) := by decide +kernel
theorem dX5_peek_1 : decode cX5_peek 1 = .ok (.getfield 23, 3) := by decide +kernel
theorem dX5_peek_4 : decode cX5_peek 4 = .ok (.aload_n 0, 1) := by decide +kernel
theorem dX5_peek_5 : decode cX5_peek 5 = .ok (.getfield 15, 3) := by decide +kernel
theorem dX5_peek_8 : decode cX5_peek 8 = .ok (.getfield 175, 3) := by decide +kernel
theorem dX5_peek_11 : decode cX5_peek 11 = .ok (.if_icmp .ge 50, 3) := by decide +kernel
theorem dX5_peek_14 : decode cX5_peek 14 = .ok (.aload_n 0, 1) := by decide +kernel
theorem dX5_peek_15 : decode cX5_peek 15 = .ok (.getfield 15, 3) := by decide +kernel
theorem dX5_peek_18 : decode cX5_peek 18 = .ok (.getfield 186, 3) := by decide +kernel
theorem dX5_peek_21 : decode cX5_peek 21 = .ok (.aload_n 0, 1) := by decide +kernel
theorem dX5_peek_22 : decode cX5_peek 22 = .ok (.getfield 23, 3) := by decide +kernel
theorem dX5_peek_25 : decode cX5_peek 25 = .ok (.iaload, 1) := by decide +kernel
theorem dX5_peek_26 : decode cX5_peek 26 = .ok (.bipush 32, 2) := by decide +kernel
theorem dX5_peek_28 : decode cX5_peek 28 = .ok (.if_icmp .eq 20, 3) := by decide +kernel
theorem dX5_peek_31 : decode cX5_peek 31 = .ok (.aload_n 0, 1) := by decide +kernel
theorem dX5_peek_32 : decode cX5_peek 32 = .ok (.getfield 15, 3) := by decide +kernel
theorem dX5_peek_35 : decode cX5_peek 35 = .ok (.getfield 186, 3) := by decide +kernel
theorem dX5_peek_38 : decode cX5_peek 38 = .ok (.aload_n 0, 1) := by decide +kernel
theorem dX5_peek_39 : decode cX5_peek 39 = .ok (.getfield 23, 3) := by decide +kernel
theorem dX5_peek_42 : decode cX5_peek 42 = .ok (.iaload, 1) := by decide +kernel
theorem dX5_peek_43 : decode cX5_peek 43 = .ok (.bipush 10, 2) := by decide +kernel
theorem dX5_peek_45 : decode cX5_peek 45 = .ok (.if_icmp .ne 16, 3) := by decide +kernel
theorem dX5_peek_48 : decode cX5_peek 48 = .ok (.aload_n 0, 1) := by decide +kernel
theorem dX5_peek_49 : decode cX5_peek 49 = .ok (.dup, 1) := by decide +kernel
theorem dX5_peek_50 : decode cX5_peek 50 = .ok (.getfield 23, 3) := by decide +kernel
theorem dX5_peek_53 : decode cX5_peek 53 = .ok (.iconst 1, 1) := by decide +kernel
theorem dX5_peek_54 : decode cX5_peek 54 = .ok (.iadd, 1) := by decide +kernel
theorem dX5_peek_55 : decode cX5_peek 55 = .ok (.putfield 23, 3) := by decide +kernel
theorem dX5_peek_58 : decode cX5_peek 58 = .ok (.goto (-58), 3) := by decide +kernel
theorem dX5_peek_61 : decode cX5_peek 61 = .ok (.aload_n 0, 1) := by decide +kernel
theorem dX5_peek_62 : decode cX5_peek 62 = .ok (.getfield 23, 3) := by decide +kernel
theorem dX5_peek_65 : decode cX5_peek 65 = .ok (.aload_n 0, 1) := by decide +kernel
theorem dX5_peek_66 : decode cX5_peek 66 = .ok (.getfield 15, 3) := by decide +kernel
theorem dX5_peek_69 : decode cX5_peek 69 = .ok (.getfield 175, 3) := by decide +kernel
theorem dX5_peek_72 : decode cX5_peek 72 = .ok (.if_icmp .ge 18, 3) := by decide +kernel
theorem dX5_peek_75 : decode cX5_peek 75 = .ok (.aload_n 0, 1) := by decide +kernel
theorem dX5_peek_76 : decode cX5_peek 76 = .ok (.getfield 15, 3) := by decide +kernel
theorem dX5_peek_79 : decode cX5_peek 79 = .ok (.getfield 186, 3) := by decide +kernel
theorem dX5_peek_82 : decode cX5_peek 82 = .ok (.aload_n 0, 1) := by decide +kernel
theorem dX5_peek_83 : decode cX5_peek 83 = .ok (.getfield 23, 3) := by decide +kernel
theorem dX5_peek_86 : decode cX5_peek 86 = .ok (.iaload, 1) := by decide +kernel
theorem dX5_peek_87 : decode cX5_peek 87 = .ok (.goto 4, 3) := by decide +kernel
theorem dX5_peek_90 : decode cX5_peek 90 = .ok (.iconst (-1), 1) := by decide +kernel
theorem dX5_peek_91 : decode cX5_peek 91 = .ok (.ireturn, 1) := by decide +kernel
theorem dX5_fail_0 : decode cX5_fail 0 = .ok (.aload_n 0, 1) := by decide +kernel
theorem dX5_fail_1 : decode cX5_fail 1 = .ok (.iload_n 1, 1) := by decide +kernel
theorem dX5_fail_2 : decode cX5_fail 2 = .ok (.putfield 32, 3) := by decide +kernel
theorem dX5_fail_5 : decode cX5_fail 5 = .ok (.aload_n 0, 1) := by decide +kernel
theorem dX5_fail_6 : decode cX5_fail 6 = .ok (.iload_n 2, 1) := by decide +kernel
theorem dX5_fail_7 : decode cX5_fail 7 = .ok (.putfield 9, 3) := by decide +kernel
theorem dX5_fail_10 : decode cX5_fail 10 = .ok (.iconst 0, 1) := by decide +kernel
theorem dX5_fail_11 : decode cX5_fail 11 = .ok (.ireturn, 1) := by decide +kernel
theorem dX5_isLetter_0 : decode cX5_isLetter 0 = .ok (.iload_n 0, 1) := by decide +kernel
theorem dX5_isLetter_1 : decode cX5_isLetter 1 = .ok (.bipush 97, 2) := by decide +kernel
theorem dX5_isLetter_3 : decode cX5_isLetter 3 = .ok (.if_icmp .lt 13, 3) := by decide +kernel
theorem dX5_isLetter_6 : decode cX5_isLetter 6 = .ok (.iload_n 0, 1) := by decide +kernel
theorem dX5_isLetter_7 : decode cX5_isLetter 7 = .ok (.bipush 122, 2) := by decide +kernel
theorem dX5_isLetter_9 : decode cX5_isLetter 9 = .ok (.if_icmp .gt 7, 3) := by decide +kernel
theorem dX5_isLetter_12 : decode cX5_isLetter 12 = .ok (.iconst 1, 1) := by decide +kernel
theorem dX5_isLetter_13 : decode cX5_isLetter 13 = .ok (.goto 4, 3) := by decide +kernel
theorem dX5_isLetter_16 : decode cX5_isLetter 16 = .ok (.iconst 0, 1) := by decide +kernel
theorem dX5_isLetter_17 : decode cX5_isLetter 17 = .ok (.ireturn, 1) := by decide +kernel
theorem dX5_isDigit_0 : decode cX5_isDigit 0 = .ok (.iload_n 0, 1) := by decide +kernel
theorem dX5_isDigit_1 : decode cX5_isDigit 1 = .ok (.bipush 48, 2) := by decide +kernel
theorem dX5_isDigit_3 : decode cX5_isDigit 3 = .ok (.if_icmp .lt 13, 3) := by decide +kernel
theorem dX5_isDigit_6 : decode cX5_isDigit 6 = .ok (.iload_n 0, 1) := by decide +kernel
theorem dX5_isDigit_7 : decode cX5_isDigit 7 = .ok (.bipush 57, 2) := by decide +kernel
theorem dX5_isDigit_9 : decode cX5_isDigit 9 = .ok (.if_icmp .gt 7, 3) := by decide +kernel
theorem dX5_isDigit_12 : decode cX5_isDigit 12 = .ok (.iconst 1, 1) := by decide +kernel
theorem dX5_isDigit_13 : decode cX5_isDigit 13 = .ok (.goto 4, 3) := by decide +kernel
theorem dX5_isDigit_16 : decode cX5_isDigit 16 = .ok (.iconst 0, 1) := by decide +kernel
theorem dX5_isDigit_17 : decode cX5_isDigit 17 = .ok (.ireturn, 1) := by decide +kernel
theorem dX6_init_0 : decode cX6_init 0 = .ok (.aload_n 0, 1) := by decide +kernel
theorem dX6_init_1 : decode cX6_init 1 = .ok (.invokespecial 3, 3) := by decide +kernel
theorem dX6_init_4 : decode cX6_init 4 = .ok (.aload_n 0, 1) := by decide +kernel
theorem dX6_init_5 : decode cX6_init 5 = .ok (.bipush 25, 2) := by decide +kernel
theorem dX6_init_7 : decode cX6_init 7 = .ok (.newarray .int, 2) := by decide +kernel
theorem dX6_init_9 : decode cX6_init 9 = .ok (.putfield 9, 3) := by decide +kernel
theorem dX6_init_12 : decode cX6_init 12 = .ok (.aload_n 0, 1) := by decide +kernel
theorem dX6_init_13 : decode cX6_init 13 = .ok (.bipush 25, 2) := by decide +kernel
theorem dX6_init_15 : decode cX6_init 15 = .ok (.newarray .int, 2) := by decide +kernel
theorem dX6_init_17 : decode cX6_init 17 = .ok (.putfield 15, 3) := by decide +kernel
theorem dX6_init_20 : decode cX6_init 20 = .ok (.aload_n 0, 1) := by decide +kernel
theorem dX6_init_21 : decode cX6_init 21 = .ok (.new 18, 3) := by decide +kernel
theorem dX6_init_24 : decode cX6_init 24 = .ok (.dup, 1) := by decide +kernel
theorem dX6_init_25 : decode cX6_init 25 = .ok (.invokespecial 20, 3) := by decide +kernel
theorem dX6_init_28 : decode cX6_init 28 = .ok (.putfield 21, 3) := by decide +kernel
theorem dX6_init_31 : decode cX6_init 31 = .ok (.return_, 1) := by decide +kernel
theorem dX6_write_0 : decode cX6_write 0 = .ok (.aload_n 0, 1) := by decide +kernel
theorem dX6_write_1 : decode cX6_write 1 = .ok (.getfield 21, 3) := by decide +kernel
theorem dX6_write_4 : decode cX6_write 4 = .ok (.iload_n 2, 1) := by decide +kernel
theorem dX6_write_5 : decode cX6_write 5 = .ok (.invokevirtual 25, 3) := by decide +kernel
theorem dX6_write_8 : decode cX6_write 8 = .ok (.aload_n 0, 1) := by decide +kernel
theorem dX6_write_9 : decode cX6_write 9 = .ok (.iconst 0, 1) := by decide +kernel
theorem dX6_write_10 : decode cX6_write 10 = .ok (.putfield 29, 3) := by decide +kernel
theorem dX6_write_13 : decode cX6_write 13 = .ok (.aload_n 0, 1) := by decide +kernel
theorem dX6_write_14 : decode cX6_write 14 = .ok (.getfield 21, 3) := by decide +kernel
theorem dX6_write_17 : decode cX6_write 17 = .ok (.getfield 33, 3) := by decide +kernel
theorem dX6_write_20 : decode cX6_write 20 = .ok (.istore_n 3, 1) := by decide +kernel
theorem dX6_write_21 : decode cX6_write 21 = .ok (.ldc 36, 2) := by decide +kernel
theorem dX6_write_23 : decode cX6_write 23 = .ok (.istore 4, 2) := by decide +kernel
theorem dX6_write_25 : decode cX6_write 25 = .ok (.iconst 0, 1) := by decide +kernel
theorem dX6_write_26 : decode cX6_write 26 = .ok (.istore 5, 2) := by decide +kernel
theorem dX6_write_28 : decode cX6_write 28 = .ok (.iload 5, 2) := by decide +kernel
theorem dX6_write_30 : decode cX6_write 30 = .ok (.aload_n 1, 1) := by decide +kernel
theorem dX6_write_31 : decode cX6_write 31 = .ok (.getfield 37, 3) := by decide +kernel
theorem dX6_write_34 : decode cX6_write 34 = .ok (.if_icmp .ge 82, 3) := by decide +kernel
theorem dX6_write_37 : decode cX6_write 37 = .ok (.aload_n 0, 1) := by decide +kernel
theorem dX6_write_38 : decode cX6_write 38 = .ok (.getfield 21, 3) := by decide +kernel
theorem dX6_write_41 : decode cX6_write 41 = .ok (.getfield 40, 3) := by decide +kernel
theorem dX6_write_44 : decode cX6_write 44 = .ok (.iconst 1, 1) := by decide +kernel
theorem dX6_write_45 : decode cX6_write 45 = .ok (.if_icmp .ne 15, 3) := by decide +kernel
theorem dX6_write_48 : decode cX6_write 48 = .ok (.aload_n 1, 1) := by decide +kernel
theorem dX6_write_49 : decode cX6_write 49 = .ok (.getfield 37, 3) := by decide +kernel
theorem dX6_write_52 : decode cX6_write 52 = .ok (.iconst 1, 1) := by decide +kernel
theorem dX6_write_53 : decode cX6_write 53 = .ok (.isub, 1) := by decide +kernel
theorem dX6_write_54 : decode cX6_write 54 = .ok (.iload 5, 2) := by decide +kernel
theorem dX6_write_56 : decode cX6_write 56 = .ok (.isub, 1) := by decide +kernel
theorem dX6_write_57 : decode cX6_write 57 = .ok (.goto 5, 3) := by decide +kernel
theorem dX6_write_60 : decode cX6_write 60 = .ok (.iload 5, 2) := by decide +kernel
theorem dX6_write_62 : decode cX6_write 62 = .ok (.istore 6, 2) := by decide +kernel
theorem dX6_write_64 : decode cX6_write 64 = .ok (.aload_n 0, 1) := by decide +kernel
theorem dX6_write_65 : decode cX6_write 65 = .ok (.getfield 21, 3) := by decide +kernel
theorem dX6_write_68 : decode cX6_write 68 = .ok (.aload_n 1, 1) := by decide +kernel
theorem dX6_write_69 : decode cX6_write 69 = .ok (.iload 6, 2) := by decide +kernel
theorem dX6_write_71 : decode cX6_write 71 = .ok (.invokevirtual 43, 3) := by decide +kernel
theorem dX6_write_74 : decode cX6_write 74 = .ok (.istore 7, 2) := by decide +kernel
theorem dX6_write_76 : decode cX6_write 76 = .ok (.iload 7, 2) := by decide +kernel
theorem dX6_write_78 : decode cX6_write 78 = .ok (.iload 4, 2) := by decide +kernel
theorem dX6_write_80 : decode cX6_write 80 = .ok (.if_icmp .eq 10, 3) := by decide +kernel
theorem dX6_write_83 : decode cX6_write 83 = .ok (.aload_n 0, 1) := by decide +kernel
theorem dX6_write_84 : decode cX6_write 84 = .ok (.iload_n 3, 1) := by decide +kernel
theorem dX6_write_85 : decode cX6_write 85 = .ok (.iload 7, 2) := by decide +kernel
theorem dX6_write_87 : decode cX6_write 87 = .ok (.invokevirtual 47, 3) := by decide +kernel
theorem dX6_write_90 : decode cX6_write 90 = .ok (.iload 7, 2) := by decide +kernel
theorem dX6_write_92 : decode cX6_write 92 = .ok (.istore 4, 2) := by decide +kernel
theorem dX6_write_94 : decode cX6_write 94 = .ok (.iload_n 3, 1) := by decide +kernel
theorem dX6_write_95 : decode cX6_write 95 = .ok (.aload_n 0, 1) := by decide +kernel
theorem dX6_write_96 : decode cX6_write 96 = .ok (.getfield 21, 3) := by decide +kernel
theorem dX6_write_99 : decode cX6_write 99 = .ok (.aload_n 1, 1) := by decide +kernel
theorem dX6_write_100 : decode cX6_write 100 = .ok (.iload 6, 2) := by decide +kernel
theorem dX6_write_102 : decode cX6_write 102 = .ok (.invokevirtual 51, 3) := by decide +kernel
theorem dX6_write_105 : decode cX6_write 105 = .ok (.invokevirtual 55, 3) := by decide +kernel
theorem dX6_write_108 : decode cX6_write 108 = .ok (.iadd, 1) := by decide +kernel
theorem dX6_write_109 : decode cX6_write 109 = .ok (.istore_n 3, 1) := by decide +kernel
theorem dX6_write_110 : decode cX6_write 110 = .ok (.iinc 5 1, 3) := by decide +kernel
theorem dX6_write_113 : decode cX6_write 113 = .ok (.goto (-85), 3) := by decide +kernel
theorem dX6_write_116 : decode cX6_write 116 = .ok (.iload 4, 2) := by decide +kernel
theorem dX6_write_118 : decode cX6_write 118 = .ok (.ldc 36, 2) := by decide +kernel
theorem dX6_write_120 : decode cX6_write 120 = .ok (.if_icmp .eq 10, 3) := by decide +kernel
theorem dX6_write_123 : decode cX6_write 123 = .ok (.aload_n 0, 1) := by decide +kernel
theorem dX6_write_124 : decode cX6_write 124 = .ok (.iload_n 3, 1) := by decide +kernel
theorem dX6_write_125 : decode cX6_write 125 = .ok (.ldc 36, 2) := by decide +kernel
theorem dX6_write_127 : decode cX6_write 127 = .ok (.invokevirtual 47, 3) := by decide +kernel
theorem dX6_write_130 : decode cX6_write 130 = .ok (.return_, 1) := by decide +kernel
theorem dX6_put_0 : decode cX6_put 0 = .ok (.aload_n 0, 1) := by decide +kernel
theorem dX6_put_1 : decode cX6_put 1 = .ok (.getfield 29, 3) := by decide +kernel
theorem dX6_put_4 : decode cX6_put 4 = .ok (.aload_n 0, 1) := by decide +kernel
theorem dX6_put_5 : decode cX6_put 5 = .ok (.getfield 9, 3) := by decide +kernel
theorem dX6_put_8 : decode cX6_put 8 = .ok (.arraylength, 1) := by decide +kernel
theorem dX6_put_9 : decode cX6_put 9 = .ok (.if_icmp .ge 33, 3) := by decide +kernel
theorem dX6_put_12 : decode cX6_put 12 = .ok (.aload_n 0, 1) := by decide +kernel
theorem dX6_put_13 : decode cX6_put 13 = .ok (.getfield 9, 3) := by decide +kernel
theorem dX6_put_16 : decode cX6_put 16 = .ok (.aload_n 0, 1) := by decide +kernel
theorem dX6_put_17 : decode cX6_put 17 = .ok (.getfield 29, 3) := by decide +kernel
theorem dX6_put_20 : decode cX6_put 20 = .ok (.iload_n 1, 1) := by decide +kernel
theorem dX6_put_21 : decode cX6_put 21 = .ok (.iastore, 1) := by decide +kernel
theorem dX6_put_22 : decode cX6_put 22 = .ok (.aload_n 0, 1) := by decide +kernel
theorem dX6_put_23 : decode cX6_put 23 = .ok (.getfield 15, 3) := by decide +kernel
theorem dX6_put_26 : decode cX6_put 26 = .ok (.aload_n 0, 1) := by decide +kernel
theorem dX6_put_27 : decode cX6_put 27 = .ok (.getfield 29, 3) := by decide +kernel
theorem dX6_put_30 : decode cX6_put 30 = .ok (.iload_n 2, 1) := by decide +kernel
theorem dX6_put_31 : decode cX6_put 31 = .ok (.iastore, 1) := by decide +kernel
theorem dX6_put_32 : decode cX6_put 32 = .ok (.aload_n 0, 1) := by decide +kernel
theorem dX6_put_33 : decode cX6_put 33 = .ok (.dup, 1) := by decide +kernel
theorem dX6_put_34 : decode cX6_put 34 = .ok (.getfield 29, 3) := by decide +kernel
theorem dX6_put_37 : decode cX6_put 37 = .ok (.iconst 1, 1) := by decide +kernel
theorem dX6_put_38 : decode cX6_put 38 = .ok (.iadd, 1) := by decide +kernel
theorem dX6_put_39 : decode cX6_put 39 = .ok (.putfield 29, 3) := by decide +kernel
theorem dX6_put_42 : decode cX6_put 42 = .ok (.return_, 1) := by decide +kernel
theorem dX6_print_0 : decode cX6_print 0 = .ok (.aload_n 0, 1) := by decide +kernel
theorem dX6_print_1 : decode cX6_print 1 = .ok (.getfield 29, 3) := by decide +kernel
theorem dX6_print_4 : decode cX6_print 4 = .ok (.istore_n 1, 1) := by decide +kernel
theorem dX6_print_5 : decode cX6_print 5 = .ok (.iconst 0, 1) := by decide +kernel
theorem dX6_print_6 : decode cX6_print 6 = .ok (.istore_n 2, 1) := by decide +kernel
theorem dX6_print_7 : decode cX6_print 7 = .ok (.iload_n 2, 1) := by decide +kernel
theorem dX6_print_8 : decode cX6_print 8 = .ok (.aload_n 0, 1) := by decide +kernel
theorem dX6_print_9 : decode cX6_print 9 = .ok (.getfield 29, 3) := by decide +kernel
theorem dX6_print_12 : decode cX6_print 12 = .ok (.if_icmp .ge 32, 3) := by decide +kernel
theorem dX6_print_15 : decode cX6_print 15 = .ok (.iload_n 1, 1) := by decide +kernel
theorem dX6_print_16 : decode cX6_print 16 = .ok (.bipush 31, 2) := by decide +kernel
theorem dX6_print_18 : decode cX6_print 18 = .ok (.imul, 1) := by decide +kernel
theorem dX6_print_19 : decode cX6_print 19 = .ok (.aload_n 0, 1) := by decide +kernel
theorem dX6_print_20 : decode cX6_print 20 = .ok (.getfield 9, 3) := by decide +kernel
theorem dX6_print_23 : decode cX6_print 23 = .ok (.iload_n 2, 1) := by decide +kernel
theorem dX6_print_24 : decode cX6_print 24 = .ok (.iaload, 1) := by decide +kernel
theorem dX6_print_25 : decode cX6_print 25 = .ok (.iadd, 1) := by decide +kernel
theorem dX6_print_26 : decode cX6_print 26 = .ok (.sipush 131, 3) := by decide +kernel
theorem dX6_print_29 : decode cX6_print 29 = .ok (.imul, 1) := by decide +kernel
theorem dX6_print_30 : decode cX6_print 30 = .ok (.aload_n 0, 1) := by decide +kernel
theorem dX6_print_31 : decode cX6_print 31 = .ok (.getfield 15, 3) := by decide +kernel
theorem dX6_print_34 : decode cX6_print 34 = .ok (.iload_n 2, 1) := by decide +kernel
theorem dX6_print_35 : decode cX6_print 35 = .ok (.iaload, 1) := by decide +kernel
theorem dX6_print_36 : decode cX6_print 36 = .ok (.iadd, 1) := by decide +kernel
theorem dX6_print_37 : decode cX6_print 37 = .ok (.istore_n 1, 1) := by decide +kernel
theorem dX6_print_38 : decode cX6_print 38 = .ok (.iinc 2 1, 3) := by decide +kernel
theorem dX6_print_41 : decode cX6_print 41 = .ok (.goto (-34), 3) := by decide +kernel
theorem dX6_print_44 : decode cX6_print 44 = .ok (.iload_n 1, 1) := by decide +kernel
theorem dX6_print_45 : decode cX6_print 45 = .ok (.iload_n 1, 1) := by decide +kernel
theorem dX6_print_46 : decode cX6_print 46 = .ok (.bipush 15, 2) := by decide +kernel
theorem dX6_print_48 : decode cX6_print 48 = .ok (.iushr, 1) := by decide +kernel
theorem dX6_print_49 : decode cX6_print 49 = .ok (.ixor, 1) := by decide +kernel
theorem dX6_print_50 : decode cX6_print 50 = .ok (.ireturn, 1) := by decide +kernel
theorem dX6_isSame_0 : decode cX6_isSame 0 = .ok (.aload_n 0, 1) := by decide +kernel
theorem dX6_isSame_1 : decode cX6_isSame 1 = .ok (.getfield 29, 3) := by decide +kernel
theorem dX6_isSame_4 : decode cX6_isSame 4 = .ok (.aload_n 1, 1) := by decide +kernel
theorem dX6_isSame_5 : decode cX6_isSame 5 = .ok (.getfield 29, 3) := by decide +kernel
theorem dX6_isSame_8 : decode cX6_isSame 8 = .ok (.if_icmp .eq 5, 3) := by decide +kernel
theorem dX6_isSame_11 : decode cX6_isSame 11 = .ok (.iconst 0, 1) := by decide +kernel
theorem dX6_isSame_12 : decode cX6_isSame 12 = .ok (.ireturn, 1) := by decide +kernel
theorem dX6_isSame_13 : decode cX6_isSame 13 = .ok (.iconst 0, 1) := by decide +kernel
theorem dX6_isSame_14 : decode cX6_isSame 14 = .ok (.istore_n 2, 1) := by decide +kernel
theorem dX6_isSame_15 : decode cX6_isSame 15 = .ok (.iload_n 2, 1) := by decide +kernel
theorem dX6_isSame_16 : decode cX6_isSame 16 = .ok (.aload_n 0, 1) := by decide +kernel
theorem dX6_isSame_17 : decode cX6_isSame 17 = .ok (.getfield 29, 3) := by decide +kernel
theorem dX6_isSame_20 : decode cX6_isSame 20 = .ok (.if_icmp .ge 41, 3) := by decide +kernel
theorem dX6_isSame_23 : decode cX6_isSame 23 = .ok (.aload_n 0, 1) := by decide +kernel
theorem dX6_isSame_24 : decode cX6_isSame 24 = .ok (.getfield 9, 3) := by decide +kernel
theorem dX6_isSame_27 : decode cX6_isSame 27 = .ok (.iload_n 2, 1) := by decide +kernel
theorem dX6_isSame_28 : decode cX6_isSame 28 = .ok (.iaload, 1) := by decide +kernel
theorem dX6_isSame_29 : decode cX6_isSame 29 = .ok (.aload_n 1, 1) := by decide +kernel
theorem dX6_isSame_30 : decode cX6_isSame 30 = .ok (.getfield 9, 3) := by decide +kernel
theorem dX6_isSame_33 : decode cX6_isSame 33 = .ok (.iload_n 2, 1) := by decide +kernel
theorem dX6_isSame_34 : decode cX6_isSame 34 = .ok (.iaload, 1) := by decide +kernel
theorem dX6_isSame_35 : decode cX6_isSame 35 = .ok (.if_icmp .ne 18, 3) := by decide +kernel
theorem dX6_isSame_38 : decode cX6_isSame 38 = .ok (.aload_n 0, 1) := by decide +kernel
theorem dX6_isSame_39 : decode cX6_isSame 39 = .ok (.getfield 15, 3) := by decide +kernel
theorem dX6_isSame_42 : decode cX6_isSame 42 = .ok (.iload_n 2, 1) := by decide +kernel
theorem dX6_isSame_43 : decode cX6_isSame 43 = .ok (.iaload, 1) := by decide +kernel
theorem dX6_isSame_44 : decode cX6_isSame 44 = .ok (.aload_n 1, 1) := by decide +kernel
theorem dX6_isSame_45 : decode cX6_isSame 45 = .ok (.getfield 15, 3) := by decide +kernel
theorem dX6_isSame_48 : decode cX6_isSame 48 = .ok (.iload_n 2, 1) := by decide +kernel
theorem dX6_isSame_49 : decode cX6_isSame 49 = .ok (.iaload, 1) := by decide +kernel
theorem dX6_isSame_50 : decode cX6_isSame 50 = .ok (.if_icmp .eq 5, 3) := by decide +kernel
theorem dX6_isSame_53 : decode cX6_isSame 53 = .ok (.iconst 0, 1) := by decide +kernel
theorem dX6_isSame_54 : decode cX6_isSame 54 = .ok (.ireturn, 1) := by decide +kernel
theorem dX6_isSame_55 : decode cX6_isSame 55 = .ok (.iinc 2 1, 3) := by decide +kernel
theorem dX6_isSame_58 : decode cX6_isSame 58 = .ok (.goto (-43), 3) := by decide +kernel
theorem dX6_isSame_61 : decode cX6_isSame 61 = .ok (.iconst 1, 1) := by decide +kernel
theorem dX6_isSame_62 : decode cX6_isSame 62 = .ok (.ireturn, 1) := by decide +kernel
theorem dX7_init_0 : decode cX7_init 0 = .ok (.aload_n 0, 1) := by decide +kernel
theorem dX7_init_1 : decode cX7_init 1 = .ok (.invokespecial 3, 3) := by decide +kernel
theorem dX7_init_4 : decode cX7_init 4 = .ok (.aload_n 0, 1) := by decide +kernel
theorem dX7_init_5 : decode cX7_init 5 = .ok (.bipush 40, 2) := by decide +kernel
theorem dX7_init_7 : decode cX7_init 7 = .ok (.newarray .long, 2) := by decide +kernel
theorem dX7_init_9 : decode cX7_init 9 = .ok (.putfield 11, 3) := by decide +kernel
theorem dX7_init_12 : decode cX7_init 12 = .ok (.aload_n 0, 1) := by decide +kernel
theorem dX7_init_13 : decode cX7_init 13 = .ok (.sipush 780, 3) := by decide +kernel
theorem dX7_init_16 : decode cX7_init 16 = .ok (.newarray .int, 2) := by decide +kernel
theorem dX7_init_18 : decode cX7_init 18 = .ok (.putfield 15, 3) := by decide +kernel
theorem dX7_init_21 : decode cX7_init 21 = .ok (.aload_n 0, 1) := by decide +kernel
theorem dX7_init_22 : decode cX7_init 22 = .ok (.sipush 9880, 3) := by decide +kernel
theorem dX7_init_25 : decode cX7_init 25 = .ok (.newarray .int, 2) := by decide +kernel
theorem dX7_init_27 : decode cX7_init 27 = .ok (.putfield 19, 3) := by decide +kernel
theorem dX7_init_30 : decode cX7_init 30 = .ok (.return_, 1) := by decide +kernel
theorem dX7_build_0 : decode cX7_build 0 = .ok (.aload_n 3, 1) := by decide +kernel
theorem dX7_build_1 : decode cX7_build 1 = .ok (.getfield 22, 3) := by decide +kernel
theorem dX7_build_4 : decode cX7_build 4 = .ok (.bipush 40, 2) := by decide +kernel
theorem dX7_build_6 : decode cX7_build 6 = .ok (.invokestatic 28, 3) := by decide +kernel
theorem dX7_build_9 : decode cX7_build 9 = .ok (.istore 6, 2) := by decide +kernel
theorem dX7_build_11 : decode cX7_build 11 = .ok (.aload_n 0, 1) := by decide +kernel
theorem dX7_build_12 : decode cX7_build 12 = .ok (.iconst 0, 1) := by decide +kernel
theorem dX7_build_13 : decode cX7_build 13 = .ok (.putfield 34, 3) := by decide +kernel
theorem dX7_build_16 : decode cX7_build 16 = .ok (.aload_n 0, 1) := by decide +kernel
theorem dX7_build_17 : decode cX7_build 17 = .ok (.iconst 0, 1) := by decide +kernel
theorem dX7_build_18 : decode cX7_build 18 = .ok (.putfield 37, 3) := by decide +kernel
theorem dX7_build_21 : decode cX7_build 21 = .ok (.iconst 0, 1) := by decide +kernel
theorem dX7_build_22 : decode cX7_build 22 = .ok (.istore 7, 2) := by decide +kernel
theorem dX7_build_24 : decode cX7_build 24 = .ok (.iload 7, 2) := by decide +kernel
theorem dX7_build_26 : decode cX7_build 26 = .ok (.iload 6, 2) := by decide +kernel
theorem dX7_build_28 : decode cX7_build 28 = .ok (.if_icmp .ge 84, 3) := by decide +kernel
theorem dX7_build_31 : decode cX7_build 31 = .ok (.aload_n 0, 1) := by decide +kernel
theorem dX7_build_32 : decode cX7_build 32 = .ok (.getfield 11, 3) := by decide +kernel
theorem dX7_build_35 : decode cX7_build 35 = .ok (.iload 7, 2) := by decide +kernel
theorem dX7_build_37 : decode cX7_build 37 = .ok (.lconst 0, 1) := by decide +kernel
theorem dX7_build_38 : decode cX7_build 38 = .ok (.lastore, 1) := by decide +kernel
theorem dX7_build_39 : decode cX7_build 39 = .ok (.iload 7, 2) := by decide +kernel
theorem dX7_build_41 : decode cX7_build 41 = .ok (.iconst 1, 1) := by decide +kernel
theorem dX7_build_42 : decode cX7_build 42 = .ok (.iadd, 1) := by decide +kernel
theorem dX7_build_43 : decode cX7_build 43 = .ok (.istore 8, 2) := by decide +kernel
theorem dX7_build_45 : decode cX7_build 45 = .ok (.iload 8, 2) := by decide +kernel
theorem dX7_build_47 : decode cX7_build 47 = .ok (.iload 6, 2) := by decide +kernel
theorem dX7_build_49 : decode cX7_build 49 = .ok (.if_icmp .ge 57, 3) := by decide +kernel
theorem dX7_build_52 : decode cX7_build 52 = .ok (.aload 5, 2) := by decide +kernel
theorem dX7_build_54 : decode cX7_build 54 = .ok (.aload_n 1, 1) := by decide +kernel
theorem dX7_build_55 : decode cX7_build 55 = .ok (.aload_n 2, 1) := by decide +kernel
theorem dX7_build_56 : decode cX7_build 56 = .ok (.getfield 40, 3) := by decide +kernel
theorem dX7_build_59 : decode cX7_build 59 = .ok (.aload_n 3, 1) := by decide +kernel
theorem dX7_build_60 : decode cX7_build 60 = .ok (.iload 7, 2) := by decide +kernel
theorem dX7_build_62 : decode cX7_build 62 = .ok (.invokevirtual 45, 3) := by decide +kernel
theorem dX7_build_65 : decode cX7_build 65 = .ok (.aload_n 3, 1) := by decide +kernel
theorem dX7_build_66 : decode cX7_build 66 = .ok (.iload 8, 2) := by decide +kernel
theorem dX7_build_68 : decode cX7_build 68 = .ok (.invokevirtual 45, 3) := by decide +kernel
theorem dX7_build_71 : decode cX7_build 71 = .ok (.invokevirtual 49, 3) := by decide +kernel
theorem dX7_build_74 : decode cX7_build 74 = .ok (.aload 4, 2) := by decide +kernel
theorem dX7_build_76 : decode cX7_build 76 = .ok (.aload 5, 2) := by decide +kernel
theorem dX7_build_78 : decode cX7_build 78 = .ok (.iconst 0, 1) := by decide +kernel
theorem dX7_build_79 : decode cX7_build 79 = .ok (.invokevirtual 55, 3) := by decide +kernel
theorem dX7_build_82 : decode cX7_build 82 = .ok (.iconst (-1), 1) := by decide +kernel
theorem dX7_build_83 : decode cX7_build 83 = .ok (.if_icmp .ne 17, 3) := by decide +kernel
theorem dX7_build_86 : decode cX7_build 86 = .ok (.aload_n 0, 1) := by decide +kernel
theorem dX7_build_87 : decode cX7_build 87 = .ok (.getfield 11, 3) := by decide +kernel
theorem dX7_build_90 : decode cX7_build 90 = .ok (.iload 7, 2) := by decide +kernel
theorem dX7_build_92 : decode cX7_build 92 = .ok (.dup2, 1) := by decide +kernel
theorem dX7_build_93 : decode cX7_build 93 = .ok (.laload, 1) := by decide +kernel
theorem dX7_build_94 : decode cX7_build 94 = .ok (.lconst 1, 1) := by decide +kernel
theorem dX7_build_95 : decode cX7_build 95 = .ok (.iload 8, 2) := by decide +kernel
theorem dX7_build_97 : decode cX7_build 97 = .ok (.lshl, 1) := by decide +kernel
theorem dX7_build_98 : decode cX7_build 98 = .ok (.lor, 1) := by decide +kernel
theorem dX7_build_99 : decode cX7_build 99 = .ok (.lastore, 1) := by decide +kernel
theorem dX7_build_100 : decode cX7_build 100 = .ok (.iinc 8 1, 3) := by decide +kernel
theorem dX7_build_103 : decode cX7_build 103 = .ok (.goto (-58), 3) := by decide +kernel
theorem dX7_build_106 : decode cX7_build 106 = .ok (.iinc 7 1, 3) := by decide +kernel
theorem dX7_build_109 : decode cX7_build 109 = .ok (.goto (-85), 3) := by decide +kernel
theorem dX7_build_112 : decode cX7_build 112 = .ok (.iconst 0, 1) := by decide +kernel
theorem dX7_build_113 : decode cX7_build 113 = .ok (.istore 7, 2) := by decide +kernel
theorem dX7_build_115 : decode cX7_build 115 = .ok (.iload 7, 2) := by decide +kernel
theorem dX7_build_117 : decode cX7_build 117 = .ok (.iload 6, 2) := by decide +kernel
theorem dX7_build_119 : decode cX7_build 119 = .ok (.if_icmp .ge 55, 3) := by decide +kernel
theorem dX7_build_122 : decode cX7_build 122 = .ok (.iload 7, 2) := by decide +kernel
theorem dX7_build_124 : decode cX7_build 124 = .ok (.iconst 1, 1) := by decide +kernel
theorem dX7_build_125 : decode cX7_build 125 = .ok (.iadd, 1) := by decide +kernel
theorem dX7_build_126 : decode cX7_build 126 = .ok (.istore 8, 2) := by decide +kernel
theorem dX7_build_128 : decode cX7_build 128 = .ok (.iload 8, 2) := by decide +kernel
theorem dX7_build_130 : decode cX7_build 130 = .ok (.iload 6, 2) := by decide +kernel
theorem dX7_build_132 : decode cX7_build 132 = .ok (.if_icmp .ge 36, 3) := by decide +kernel
theorem dX7_build_135 : decode cX7_build 135 = .ok (.aload_n 0, 1) := by decide +kernel
theorem dX7_build_136 : decode cX7_build 136 = .ok (.getfield 11, 3) := by decide +kernel
theorem dX7_build_139 : decode cX7_build 139 = .ok (.iload 7, 2) := by decide +kernel
theorem dX7_build_141 : decode cX7_build 141 = .ok (.laload, 1) := by decide +kernel
theorem dX7_build_142 : decode cX7_build 142 = .ok (.iload 8, 2) := by decide +kernel
theorem dX7_build_144 : decode cX7_build 144 = .ok (.lshr, 1) := by decide +kernel
theorem dX7_build_145 : decode cX7_build 145 = .ok (.lconst 1, 1) := by decide +kernel
theorem dX7_build_146 : decode cX7_build 146 = .ok (.land, 1) := by decide +kernel
theorem dX7_build_147 : decode cX7_build 147 = .ok (.lconst 1, 1) := by decide +kernel
theorem dX7_build_148 : decode cX7_build 148 = .ok (.lcmp, 1) := by decide +kernel
theorem dX7_build_149 : decode cX7_build 149 = .ok (.ifCond .ne 13, 3) := by decide +kernel
theorem dX7_build_152 : decode cX7_build 152 = .ok (.aload_n 0, 1) := by decide +kernel
theorem dX7_build_153 : decode cX7_build 153 = .ok (.iload 7, 2) := by decide +kernel
theorem dX7_build_155 : decode cX7_build 155 = .ok (.iload 8, 2) := by decide +kernel
theorem dX7_build_157 : decode cX7_build 157 = .ok (.iload 6, 2) := by decide +kernel
theorem dX7_build_159 : decode cX7_build 159 = .ok (.invokevirtual 61, 3) := by decide +kernel
theorem dX7_build_162 : decode cX7_build 162 = .ok (.iinc 8 1, 3) := by decide +kernel
theorem dX7_build_165 : decode cX7_build 165 = .ok (.goto (-37), 3) := by decide +kernel
theorem dX7_build_168 : decode cX7_build 168 = .ok (.iinc 7 1, 3) := by decide +kernel
theorem dX7_build_171 : decode cX7_build 171 = .ok (.goto (-56), 3) := by decide +kernel
theorem dX7_build_174 : decode cX7_build 174 = .ok (.return_, 1) := by decide +kernel
theorem dX7_addPair_0 : decode cX7_addPair 0 = .ok (.aload_n 0, 1) := by decide +kernel
theorem dX7_addPair_1 : decode cX7_addPair 1 = .ok (.getfield 34, 3) := by decide +kernel
theorem dX7_addPair_4 : decode cX7_addPair 4 = .ok (.aload_n 0, 1) := by decide +kernel
theorem dX7_addPair_5 : decode cX7_addPair 5 = .ok (.getfield 15, 3) := by decide +kernel
theorem dX7_addPair_8 : decode cX7_addPair 8 = .ok (.arraylength, 1) := by decide +kernel
theorem dX7_addPair_9 : decode cX7_addPair 9 = .ok (.if_icmp .ge 28, 3) := by decide +kernel
theorem dX7_addPair_12 : decode cX7_addPair 12 = .ok (.aload_n 0, 1) := by decide +kernel
theorem dX7_addPair_13 : decode cX7_addPair 13 = .ok (.getfield 15, 3) := by decide +kernel
theorem dX7_addPair_16 : decode cX7_addPair 16 = .ok (.aload_n 0, 1) := by decide +kernel
theorem dX7_addPair_17 : decode cX7_addPair 17 = .ok (.getfield 34, 3) := by decide +kernel
theorem dX7_addPair_20 : decode cX7_addPair 20 = .ok (.iload_n 1, 1) := by decide +kernel
theorem dX7_addPair_21 : decode cX7_addPair 21 = .ok (.bipush 40, 2) := by decide +kernel
theorem dX7_addPair_23 : decode cX7_addPair 23 = .ok (.imul, 1) := by decide +kernel
theorem dX7_addPair_24 : decode cX7_addPair 24 = .ok (.iload_n 2, 1) := by decide +kernel
theorem dX7_addPair_25 : decode cX7_addPair 25 = .ok (.iadd, 1) := by decide +kernel
theorem dX7_addPair_26 : decode cX7_addPair 26 = .ok (.iastore, 1) := by decide +kernel
theorem dX7_addPair_27 : decode cX7_addPair 27 = .ok (.aload_n 0, 1) := by decide +kernel
theorem dX7_addPair_28 : decode cX7_addPair 28 = .ok (.dup, 1) := by decide +kernel
theorem dX7_addPair_29 : decode cX7_addPair 29 = .ok (.getfield 34, 3) := by decide +kernel
theorem dX7_addPair_32 : decode cX7_addPair 32 = .ok (.iconst 1, 1) := by decide +kernel
theorem dX7_addPair_33 : decode cX7_addPair 33 = .ok (.iadd, 1) := by decide +kernel
theorem dX7_addPair_34 : decode cX7_addPair 34 = .ok (.putfield 34, 3) := by decide +kernel
theorem dX7_addPair_37 : decode cX7_addPair 37 = .ok (.aload_n 0, 1) := by decide +kernel
theorem dX7_addPair_38 : decode cX7_addPair 38 = .ok (.getfield 11, 3) := by decide +kernel
theorem dX7_addPair_41 : decode cX7_addPair 41 = .ok (.iload_n 1, 1) := by decide +kernel
theorem dX7_addPair_42 : decode cX7_addPair 42 = .ok (.laload, 1) := by decide +kernel
theorem dX7_addPair_43 : decode cX7_addPair 43 = .ok (.aload_n 0, 1) := by decide +kernel
theorem dX7_addPair_44 : decode cX7_addPair 44 = .ok (.getfield 11, 3) := by decide +kernel
theorem dX7_addPair_47 : decode cX7_addPair 47 = .ok (.iload_n 2, 1) := by decide +kernel
theorem dX7_addPair_48 : decode cX7_addPair 48 = .ok (.laload, 1) := by decide +kernel
theorem dX7_addPair_49 : decode cX7_addPair 49 = .ok (.land, 1) := by decide +kernel
theorem dX7_addPair_50 : decode cX7_addPair 50 = .ok (.lstore 4, 2) := by decide +kernel
theorem dX7_addPair_52 : decode cX7_addPair 52 = .ok (.iload_n 2, 1) := by decide +kernel
theorem dX7_addPair_53 : decode cX7_addPair 53 = .ok (.iconst 1, 1) := by decide +kernel
theorem dX7_addPair_54 : decode cX7_addPair 54 = .ok (.iadd, 1) := by decide +kernel
theorem dX7_addPair_55 : decode cX7_addPair 55 = .ok (.istore 6, 2) := by decide +kernel
theorem dX7_addPair_57 : decode cX7_addPair 57 = .ok (.iload 6, 2) := by decide +kernel
theorem dX7_addPair_59 : decode cX7_addPair 59 = .ok (.iload_n 3, 1) := by decide +kernel
theorem dX7_addPair_60 : decode cX7_addPair 60 = .ok (.if_icmp .ge 64, 3) := by decide +kernel
theorem dX7_addPair_63 : decode cX7_addPair 63 = .ok (.lload 4, 2) := by decide +kernel
theorem dX7_addPair_65 : decode cX7_addPair 65 = .ok (.iload 6, 2) := by decide +kernel
theorem dX7_addPair_67 : decode cX7_addPair 67 = .ok (.lshr, 1) := by decide +kernel
theorem dX7_addPair_68 : decode cX7_addPair 68 = .ok (.lconst 1, 1) := by decide +kernel
theorem dX7_addPair_69 : decode cX7_addPair 69 = .ok (.land, 1) := by decide +kernel
theorem dX7_addPair_70 : decode cX7_addPair 70 = .ok (.lconst 1, 1) := by decide +kernel
theorem dX7_addPair_71 : decode cX7_addPair 71 = .ok (.lcmp, 1) := by decide +kernel
theorem dX7_addPair_72 : decode cX7_addPair 72 = .ok (.ifCond .ne 46, 3) := by decide +kernel
theorem dX7_addPair_75 : decode cX7_addPair 75 = .ok (.aload_n 0, 1) := by decide +kernel
theorem dX7_addPair_76 : decode cX7_addPair 76 = .ok (.getfield 37, 3) := by decide +kernel
theorem dX7_addPair_79 : decode cX7_addPair 79 = .ok (.aload_n 0, 1) := by decide +kernel
theorem dX7_addPair_80 : decode cX7_addPair 80 = .ok (.getfield 19, 3) := by decide +kernel
theorem dX7_addPair_83 : decode cX7_addPair 83 = .ok (.arraylength, 1) := by decide +kernel
theorem dX7_addPair_84 : decode cX7_addPair 84 = .ok (.if_icmp .ge 34, 3) := by decide +kernel
theorem dX7_addPair_87 : decode cX7_addPair 87 = .ok (.aload_n 0, 1) := by decide +kernel
theorem dX7_addPair_88 : decode cX7_addPair 88 = .ok (.getfield 19, 3) := by decide +kernel
theorem dX7_addPair_91 : decode cX7_addPair 91 = .ok (.aload_n 0, 1) := by decide +kernel
theorem dX7_addPair_92 : decode cX7_addPair 92 = .ok (.getfield 37, 3) := by decide +kernel
theorem dX7_addPair_95 : decode cX7_addPair 95 = .ok (.iload_n 1, 1) := by decide +kernel
theorem dX7_addPair_96 : decode cX7_addPair 96 = .ok (.bipush 40, 2) := by decide +kernel
theorem dX7_addPair_98 : decode cX7_addPair 98 = .ok (.imul, 1) := by decide +kernel
theorem dX7_addPair_99 : decode cX7_addPair 99 = .ok (.iload_n 2, 1) := by decide +kernel
theorem dX7_addPair_100 : decode cX7_addPair 100 = .ok (.iadd, 1) := by decide +kernel
theorem dX7_addPair_101 : decode cX7_addPair 101 = .ok (.bipush 40, 2) := by decide +kernel
theorem dX7_addPair_103 : decode cX7_addPair 103 = .ok (.imul, 1) := by decide +kernel
theorem dX7_addPair_104 : decode cX7_addPair 104 = .ok (.iload 6, 2) := by decide +kernel
theorem dX7_addPair_106 : decode cX7_addPair 106 = .ok (.iadd, 1) := by decide +kernel
theorem dX7_addPair_107 : decode cX7_addPair 107 = .ok (.iastore, 1) := by decide +kernel
theorem dX7_addPair_108 : decode cX7_addPair 108 = .ok (.aload_n 0, 1) := by decide +kernel
theorem dX7_addPair_109 : decode cX7_addPair 109 = .ok (.dup, 1) := by decide +kernel
theorem dX7_addPair_110 : decode cX7_addPair 110 = .ok (.getfield 37, 3) := by decide +kernel
theorem dX7_addPair_113 : decode cX7_addPair 113 = .ok (.iconst 1, 1) := by decide +kernel
theorem dX7_addPair_114 : decode cX7_addPair 114 = .ok (.iadd, 1) := by decide +kernel
theorem dX7_addPair_115 : decode cX7_addPair 115 = .ok (.putfield 37, 3) := by decide +kernel
theorem dX7_addPair_118 : decode cX7_addPair 118 = .ok (.iinc 6 1, 3) := by decide +kernel
theorem dX7_addPair_121 : decode cX7_addPair 121 = .ok (.goto (-64), 3) := by decide +kernel
theorem dX7_addPair_124 : decode cX7_addPair 124 = .ok (.return_, 1) := by decide +kernel
theorem dX7_memberOf_0 : decode cX7_memberOf 0 = .ok (.iload_n 2, 1) := by decide +kernel
theorem dX7_memberOf_1 : decode cX7_memberOf 1 = .ok (.ifCond .lt 34, 3) := by decide +kernel
theorem dX7_memberOf_4 : decode cX7_memberOf 4 = .ok (.iload_n 2, 1) := by decide +kernel
theorem dX7_memberOf_5 : decode cX7_memberOf 5 = .ok (.iload_n 1, 1) := by decide +kernel
theorem dX7_memberOf_6 : decode cX7_memberOf 6 = .ok (.iconst 3, 1) := by decide +kernel
theorem dX7_memberOf_7 : decode cX7_memberOf 7 = .ok (.if_icmp .ne 10, 3) := by decide +kernel
theorem dX7_memberOf_10 : decode cX7_memberOf 10 = .ok (.aload_n 0, 1) := by decide +kernel
theorem dX7_memberOf_11 : decode cX7_memberOf 11 = .ok (.getfield 34, 3) := by decide +kernel
theorem dX7_memberOf_14 : decode cX7_memberOf 14 = .ok (.goto 7, 3) := by decide +kernel
theorem dX7_memberOf_17 : decode cX7_memberOf 17 = .ok (.aload_n 0, 1) := by decide +kernel
theorem dX7_memberOf_18 : decode cX7_memberOf 18 = .ok (.getfield 37, 3) := by decide +kernel
theorem dX7_memberOf_21 : decode cX7_memberOf 21 = .ok (.if_icmp .ge 14, 3) := by decide +kernel
theorem dX7_memberOf_24 : decode cX7_memberOf 24 = .ok (.iload_n 3, 1) := by decide +kernel
theorem dX7_memberOf_25 : decode cX7_memberOf 25 = .ok (.ifCond .lt 10, 3) := by decide +kernel
theorem dX7_memberOf_28 : decode cX7_memberOf 28 = .ok (.iload_n 3, 1) := by decide +kernel
theorem dX7_memberOf_29 : decode cX7_memberOf 29 = .ok (.iload_n 1, 1) := by decide +kernel
theorem dX7_memberOf_30 : decode cX7_memberOf 30 = .ok (.iconst 2, 1) := by decide +kernel
theorem dX7_memberOf_31 : decode cX7_memberOf 31 = .ok (.isub, 1) := by decide +kernel
theorem dX7_memberOf_32 : decode cX7_memberOf 32 = .ok (.if_icmp .le 5, 3) := by decide +kernel
theorem dX7_memberOf_35 : decode cX7_memberOf 35 = .ok (.iconst (-1), 1) := by decide +kernel
theorem dX7_memberOf_36 : decode cX7_memberOf 36 = .ok (.ireturn, 1) := by decide +kernel
theorem dX7_memberOf_37 : decode cX7_memberOf 37 = .ok (.iload_n 1, 1) := by decide +kernel
theorem dX7_memberOf_38 : decode cX7_memberOf 38 = .ok (.iconst 3, 1) := by decide +kernel
theorem dX7_memberOf_39 : decode cX7_memberOf 39 = .ok (.if_icmp .ne 12, 3) := by decide +kernel
theorem dX7_memberOf_42 : decode cX7_memberOf 42 = .ok (.aload_n 0, 1) := by decide +kernel
theorem dX7_memberOf_43 : decode cX7_memberOf 43 = .ok (.getfield 15, 3) := by decide +kernel
theorem dX7_memberOf_46 : decode cX7_memberOf 46 = .ok (.iload_n 2, 1) := by decide +kernel
theorem dX7_memberOf_47 : decode cX7_memberOf 47 = .ok (.iaload, 1) := by decide +kernel
theorem dX7_memberOf_48 : decode cX7_memberOf 48 = .ok (.goto 9, 3) := by decide +kernel
theorem dX7_memberOf_51 : decode cX7_memberOf 51 = .ok (.aload_n 0, 1) := by decide +kernel
theorem dX7_memberOf_52 : decode cX7_memberOf 52 = .ok (.getfield 19, 3) := by decide +kernel
theorem dX7_memberOf_55 : decode cX7_memberOf 55 = .ok (.iload_n 2, 1) := by decide +kernel
theorem dX7_memberOf_56 : decode cX7_memberOf 56 = .ok (.iaload, 1) := by decide +kernel
theorem dX7_memberOf_57 : decode cX7_memberOf 57 = .ok (.istore 4, 2) := by decide +kernel
theorem dX7_memberOf_59 : decode cX7_memberOf 59 = .ok (.iload_n 3, 1) := by decide +kernel
theorem dX7_memberOf_60 : decode cX7_memberOf 60 = .ok (.istore 5, 2) := by decide +kernel
theorem dX7_memberOf_62 : decode cX7_memberOf 62 = .ok (.iload 5, 2) := by decide +kernel
theorem dX7_memberOf_64 : decode cX7_memberOf 64 = .ok (.iload_n 1, 1) := by decide +kernel
theorem dX7_memberOf_65 : decode cX7_memberOf 65 = .ok (.iconst 2, 1) := by decide +kernel
theorem dX7_memberOf_66 : decode cX7_memberOf 66 = .ok (.isub, 1) := by decide +kernel
theorem dX7_memberOf_67 : decode cX7_memberOf 67 = .ok (.if_icmp .ge 16, 3) := by decide +kernel
theorem dX7_memberOf_70 : decode cX7_memberOf 70 = .ok (.iload 4, 2) := by decide +kernel
theorem dX7_memberOf_72 : decode cX7_memberOf 72 = .ok (.bipush 40, 2) := by decide +kernel
theorem dX7_memberOf_74 : decode cX7_memberOf 74 = .ok (.idiv, 1) := by decide +kernel
theorem dX7_memberOf_75 : decode cX7_memberOf 75 = .ok (.istore 4, 2) := by decide +kernel
theorem dX7_memberOf_77 : decode cX7_memberOf 77 = .ok (.iinc 5 1, 3) := by decide +kernel
theorem dX7_memberOf_80 : decode cX7_memberOf 80 = .ok (.goto (-18), 3) := by decide +kernel
theorem dX7_memberOf_83 : decode cX7_memberOf 83 = .ok (.iload 4, 2) := by decide +kernel
theorem dX7_memberOf_85 : decode cX7_memberOf 85 = .ok (.bipush 40, 2) := by decide +kernel
theorem dX7_memberOf_87 : decode cX7_memberOf 87 = .ok (.irem, 1) := by decide +kernel
theorem dX7_memberOf_88 : decode cX7_memberOf 88 = .ok (.ireturn, 1) := by decide +kernel
theorem dX8_init_0 : decode cX8_init 0 = .ok (.aload_n 0, 1) := by decide +kernel
theorem dX8_init_1 : decode cX8_init 1 = .ok (.invokespecial 3, 3) := by decide +kernel
theorem dX8_init_4 : decode cX8_init 4 = .ok (.aload_n 0, 1) := by decide +kernel
theorem dX8_init_5 : decode cX8_init 5 = .ok (.sipush 1600, 3) := by decide +kernel
theorem dX8_init_8 : decode cX8_init 8 = .ok (.newarray .int, 2) := by decide +kernel
theorem dX8_init_10 : decode cX8_init 10 = .ok (.putfield 11, 3) := by decide +kernel
theorem dX8_init_13 : decode cX8_init 13 = .ok (.return_, 1) := by decide +kernel
theorem dX8_hasRoom_0 : decode cX8_hasRoom 0 = .ok (.aload_n 0, 1) := by decide +kernel
theorem dX8_hasRoom_1 : decode cX8_hasRoom 1 = .ok (.getfield 15, 3) := by decide +kernel
theorem dX8_hasRoom_4 : decode cX8_hasRoom 4 = .ok (.iload_n 1, 1) := by decide +kernel
theorem dX8_hasRoom_5 : decode cX8_hasRoom 5 = .ok (.iadd, 1) := by decide +kernel
theorem dX8_hasRoom_6 : decode cX8_hasRoom 6 = .ok (.sipush 1600, 3) := by decide +kernel
theorem dX8_hasRoom_9 : decode cX8_hasRoom 9 = .ok (.if_icmp .gt 7, 3) := by decide +kernel
theorem dX8_hasRoom_12 : decode cX8_hasRoom 12 = .ok (.iconst 1, 1) := by decide +kernel
theorem dX8_hasRoom_13 : decode cX8_hasRoom 13 = .ok (.goto 4, 3) := by decide +kernel
theorem dX8_hasRoom_16 : decode cX8_hasRoom 16 = .ok (.iconst 0, 1) := by decide +kernel
theorem dX8_hasRoom_17 : decode cX8_hasRoom 17 = .ok (.ireturn, 1) := by decide +kernel
theorem dX8_put_0 : decode cX8_put 0 = .ok (.aload_n 0, 1) := by decide +kernel
theorem dX8_put_1 : decode cX8_put 1 = .ok (.iconst 4, 1) := by decide +kernel
theorem dX8_put_2 : decode cX8_put 2 = .ok (.invokevirtual 19, 3) := by decide +kernel
theorem dX8_put_5 : decode cX8_put 5 = .ok (.ifCond .ne 4, 3) := by decide +kernel
theorem dX8_put_8 : decode cX8_put 8 = .ok (.return_, 1) := by decide +kernel
theorem dX8_put_9 : decode cX8_put 9 = .ok (.iconst 0, 1) := by decide +kernel
theorem dX8_put_10 : decode cX8_put 10 = .ok (.istore_n 2, 1) := by decide +kernel
theorem dX8_put_11 : decode cX8_put 11 = .ok (.iload_n 2, 1) := by decide +kernel
theorem dX8_put_12 : decode cX8_put 12 = .ok (.iconst 4, 1) := by decide +kernel
theorem dX8_put_13 : decode cX8_put 13 = .ok (.if_icmp .ge 41, 3) := by decide +kernel
theorem dX8_put_16 : decode cX8_put 16 = .ok (.aload_n 0, 1) := by decide +kernel
theorem dX8_put_17 : decode cX8_put 17 = .ok (.getfield 11, 3) := by decide +kernel
theorem dX8_put_20 : decode cX8_put 20 = .ok (.aload_n 0, 1) := by decide +kernel
theorem dX8_put_21 : decode cX8_put 21 = .ok (.getfield 15, 3) := by decide +kernel
theorem dX8_put_24 : decode cX8_put 24 = .ok (.iload_n 1, 1) := by decide +kernel
theorem dX8_put_25 : decode cX8_put 25 = .ok (.bipush 24, 2) := by decide +kernel
theorem dX8_put_27 : decode cX8_put 27 = .ok (.bipush 8, 2) := by decide +kernel
theorem dX8_put_29 : decode cX8_put 29 = .ok (.iload_n 2, 1) := by decide +kernel
theorem dX8_put_30 : decode cX8_put 30 = .ok (.imul, 1) := by decide +kernel
theorem dX8_put_31 : decode cX8_put 31 = .ok (.isub, 1) := by decide +kernel
theorem dX8_put_32 : decode cX8_put 32 = .ok (.iushr, 1) := by decide +kernel
theorem dX8_put_33 : decode cX8_put 33 = .ok (.sipush 255, 3) := by decide +kernel
theorem dX8_put_36 : decode cX8_put 36 = .ok (.iand, 1) := by decide +kernel
theorem dX8_put_37 : decode cX8_put 37 = .ok (.iastore, 1) := by decide +kernel
theorem dX8_put_38 : decode cX8_put 38 = .ok (.aload_n 0, 1) := by decide +kernel
theorem dX8_put_39 : decode cX8_put 39 = .ok (.dup, 1) := by decide +kernel
theorem dX8_put_40 : decode cX8_put 40 = .ok (.getfield 15, 3) := by decide +kernel
theorem dX8_put_43 : decode cX8_put 43 = .ok (.iconst 1, 1) := by decide +kernel
theorem dX8_put_44 : decode cX8_put 44 = .ok (.iadd, 1) := by decide +kernel
theorem dX8_put_45 : decode cX8_put 45 = .ok (.putfield 15, 3) := by decide +kernel
theorem dX8_put_48 : decode cX8_put 48 = .ok (.iinc 2 1, 3) := by decide +kernel
theorem dX8_put_51 : decode cX8_put 51 = .ok (.goto (-40), 3) := by decide +kernel
theorem dX8_put_54 : decode cX8_put 54 = .ok (.return_, 1) := by decide +kernel
theorem dX8_cut_0 : decode cX8_cut 0 = .ok (.iload_n 1, 1) := by decide +kernel
theorem dX8_cut_1 : decode cX8_cut 1 = .ok (.ifCond .lt 11, 3) := by decide +kernel
theorem dX8_cut_4 : decode cX8_cut 4 = .ok (.iload_n 1, 1) := by decide +kernel
theorem dX8_cut_5 : decode cX8_cut 5 = .ok (.aload_n 0, 1) := by decide +kernel
theorem dX8_cut_6 : decode cX8_cut 6 = .ok (.getfield 15, 3) := by decide +kernel
theorem dX8_cut_9 : decode cX8_cut 9 = .ok (.if_icmp .le 5, 3) := by decide +kernel
theorem dX8_cut_12 : decode cX8_cut 12 = .ok (.iconst 0, 1) := by decide +kernel
theorem dX8_cut_13 : decode cX8_cut 13 = .ok (.ireturn, 1) := by decide +kernel
theorem dX8_cut_14 : decode cX8_cut 14 = .ok (.aload_n 0, 1) := by decide +kernel
theorem dX8_cut_15 : decode cX8_cut 15 = .ok (.iload_n 1, 1) := by decide +kernel
theorem dX8_cut_16 : decode cX8_cut 16 = .ok (.putfield 15, 3) := by decide +kernel
theorem dX8_cut_19 : decode cX8_cut 19 = .ok (.iconst 1, 1) := by decide +kernel
theorem dX8_cut_20 : decode cX8_cut 20 = .ok (.ireturn, 1) := by decide +kernel
theorem dX8_at_0 : decode cX8_at 0 = .ok (.iload_n 1, 1) := by decide +kernel
theorem dX8_at_1 : decode cX8_at 1 = .ok (.ifCond .lt 20, 3) := by decide +kernel
theorem dX8_at_4 : decode cX8_at 4 = .ok (.iload_n 1, 1) := by decide +kernel
theorem dX8_at_5 : decode cX8_at 5 = .ok (.aload_n 0, 1) := by decide +kernel
theorem dX8_at_6 : decode cX8_at 6 = .ok (.getfield 15, 3) := by decide +kernel
theorem dX8_at_9 : decode cX8_at 9 = .ok (.if_icmp .ge 12, 3) := by decide +kernel
theorem dX8_at_12 : decode cX8_at 12 = .ok (.aload_n 0, 1) := by decide +kernel
theorem dX8_at_13 : decode cX8_at 13 = .ok (.getfield 11, 3) := by decide +kernel
theorem dX8_at_16 : decode cX8_at 16 = .ok (.iload_n 1, 1) := by decide +kernel
theorem dX8_at_17 : decode cX8_at 17 = .ok (.iaload, 1) := by decide +kernel
theorem dX8_at_18 : decode cX8_at 18 = .ok (.goto 4, 3) := by decide +kernel
theorem dX8_at_21 : decode cX8_at 21 = .ok (.iconst (-1), 1) := by decide +kernel
theorem dX8_at_22 : decode cX8_at 22 = .ok (.ireturn, 1) := by decide +kernel
theorem dX9_init_0 : decode cX9_init 0 = .ok (.aload_n 0, 1) := by decide +kernel
theorem dX9_init_1 : decode cX9_init 1 = .ok (.invokespecial 3, 3) := by decide +kernel
theorem dX9_init_4 : decode cX9_init 4 = .ok (.return_, 1) := by decide +kernel
theorem dX9_take_0 : decode cX9_take 0 = .ok (.aload_n 0, 1) := by decide +kernel
theorem dX9_take_1 : decode cX9_take 1 = .ok (.iload_n 1, 1) := by decide +kernel
theorem dX9_take_2 : decode cX9_take 2 = .ok (.sipush 180, 3) := by decide +kernel
theorem dX9_take_5 : decode cX9_take 5 = .ok (.idiv, 1) := by decide +kernel
theorem dX9_take_6 : decode cX9_take 6 = .ok (.putfield 9, 3) := by decide +kernel
theorem dX9_take_9 : decode cX9_take 9 = .ok (.aload_n 0, 1) := by decide +kernel
theorem dX9_take_10 : decode cX9_take 10 = .ok (.iload_n 1, 1) := by decide +kernel
theorem dX9_take_11 : decode cX9_take 11 = .ok (.bipush 12, 2) := by decide +kernel
theorem dX9_take_13 : decode cX9_take 13 = .ok (.idiv, 1) := by decide +kernel
theorem dX9_take_14 : decode cX9_take 14 = .ok (.bipush 15, 2) := by decide +kernel
theorem dX9_take_16 : decode cX9_take 16 = .ok (.irem, 1) := by decide +kernel
theorem dX9_take_17 : decode cX9_take 17 = .ok (.bipush 7, 2) := by decide +kernel
theorem dX9_take_19 : decode cX9_take 19 = .ok (.isub, 1) := by decide +kernel
theorem dX9_take_20 : decode cX9_take 20 = .ok (.putfield 15, 3) := by decide +kernel
theorem dX9_take_23 : decode cX9_take 23 = .ok (.aload_n 0, 1) := by decide +kernel
theorem dX9_take_24 : decode cX9_take 24 = .ok (.iload_n 1, 1) := by decide +kernel
theorem dX9_take_25 : decode cX9_take 25 = .ok (.bipush 6, 2) := by decide +kernel
theorem dX9_take_27 : decode cX9_take 27 = .ok (.idiv, 1) := by decide +kernel
theorem dX9_take_28 : decode cX9_take 28 = .ok (.iconst 2, 1) := by decide +kernel
theorem dX9_take_29 : decode cX9_take 29 = .ok (.irem, 1) := by decide +kernel
theorem dX9_take_30 : decode cX9_take 30 = .ok (.putfield 18, 3) := by decide +kernel
theorem dX9_take_33 : decode cX9_take 33 = .ok (.aload_n 0, 1) := by decide +kernel
theorem dX9_take_34 : decode cX9_take 34 = .ok (.iload_n 1, 1) := by decide +kernel
theorem dX9_take_35 : decode cX9_take 35 = .ok (.iconst 3, 1) := by decide +kernel
theorem dX9_take_36 : decode cX9_take 36 = .ok (.idiv, 1) := by decide +kernel
theorem dX9_take_37 : decode cX9_take 37 = .ok (.iconst 2, 1) := by decide +kernel
theorem dX9_take_38 : decode cX9_take 38 = .ok (.irem, 1) := by decide +kernel
theorem dX9_take_39 : decode cX9_take 39 = .ok (.putfield 21, 3) := by decide +kernel
theorem dX9_take_42 : decode cX9_take 42 = .ok (.aload_n 0, 1) := by decide +kernel
theorem dX9_take_43 : decode cX9_take 43 = .ok (.iload_n 1, 1) := by decide +kernel
theorem dX9_take_44 : decode cX9_take 44 = .ok (.iconst 3, 1) := by decide +kernel
theorem dX9_take_45 : decode cX9_take 45 = .ok (.irem, 1) := by decide +kernel
theorem dX9_take_46 : decode cX9_take 46 = .ok (.putfield 24, 3) := by decide +kernel
theorem dX9_take_49 : decode cX9_take 49 = .ok (.return_, 1) := by decide +kernel
theorem dX9_stretch_0 : decode cX9_stretch 0 = .ok (.aload_n 0, 1) := by decide +kernel
theorem dX9_stretch_1 : decode cX9_stretch 1 = .ok (.getfield 24, 3) := by decide +kernel
theorem dX9_stretch_4 : decode cX9_stretch 4 = .ok (.iconst 1, 1) := by decide +kernel
theorem dX9_stretch_5 : decode cX9_stretch 5 = .ok (.if_icmp .ne 7, 3) := by decide +kernel
theorem dX9_stretch_8 : decode cX9_stretch 8 = .ok (.iconst 2, 1) := by decide +kernel
theorem dX9_stretch_9 : decode cX9_stretch 9 = .ok (.iload_n 1, 1) := by decide +kernel
theorem dX9_stretch_10 : decode cX9_stretch 10 = .ok (.imul, 1) := by decide +kernel
theorem dX9_stretch_11 : decode cX9_stretch 11 = .ok (.ireturn, 1) := by decide +kernel
theorem dX9_stretch_12 : decode cX9_stretch 12 = .ok (.aload_n 0, 1) := by decide +kernel
theorem dX9_stretch_13 : decode cX9_stretch 13 = .ok (.getfield 24, 3) := by decide +kernel
theorem dX9_stretch_16 : decode cX9_stretch 16 = .ok (.iconst 2, 1) := by decide +kernel
theorem dX9_stretch_17 : decode cX9_stretch 17 = .ok (.if_icmp .ne 11, 3) := by decide +kernel
theorem dX9_stretch_20 : decode cX9_stretch 20 = .ok (.iload_n 1, 1) := by decide +kernel
theorem dX9_stretch_21 : decode cX9_stretch 21 = .ok (.iconst 1, 1) := by decide +kernel
theorem dX9_stretch_22 : decode cX9_stretch 22 = .ok (.iadd, 1) := by decide +kernel
theorem dX9_stretch_23 : decode cX9_stretch 23 = .ok (.iconst 2, 1) := by decide +kernel
theorem dX9_stretch_24 : decode cX9_stretch 24 = .ok (.idiv, 1) := by decide +kernel
theorem dX9_stretch_25 : decode cX9_stretch 25 = .ok (.goto 4, 3) := by decide +kernel
theorem dX9_stretch_28 : decode cX9_stretch 28 = .ok (.iload_n 1, 1) := by decide +kernel
theorem dX9_stretch_29 : decode cX9_stretch 29 = .ok (.ireturn, 1) := by decide +kernel
theorem dX9_stop_0 : decode cX9_stop 0 = .ok (.aload_n 0, 1) := by decide +kernel
theorem dX9_stop_1 : decode cX9_stop 1 = .ok (.getfield 9, 3) := by decide +kernel
theorem dX9_stop_4 : decode cX9_stop 4 = .ok (.aload_n 0, 1) := by decide +kernel
theorem dX9_stop_5 : decode cX9_stop 5 = .ok (.aload_n 1, 1) := by decide +kernel
theorem dX9_stop_6 : decode cX9_stop 6 = .ok (.getfield 27, 3) := by decide +kernel
theorem dX9_stop_9 : decode cX9_stop 9 = .ok (.invokevirtual 32, 3) := by decide +kernel
theorem dX9_stop_12 : decode cX9_stop 12 = .ok (.iadd, 1) := by decide +kernel
theorem dX9_stop_13 : decode cX9_stop 13 = .ok (.ireturn, 1) := by decide +kernel
theorem dX9_number_0 : decode cX9_number 0 = .ok (.iload_n 2, 1) := by decide +kernel
theorem dX9_number_1 : decode cX9_number 1 = .ok (.aload_n 0, 1) := by decide +kernel
theorem dX9_number_2 : decode cX9_number 2 = .ok (.getfield 9, 3) := by decide +kernel
theorem dX9_number_5 : decode cX9_number 5 = .ok (.isub, 1) := by decide +kernel
theorem dX9_number_6 : decode cX9_number 6 = .ok (.istore_n 3, 1) := by decide +kernel
theorem dX9_number_7 : decode cX9_number 7 = .ok (.iload_n 3, 1) := by decide +kernel
theorem dX9_number_8 : decode cX9_number 8 = .ok (.ifCond .ge 5, 3) := by decide +kernel
theorem dX9_number_11 : decode cX9_number 11 = .ok (.iconst (-1), 1) := by decide +kernel
theorem dX9_number_12 : decode cX9_number 12 = .ok (.ireturn, 1) := by decide +kernel
theorem dX9_number_13 : decode cX9_number 13 = .ok (.aload_n 0, 1) := by decide +kernel
theorem dX9_number_14 : decode cX9_number 14 = .ok (.getfield 24, 3) := by decide +kernel
theorem dX9_number_17 : decode cX9_number 17 = .ok (.iconst 1, 1) := by decide +kernel
theorem dX9_number_18 : decode cX9_number 18 = .ok (.if_icmp .ne 12, 3) := by decide +kernel
theorem dX9_number_21 : decode cX9_number 21 = .ok (.aload_n 0, 1) := by decide +kernel
theorem dX9_number_22 : decode cX9_number 22 = .ok (.aload_n 1, 1) := by decide +kernel
theorem dX9_number_23 : decode cX9_number 23 = .ok (.iload_n 3, 1) := by decide +kernel
theorem dX9_number_24 : decode cX9_number 24 = .ok (.iconst 2, 1) := by decide +kernel
theorem dX9_number_25 : decode cX9_number 25 = .ok (.idiv, 1) := by decide +kernel
theorem dX9_number_26 : decode cX9_number 26 = .ok (.invokevirtual 36, 3) := by decide +kernel
theorem dX9_number_29 : decode cX9_number 29 = .ok (.ireturn, 1) := by decide +kernel
theorem dX9_number_30 : decode cX9_number 30 = .ok (.aload_n 0, 1) := by decide +kernel
theorem dX9_number_31 : decode cX9_number 31 = .ok (.aload_n 1, 1) := by decide +kernel
theorem dX9_number_32 : decode cX9_number 32 = .ok (.aload_n 0, 1) := by decide +kernel
theorem dX9_number_33 : decode cX9_number 33 = .ok (.getfield 24, 3) := by decide +kernel
theorem dX9_number_36 : decode cX9_number 36 = .ok (.iconst 2, 1) := by decide +kernel
theorem dX9_number_37 : decode cX9_number 37 = .ok (.if_icmp .ne 9, 3) := by decide +kernel
theorem dX9_number_40 : decode cX9_number 40 = .ok (.iconst 2, 1) := by decide +kernel
theorem dX9_number_41 : decode cX9_number 41 = .ok (.iload_n 3, 1) := by decide +kernel
theorem dX9_number_42 : decode cX9_number 42 = .ok (.imul, 1) := by decide +kernel
theorem dX9_number_43 : decode cX9_number 43 = .ok (.goto 4, 3) := by decide +kernel
theorem dX9_number_46 : decode cX9_number 46 = .ok (.iload_n 3, 1) := by decide +kernel
theorem dX9_number_47 : decode cX9_number 47 = .ok (.invokevirtual 36, 3) := by decide +kernel
theorem dX9_number_50 : decode cX9_number 50 = .ok (.ireturn, 1) := by decide +kernel
theorem dX9_turned_0 : decode cX9_turned 0 = .ok (.aload_n 1, 1) := by decide +kernel
theorem dX9_turned_1 : decode cX9_turned 1 = .ok (.aload_n 0, 1) := by decide +kernel
theorem dX9_turned_2 : decode cX9_turned 2 = .ok (.getfield 21, 3) := by decide +kernel
theorem dX9_turned_5 : decode cX9_turned 5 = .ok (.iconst 1, 1) := by decide +kernel
theorem dX9_turned_6 : decode cX9_turned 6 = .ok (.if_icmp .ne 14, 3) := by decide +kernel
theorem dX9_turned_9 : decode cX9_turned 9 = .ok (.aload_n 1, 1) := by decide +kernel
theorem dX9_turned_10 : decode cX9_turned 10 = .ok (.getfield 27, 3) := by decide +kernel
theorem dX9_turned_13 : decode cX9_turned 13 = .ok (.iconst 1, 1) := by decide +kernel
theorem dX9_turned_14 : decode cX9_turned 14 = .ok (.isub, 1) := by decide +kernel
theorem dX9_turned_15 : decode cX9_turned 15 = .ok (.iload_n 2, 1) := by decide +kernel
theorem dX9_turned_16 : decode cX9_turned 16 = .ok (.isub, 1) := by decide +kernel
theorem dX9_turned_17 : decode cX9_turned 17 = .ok (.goto 4, 3) := by decide +kernel
theorem dX9_turned_20 : decode cX9_turned 20 = .ok (.iload_n 2, 1) := by decide +kernel
theorem dX9_turned_21 : decode cX9_turned 21 = .ok (.invokevirtual 40, 3) := by decide +kernel
theorem dX9_turned_24 : decode cX9_turned 24 = .ok (.ireturn, 1) := by decide +kernel
theorem dX9_tone_0 : decode cX9_tone 0 = .ok (.aload_n 1, 1) := by decide +kernel
theorem dX9_tone_1 : decode cX9_tone 1 = .ok (.iload_n 2, 1) := by decide +kernel
theorem dX9_tone_2 : decode cX9_tone 2 = .ok (.invokevirtual 43, 3) := by decide +kernel
theorem dX9_tone_5 : decode cX9_tone 5 = .ok (.istore_n 3, 1) := by decide +kernel
theorem dX9_tone_6 : decode cX9_tone 6 = .ok (.iload_n 3, 1) := by decide +kernel
theorem dX9_tone_7 : decode cX9_tone 7 = .ok (.iconst (-1), 1) := by decide +kernel
theorem dX9_tone_8 : decode cX9_tone 8 = .ok (.if_icmp .ne 6, 3) := by decide +kernel
theorem dX9_tone_11 : decode cX9_tone 11 = .ok (.ldc 46, 2) := by decide +kernel
theorem dX9_tone_13 : decode cX9_tone 13 = .ok (.ireturn, 1) := by decide +kernel
theorem dX9_tone_14 : decode cX9_tone 14 = .ok (.aload_n 0, 1) := by decide +kernel
theorem dX9_tone_15 : decode cX9_tone 15 = .ok (.getfield 15, 3) := by decide +kernel
theorem dX9_tone_18 : decode cX9_tone 18 = .ok (.aload_n 0, 1) := by decide +kernel
theorem dX9_tone_19 : decode cX9_tone 19 = .ok (.getfield 18, 3) := by decide +kernel
theorem dX9_tone_22 : decode cX9_tone 22 = .ok (.iconst 1, 1) := by decide +kernel
theorem dX9_tone_23 : decode cX9_tone 23 = .ok (.if_icmp .ne 14, 3) := by decide +kernel
theorem dX9_tone_26 : decode cX9_tone 26 = .ok (.iconst 2, 1) := by decide +kernel
theorem dX9_tone_27 : decode cX9_tone 27 = .ok (.aload_n 1, 1) := by decide +kernel
theorem dX9_tone_28 : decode cX9_tone 28 = .ok (.getfield 47, 3) := by decide +kernel
theorem dX9_tone_31 : decode cX9_tone 31 = .ok (.imul, 1) := by decide +kernel
theorem dX9_tone_32 : decode cX9_tone 32 = .ok (.iload_n 3, 1) := by decide +kernel
theorem dX9_tone_33 : decode cX9_tone 33 = .ok (.isub, 1) := by decide +kernel
theorem dX9_tone_34 : decode cX9_tone 34 = .ok (.goto 4, 3) := by decide +kernel
theorem dX9_tone_37 : decode cX9_tone 37 = .ok (.iload_n 3, 1) := by decide +kernel
theorem dX9_tone_38 : decode cX9_tone 38 = .ok (.iadd, 1) := by decide +kernel
theorem dX9_tone_39 : decode cX9_tone 39 = .ok (.ireturn, 1) := by decide +kernel
theorem dX10_init_0 : decode cX10_init 0 = .ok (.aload_n 0, 1) := by decide +kernel
theorem dX10_init_1 : decode cX10_init 1 = .ok (.invokespecial 3, 3) := by decide +kernel
theorem dX10_init_4 : decode cX10_init 4 = .ok (.aload_n 0, 1) := by decide +kernel
theorem dX10_init_5 : decode cX10_init 5 = .ok (.bipush 8, 2) := by decide +kernel
theorem dX10_init_7 : decode cX10_init 7 = .ok (.putfield 9, 3) := by decide +kernel
theorem dX10_init_10 : decode cX10_init 10 = .ok (.aload_n 0, 1) := by decide +kernel
theorem dX10_init_11 : decode cX10_init 11 = .ok (.iconst 4, 1) := by decide +kernel
theorem dX10_init_12 : decode cX10_init 12 = .ok (.putfield 15, 3) := by decide +kernel
theorem dX10_init_15 : decode cX10_init 15 = .ok (.aload_n 0, 1) := by decide +kernel
theorem dX10_init_16 : decode cX10_init 16 = .ok (.sipush 4500, 3) := by decide +kernel
theorem dX10_init_19 : decode cX10_init 19 = .ok (.newarray .int, 2) := by decide +kernel
theorem dX10_init_21 : decode cX10_init 21 = .ok (.putfield 18, 3) := by decide +kernel
theorem dX10_init_24 : decode cX10_init 24 = .ok (.aload_n 0, 1) := by decide +kernel
theorem dX10_init_25 : decode cX10_init 25 = .ok (.sipush 4500, 3) := by decide +kernel
theorem dX10_init_28 : decode cX10_init 28 = .ok (.newarray .int, 2) := by decide +kernel
theorem dX10_init_30 : decode cX10_init 30 = .ok (.putfield 22, 3) := by decide +kernel
theorem dX10_init_33 : decode cX10_init 33 = .ok (.aload_n 0, 1) := by decide +kernel
theorem dX10_init_34 : decode cX10_init 34 = .ok (.bipush 12, 2) := by decide +kernel
theorem dX10_init_36 : decode cX10_init 36 = .ok (.newarray .int, 2) := by decide +kernel
theorem dX10_init_38 : decode cX10_init 38 = .ok (.putfield 25, 3) := by decide +kernel
theorem dX10_init_41 : decode cX10_init 41 = .ok (.aload_n 0, 1) := by decide +kernel
theorem dX10_init_42 : decode cX10_init 42 = .ok (.bipush 12, 2) := by decide +kernel
theorem dX10_init_44 : decode cX10_init 44 = .ok (.newarray .int, 2) := by decide +kernel
theorem dX10_init_46 : decode cX10_init 46 = .ok (.putfield 28, 3) := by decide +kernel
theorem dX10_init_49 : decode cX10_init 49 = .ok (.aload_n 0, 1) := by decide +kernel
theorem dX10_init_50 : decode cX10_init 50 = .ok (.sipush 180, 3) := by decide +kernel
theorem dX10_init_53 : decode cX10_init 53 = .ok (.newarray .int, 2) := by decide +kernel
theorem dX10_init_55 : decode cX10_init 55 = .ok (.putfield 31, 3) := by decide +kernel
theorem dX10_init_58 : decode cX10_init 58 = .ok (.aload_n 0, 1) := by decide +kernel
theorem dX10_init_59 : decode cX10_init 59 = .ok (.bipush 64, 2) := by decide +kernel
theorem dX10_init_61 : decode cX10_init 61 = .ok (.newarray .int, 2) := by decide +kernel
theorem dX10_init_63 : decode cX10_init 63 = .ok (.putfield 34, 3) := by decide +kernel
theorem dX10_init_66 : decode cX10_init 66 = .ok (.aload_n 0, 1) := by decide +kernel
theorem dX10_init_67 : decode cX10_init 67 = .ok (.iconst 5, 1) := by decide +kernel
theorem dX10_init_68 : decode cX10_init 68 = .ok (.newarray .int, 2) := by decide +kernel
theorem dX10_init_70 : decode cX10_init 70 = .ok (.putfield 37, 3) := by decide +kernel
theorem dX10_init_73 : decode cX10_init 73 = .ok (.aload_n 0, 1) := by decide +kernel
theorem dX10_init_74 : decode cX10_init 74 = .ok (.new 40, 3) := by decide +kernel
theorem dX10_init_77 : decode cX10_init 77 = .ok (.dup, 1) := by decide +kernel
theorem dX10_init_78 : decode cX10_init 78 = .ok (.invokespecial 42, 3) := by decide +kernel
theorem dX10_init_81 : decode cX10_init 81 = .ok (.putfield 43, 3) := by decide +kernel
theorem dX10_init_84 : decode cX10_init 84 = .ok (.return_, 1) := by decide +kernel
theorem dX10_allows_0 : decode cX10_allows 0 = .ok (.iload_n 1, 1) := by decide +kernel
theorem dX10_allows_1 : decode cX10_allows 1 = .ok (.bipush 6, 2) := by decide +kernel
theorem dX10_allows_3 : decode cX10_allows 3 = .ok (.idiv, 1) := by decide +kernel
theorem dX10_allows_4 : decode cX10_allows 4 = .ok (.iconst 2, 1) := by decide +kernel
