theorem dX12_isHere_43 : decode cX12_isHere 43 = .ok (.aload_n 0, 1) := by decide +kernel
theorem dX12_isHere_44 : decode cX12_isHere 44 = .ok (.getfield 7, 3) := by decide +kernel
theorem dX12_isHere_47 : decode cX12_isHere 47 = .ok (.iload_n 2, 1) := by decide +kernel
theorem dX12_isHere_48 : decode cX12_isHere 48 = .ok (.iaload, 1) := by decide +kernel
theorem dX12_isHere_49 : decode cX12_isHere 49 = .ok (.invokestatic 189, 3) := by decide +kernel
theorem dX12_isHere_52 : decode cX12_isHere 52 = .ok (.ifCond .eq 9, 3) := by decide +kernel
theorem dX12_isHere_55 : decode cX12_isHere 55 = .ok (.iinc 2 1, 3) := by decide +kernel
theorem dX12_isHere_58 : decode cX12_isHere 58 = .ok (.goto (-23), 3) := by decide +kernel
theorem dX12_isHere_61 : decode cX12_isHere 61 = .ok (.iload_n 2, 1) := by decide +kernel
theorem dX12_isHere_62 : decode cX12_isHere 62 = .ok (.aload_n 0, 1) := by decide +kernel
theorem dX12_isHere_63 : decode cX12_isHere 63 = .ok (.getfield 179, 3) := by decide +kernel
theorem dX12_isHere_66 : decode cX12_isHere 66 = .ok (.isub, 1) := by decide +kernel
theorem dX12_isHere_67 : decode cX12_isHere 67 = .ok (.aload_n 1, 1) := by decide +kernel
theorem dX12_isHere_68 : decode cX12_isHere 68 = .ok (.arraylength, 1) := by decide +kernel
theorem dX12_isHere_69 : decode cX12_isHere 69 = .ok (.if_icmp .eq 5, 3) := by decide +kernel
theorem dX12_isHere_72 : decode cX12_isHere 72 = .ok (.iconst 0, 1) := by decide +kernel
theorem dX12_isHere_73 : decode cX12_isHere 73 = .ok (.ireturn, 1) := by decide +kernel
theorem dX12_isHere_74 : decode cX12_isHere 74 = .ok (.iconst 0, 1) := by decide +kernel
theorem dX12_isHere_75 : decode cX12_isHere 75 = .ok (.istore_n 3, 1) := by decide +kernel
theorem dX12_isHere_76 : decode cX12_isHere 76 = .ok (.iload_n 3, 1) := by decide +kernel
theorem dX12_isHere_77 : decode cX12_isHere 77 = .ok (.aload_n 1, 1) := by decide +kernel
theorem dX12_isHere_78 : decode cX12_isHere 78 = .ok (.arraylength, 1) := by decide +kernel
theorem dX12_isHere_79 : decode cX12_isHere 79 = .ok (.if_icmp .ge 28, 3) := by decide +kernel
theorem dX12_isHere_82 : decode cX12_isHere 82 = .ok (.aload_n 0, 1) := by decide +kernel
theorem dX12_isHere_83 : decode cX12_isHere 83 = .ok (.getfield 7, 3) := by decide +kernel
theorem dX12_isHere_86 : decode cX12_isHere 86 = .ok (.aload_n 0, 1) := by decide +kernel
theorem dX12_isHere_87 : decode cX12_isHere 87 = .ok (.getfield 179, 3) := by decide +kernel
theorem dX12_isHere_90 : decode cX12_isHere 90 = .ok (.iload_n 3, 1) := by decide +kernel
theorem dX12_isHere_91 : decode cX12_isHere 91 = .ok (.iadd, 1) := by decide +kernel
theorem dX12_isHere_92 : decode cX12_isHere 92 = .ok (.iaload, 1) := by decide +kernel
theorem dX12_isHere_93 : decode cX12_isHere 93 = .ok (.aload_n 1, 1) := by decide +kernel
theorem dX12_isHere_94 : decode cX12_isHere 94 = .ok (.iload_n 3, 1) := by decide +kernel
theorem dX12_isHere_95 : decode cX12_isHere 95 = .ok (.caload, 1) := by decide +kernel
theorem dX12_isHere_96 : decode cX12_isHere 96 = .ok (.if_icmp .eq 5, 3) := by decide +kernel
theorem dX12_isHere_99 : decode cX12_isHere 99 = .ok (.iconst 0, 1) := by decide +kernel
theorem dX12_isHere_100 : decode cX12_isHere 100 = .ok (.ireturn, 1) := by decide +kernel
theorem dX12_isHere_101 : decode cX12_isHere 101 = .ok (.iinc 3 1, 3) := by decide +kernel
theorem dX12_isHere_104 : decode cX12_isHere 104 = .ok (.goto (-28), 3) := by decide +kernel
theorem dX12_isHere_107 : decode cX12_isHere 107 = .ok (.iconst 1, 1) := by decide +kernel
theorem dX12_isHere_108 : decode cX12_isHere 108 = .ok (.ireturn, 1) := by decide +kernel
theorem dX12_takes_0 : decode cX12_takes 0 = .ok (.aload_n 0, 1) := by decide +kernel
theorem dX12_takes_1 : decode cX12_takes 1 = .ok (.aload_n 1, 1) := by decide +kernel
theorem dX12_takes_2 : decode cX12_takes 2 = .ok (.invokevirtual 196, 3) := by decide +kernel
theorem dX12_takes_5 : decode cX12_takes 5 = .ok (.ifCond .ne 5, 3) := by decide +kernel
theorem dX12_takes_8 : decode cX12_takes 8 = .ok (.iconst 0, 1) := by decide +kernel
theorem dX12_takes_9 : decode cX12_takes 9 = .ok (.ireturn, 1) := by decide +kernel
theorem dX12_takes_10 : decode cX12_takes 10 = .ok (.aload_n 0, 1) := by decide +kernel
theorem dX12_takes_11 : decode cX12_takes 11 = .ok (.dup, 1) := by decide +kernel
theorem dX12_takes_12 : decode cX12_takes 12 = .ok (.getfield 179, 3) := by decide +kernel
theorem dX12_takes_15 : decode cX12_takes 15 = .ok (.aload_n 1, 1) := by decide +kernel
theorem dX12_takes_16 : decode cX12_takes 16 = .ok (.arraylength, 1) := by decide +kernel
theorem dX12_takes_17 : decode cX12_takes 17 = .ok (.iadd, 1) := by decide +kernel
theorem dX12_takes_18 : decode cX12_takes 18 = .ok (.putfield 179, 3) := by decide +kernel
theorem dX12_takes_21 : decode cX12_takes 21 = .ok (.aload_n 0, 1) := by decide +kernel
theorem dX12_takes_22 : decode cX12_takes 22 = .ok (.aload_n 0, 1) := by decide +kernel
theorem dX12_takes_23 : decode cX12_takes 23 = .ok (.getfield 179, 3) := by decide +kernel
theorem dX12_takes_26 : decode cX12_takes 26 = .ok (.putfield 193, 3) := by decide +kernel
theorem dX12_takes_29 : decode cX12_takes 29 = .ok (.iconst 1, 1) := by decide +kernel
theorem dX12_takes_30 : decode cX12_takes 30 = .ok (.ireturn, 1) := by decide +kernel
theorem dX12_asks_0 : decode cX12_asks 0 = .ok (.aload_n 0, 1) := by decide +kernel
theorem dX12_asks_1 : decode cX12_asks 1 = .ok (.getfield 173, 3) := by decide +kernel
theorem dX12_asks_4 : decode cX12_asks 4 = .ok (.ifCond .ne 20, 3) := by decide +kernel
theorem dX12_asks_7 : decode cX12_asks 7 = .ok (.aload_n 0, 1) := by decide +kernel
theorem dX12_asks_8 : decode cX12_asks 8 = .ok (.aload_n 1, 1) := by decide +kernel
theorem dX12_asks_9 : decode cX12_asks 9 = .ok (.invokevirtual 200, 3) := by decide +kernel
theorem dX12_asks_12 : decode cX12_asks 12 = .ok (.ifCond .ne 12, 3) := by decide +kernel
theorem dX12_asks_15 : decode cX12_asks 15 = .ok (.aload_n 0, 1) := by decide +kernel
theorem dX12_asks_16 : decode cX12_asks 16 = .ok (.iconst 1, 1) := by decide +kernel
theorem dX12_asks_17 : decode cX12_asks 17 = .ok (.aload_n 0, 1) := by decide +kernel
theorem dX12_asks_18 : decode cX12_asks 18 = .ok (.getfield 179, 3) := by decide +kernel
theorem dX12_asks_21 : decode cX12_asks 21 = .ok (.invokevirtual 203, 3) := by decide +kernel
theorem dX12_asks_24 : decode cX12_asks 24 = .ok (.return_, 1) := by decide +kernel
theorem dX12_takesSign_0 : decode cX12_takesSign 0 = .ok (.aload_n 0, 1) := by decide +kernel
theorem dX12_takesSign_1 : decode cX12_takesSign 1 = .ok (.getfield 173, 3) := by decide +kernel
theorem dX12_takesSign_4 : decode cX12_takesSign 4 = .ok (.ifCond .ne 11, 3) := by decide +kernel
theorem dX12_takesSign_7 : decode cX12_takesSign 7 = .ok (.aload_n 0, 1) := by decide +kernel
theorem dX12_takesSign_8 : decode cX12_takesSign 8 = .ok (.invokevirtual 185, 3) := by decide +kernel
theorem dX12_takesSign_11 : decode cX12_takesSign 11 = .ok (.iload_n 1, 1) := by decide +kernel
theorem dX12_takesSign_12 : decode cX12_takesSign 12 = .ok (.if_icmp .eq 5, 3) := by decide +kernel
theorem dX12_takesSign_15 : decode cX12_takesSign 15 = .ok (.iconst 0, 1) := by decide +kernel
theorem dX12_takesSign_16 : decode cX12_takesSign 16 = .ok (.ireturn, 1) := by decide +kernel
theorem dX12_takesSign_17 : decode cX12_takesSign 17 = .ok (.aload_n 0, 1) := by decide +kernel
theorem dX12_takesSign_18 : decode cX12_takesSign 18 = .ok (.dup, 1) := by decide +kernel
theorem dX12_takesSign_19 : decode cX12_takesSign 19 = .ok (.getfield 179, 3) := by decide +kernel
theorem dX12_takesSign_22 : decode cX12_takesSign 22 = .ok (.iconst 1, 1) := by decide +kernel
theorem dX12_takesSign_23 : decode cX12_takesSign 23 = .ok (.iadd, 1) := by decide +kernel
theorem dX12_takesSign_24 : decode cX12_takesSign 24 = .ok (.putfield 179, 3) := by decide +kernel
theorem dX12_takesSign_27 : decode cX12_takesSign 27 = .ok (.iconst 1, 1) := by decide +kernel
theorem dX12_takesSign_28 : decode cX12_takesSign 28 = .ok (.ireturn, 1) := by decide +kernel
theorem dX12_asksSign_0 : decode cX12_asksSign 0 = .ok (.aload_n 0, 1) := by decide +kernel
theorem dX12_asksSign_1 : decode cX12_asksSign 1 = .ok (.getfield 173, 3) := by decide +kernel
theorem dX12_asksSign_4 : decode cX12_asksSign 4 = .ok (.ifCond .ne 20, 3) := by decide +kernel
theorem dX12_asksSign_7 : decode cX12_asksSign 7 = .ok (.aload_n 0, 1) := by decide +kernel
theorem dX12_asksSign_8 : decode cX12_asksSign 8 = .ok (.iload_n 1, 1) := by decide +kernel
theorem dX12_asksSign_9 : decode cX12_asksSign 9 = .ok (.invokevirtual 207, 3) := by decide +kernel
theorem dX12_asksSign_12 : decode cX12_asksSign 12 = .ok (.ifCond .ne 12, 3) := by decide +kernel
theorem dX12_asksSign_15 : decode cX12_asksSign 15 = .ok (.aload_n 0, 1) := by decide +kernel
theorem dX12_asksSign_16 : decode cX12_asksSign 16 = .ok (.iconst 1, 1) := by decide +kernel
theorem dX12_asksSign_17 : decode cX12_asksSign 17 = .ok (.aload_n 0, 1) := by decide +kernel
theorem dX12_asksSign_18 : decode cX12_asksSign 18 = .ok (.getfield 179, 3) := by decide +kernel
theorem dX12_asksSign_21 : decode cX12_asksSign 21 = .ok (.invokevirtual 203, 3) := by decide +kernel
theorem dX12_asksSign_24 : decode cX12_asksSign 24 = .ok (.return_, 1) := by decide +kernel
theorem dX12_number_0 : decode cX12_number 0 = .ok (.aload_n 0, 1) := by decide +kernel
theorem dX12_number_1 : decode cX12_number 1 = .ok (.getfield 173, 3) := by decide +kernel
theorem dX12_number_4 : decode cX12_number 4 = .ok (.ifCond .eq 5, 3) := by decide +kernel
theorem dX12_number_7 : decode cX12_number 7 = .ok (.iconst 0, 1) := by decide +kernel
theorem dX12_number_8 : decode cX12_number 8 = .ok (.ireturn, 1) := by decide +kernel
theorem dX12_number_9 : decode cX12_number 9 = .ok (.aload_n 0, 1) := by decide +kernel
theorem dX12_number_10 : decode cX12_number 10 = .ok (.invokevirtual 185, 3) := by decide +kernel
theorem dX12_number_13 : decode cX12_number 13 = .ok (.invokestatic 210, 3) := by decide +kernel
theorem dX12_number_16 : decode cX12_number 16 = .ok (.ifCond .eq 14, 3) := by decide +kernel
theorem dX12_number_19 : decode cX12_number 19 = .ok (.aload_n 0, 1) := by decide +kernel
theorem dX12_number_20 : decode cX12_number 20 = .ok (.getfield 179, 3) := by decide +kernel
theorem dX12_number_23 : decode cX12_number 23 = .ok (.aload_n 0, 1) := by decide +kernel
theorem dX12_number_24 : decode cX12_number 24 = .ok (.getfield 193, 3) := by decide +kernel
theorem dX12_number_27 : decode cX12_number 27 = .ok (.if_icmp .ne 14, 3) := by decide +kernel
theorem dX12_number_30 : decode cX12_number 30 = .ok (.aload_n 0, 1) := by decide +kernel
theorem dX12_number_31 : decode cX12_number 31 = .ok (.iconst 1, 1) := by decide +kernel
theorem dX12_number_32 : decode cX12_number 32 = .ok (.aload_n 0, 1) := by decide +kernel
theorem dX12_number_33 : decode cX12_number 33 = .ok (.getfield 179, 3) := by decide +kernel
theorem dX12_number_36 : decode cX12_number 36 = .ok (.invokevirtual 203, 3) := by decide +kernel
theorem dX12_number_39 : decode cX12_number 39 = .ok (.iconst 0, 1) := by decide +kernel
theorem dX12_number_40 : decode cX12_number 40 = .ok (.ireturn, 1) := by decide +kernel
theorem dX12_number_41 : decode cX12_number 41 = .ok (.aload_n 0, 1) := by decide +kernel
theorem dX12_number_42 : decode cX12_number 42 = .ok (.aload_n 0, 1) := by decide +kernel
theorem dX12_number_43 : decode cX12_number 43 = .ok (.getfield 179, 3) := by decide +kernel
theorem dX12_number_46 : decode cX12_number 46 = .ok (.putfield 213, 3) := by decide +kernel
theorem dX12_number_49 : decode cX12_number 49 = .ok (.iconst 0, 1) := by decide +kernel
theorem dX12_number_50 : decode cX12_number 50 = .ok (.istore_n 3, 1) := by decide +kernel
theorem dX12_number_51 : decode cX12_number 51 = .ok (.aload_n 0, 1) := by decide +kernel
theorem dX12_number_52 : decode cX12_number 52 = .ok (.getfield 179, 3) := by decide +kernel
theorem dX12_number_55 : decode cX12_number 55 = .ok (.aload_n 0, 1) := by decide +kernel
theorem dX12_number_56 : decode cX12_number 56 = .ok (.getfield 182, 3) := by decide +kernel
theorem dX12_number_59 : decode cX12_number 59 = .ok (.if_icmp .ge 73, 3) := by decide +kernel
theorem dX12_number_62 : decode cX12_number 62 = .ok (.aload_n 0, 1) := by decide +kernel
theorem dX12_number_63 : decode cX12_number 63 = .ok (.getfield 7, 3) := by decide +kernel
theorem dX12_number_66 : decode cX12_number 66 = .ok (.aload_n 0, 1) := by decide +kernel
theorem dX12_number_67 : decode cX12_number 67 = .ok (.getfield 179, 3) := by decide +kernel
theorem dX12_number_70 : decode cX12_number 70 = .ok (.iaload, 1) := by decide +kernel
theorem dX12_number_71 : decode cX12_number 71 = .ok (.invokestatic 210, 3) := by decide +kernel
theorem dX12_number_74 : decode cX12_number 74 = .ok (.ifCond .eq 58, 3) := by decide +kernel
theorem dX12_number_77 : decode cX12_number 77 = .ok (.aload_n 0, 1) := by decide +kernel
theorem dX12_number_78 : decode cX12_number 78 = .ok (.getfield 179, 3) := by decide +kernel
theorem dX12_number_81 : decode cX12_number 81 = .ok (.aload_n 0, 1) := by decide +kernel
theorem dX12_number_82 : decode cX12_number 82 = .ok (.getfield 213, 3) := by decide +kernel
theorem dX12_number_85 : decode cX12_number 85 = .ok (.isub, 1) := by decide +kernel
theorem dX12_number_86 : decode cX12_number 86 = .ok (.iconst 4, 1) := by decide +kernel
theorem dX12_number_87 : decode cX12_number 87 = .ok (.if_icmp .ne 14, 3) := by decide +kernel
theorem dX12_number_90 : decode cX12_number 90 = .ok (.aload_n 0, 1) := by decide +kernel
theorem dX12_number_91 : decode cX12_number 91 = .ok (.iconst 1, 1) := by decide +kernel
theorem dX12_number_92 : decode cX12_number 92 = .ok (.aload_n 0, 1) := by decide +kernel
theorem dX12_number_93 : decode cX12_number 93 = .ok (.getfield 179, 3) := by decide +kernel
theorem dX12_number_96 : decode cX12_number 96 = .ok (.invokevirtual 203, 3) := by decide +kernel
theorem dX12_number_99 : decode cX12_number 99 = .ok (.iconst 0, 1) := by decide +kernel
theorem dX12_number_100 : decode cX12_number 100 = .ok (.ireturn, 1) := by decide +kernel
theorem dX12_number_101 : decode cX12_number 101 = .ok (.bipush 10, 2) := by decide +kernel
theorem dX12_number_103 : decode cX12_number 103 = .ok (.iload_n 3, 1) := by decide +kernel
theorem dX12_number_104 : decode cX12_number 104 = .ok (.imul, 1) := by decide +kernel
theorem dX12_number_105 : decode cX12_number 105 = .ok (.aload_n 0, 1) := by decide +kernel
theorem dX12_number_106 : decode cX12_number 106 = .ok (.getfield 7, 3) := by decide +kernel
theorem dX12_number_109 : decode cX12_number 109 = .ok (.aload_n 0, 1) := by decide +kernel
theorem dX12_number_110 : decode cX12_number 110 = .ok (.getfield 179, 3) := by decide +kernel
theorem dX12_number_113 : decode cX12_number 113 = .ok (.iaload, 1) := by decide +kernel
theorem dX12_number_114 : decode cX12_number 114 = .ok (.iadd, 1) := by decide +kernel
theorem dX12_number_115 : decode cX12_number 115 = .ok (.bipush 48, 2) := by decide +kernel
theorem dX12_number_117 : decode cX12_number 117 = .ok (.isub, 1) := by decide +kernel
theorem dX12_number_118 : decode cX12_number 118 = .ok (.istore_n 3, 1) := by decide +kernel
theorem dX12_number_119 : decode cX12_number 119 = .ok (.aload_n 0, 1) := by decide +kernel
theorem dX12_number_120 : decode cX12_number 120 = .ok (.dup, 1) := by decide +kernel
theorem dX12_number_121 : decode cX12_number 121 = .ok (.getfield 179, 3) := by decide +kernel
theorem dX12_number_124 : decode cX12_number 124 = .ok (.iconst 1, 1) := by decide +kernel
theorem dX12_number_125 : decode cX12_number 125 = .ok (.iadd, 1) := by decide +kernel
theorem dX12_number_126 : decode cX12_number 126 = .ok (.putfield 179, 3) := by decide +kernel
theorem dX12_number_129 : decode cX12_number 129 = .ok (.goto (-78), 3) := by decide +kernel
theorem dX12_number_132 : decode cX12_number 132 = .ok (.aload_n 0, 1) := by decide +kernel
theorem dX12_number_133 : decode cX12_number 133 = .ok (.aload_n 0, 1) := by decide +kernel
theorem dX12_number_134 : decode cX12_number 134 = .ok (.getfield 179, 3) := by decide +kernel
theorem dX12_number_137 : decode cX12_number 137 = .ok (.putfield 193, 3) := by decide +kernel
theorem dX12_number_140 : decode cX12_number 140 = .ok (.iload_n 3, 1) := by decide +kernel
theorem dX12_number_141 : decode cX12_number 141 = .ok (.i2l, 1) := by decide +kernel
theorem dX12_number_142 : decode cX12_number 142 = .ok (.iload_n 1, 1) := by decide +kernel
theorem dX12_number_143 : decode cX12_number 143 = .ok (.i2l, 1) := by decide +kernel
theorem dX12_number_144 : decode cX12_number 144 = .ok (.iload_n 2, 1) := by decide +kernel
theorem dX12_number_145 : decode cX12_number 145 = .ok (.i2l, 1) := by decide +kernel
theorem dX12_number_146 : decode cX12_number 146 = .ok (.invokestatic 216, 3) := by decide +kernel
theorem dX12_number_149 : decode cX12_number 149 = .ok (.ifCond .ne 12, 3) := by decide +kernel
theorem dX12_number_152 : decode cX12_number 152 = .ok (.aload_n 0, 1) := by decide +kernel
theorem dX12_number_153 : decode cX12_number 153 = .ok (.iconst 2, 1) := by decide +kernel
theorem dX12_number_154 : decode cX12_number 154 = .ok (.aload_n 0, 1) := by decide +kernel
theorem dX12_number_155 : decode cX12_number 155 = .ok (.getfield 213, 3) := by decide +kernel
theorem dX12_number_158 : decode cX12_number 158 = .ok (.invokevirtual 203, 3) := by decide +kernel
theorem dX12_number_161 : decode cX12_number 161 = .ok (.iload_n 3, 1) := by decide +kernel
theorem dX12_number_162 : decode cX12_number 162 = .ok (.ireturn, 1) := by decide +kernel
theorem dX12_isOwnHere_0 : decode cX12_isOwnHere 0 = .ok (.aload_n 0, 1) := by decide +kernel
theorem dX12_isOwnHere_1 : decode cX12_isOwnHere 1 = .ok (.aload_n 0, 1) := by decide +kernel
theorem dX12_isOwnHere_2 : decode cX12_isOwnHere 2 = .ok (.getfield 17, 3) := by decide +kernel
theorem dX12_isOwnHere_5 : decode cX12_isOwnHere 5 = .ok (.invokevirtual 196, 3) := by decide +kernel
theorem dX12_isOwnHere_8 : decode cX12_isOwnHere 8 = .ok (.ifCond .ne 58, 3) := by decide +kernel
theorem dX12_isOwnHere_11 : decode cX12_isOwnHere 11 = .ok (.aload_n 0, 1) := by decide +kernel
theorem dX12_isOwnHere_12 : decode cX12_isOwnHere 12 = .ok (.aload_n 0, 1) := by decide +kernel
theorem dX12_isOwnHere_13 : decode cX12_isOwnHere 13 = .ok (.getfield 21, 3) := by decide +kernel
theorem dX12_isOwnHere_16 : decode cX12_isOwnHere 16 = .ok (.invokevirtual 196, 3) := by decide +kernel
theorem dX12_isOwnHere_19 : decode cX12_isOwnHere 19 = .ok (.ifCond .ne 47, 3) := by decide +kernel
theorem dX12_isOwnHere_22 : decode cX12_isOwnHere 22 = .ok (.aload_n 0, 1) := by decide +kernel
theorem dX12_isOwnHere_23 : decode cX12_isOwnHere 23 = .ok (.aload_n 0, 1) := by decide +kernel
theorem dX12_isOwnHere_24 : decode cX12_isOwnHere 24 = .ok (.getfield 24, 3) := by decide +kernel
theorem dX12_isOwnHere_27 : decode cX12_isOwnHere 27 = .ok (.invokevirtual 196, 3) := by decide +kernel
theorem dX12_isOwnHere_30 : decode cX12_isOwnHere 30 = .ok (.ifCond .ne 36, 3) := by decide +kernel
theorem dX12_isOwnHere_33 : decode cX12_isOwnHere 33 = .ok (.aload_n 0, 1) := by decide +kernel
theorem dX12_isOwnHere_34 : decode cX12_isOwnHere 34 = .ok (.aload_n 0, 1) := by decide +kernel
theorem dX12_isOwnHere_35 : decode cX12_isOwnHere 35 = .ok (.getfield 27, 3) := by decide +kernel
theorem dX12_isOwnHere_38 : decode cX12_isOwnHere 38 = .ok (.invokevirtual 196, 3) := by decide +kernel
theorem dX12_isOwnHere_41 : decode cX12_isOwnHere 41 = .ok (.ifCond .ne 25, 3) := by decide +kernel
theorem dX12_isOwnHere_44 : decode cX12_isOwnHere 44 = .ok (.aload_n 0, 1) := by decide +kernel
theorem dX12_isOwnHere_45 : decode cX12_isOwnHere 45 = .ok (.aload_n 0, 1) := by decide +kernel
theorem dX12_isOwnHere_46 : decode cX12_isOwnHere 46 = .ok (.getfield 30, 3) := by decide +kernel
theorem dX12_isOwnHere_49 : decode cX12_isOwnHere 49 = .ok (.invokevirtual 196, 3) := by decide +kernel
theorem dX12_isOwnHere_52 : decode cX12_isOwnHere 52 = .ok (.ifCond .ne 14, 3) := by decide +kernel
theorem dX12_isOwnHere_55 : decode cX12_isOwnHere 55 = .ok (.aload_n 0, 1) := by decide +kernel
theorem dX12_isOwnHere_56 : decode cX12_isOwnHere 56 = .ok (.aload_n 0, 1) := by decide +kernel
theorem dX12_isOwnHere_57 : decode cX12_isOwnHere 57 = .ok (.getfield 33, 3) := by decide +kernel
theorem dX12_isOwnHere_60 : decode cX12_isOwnHere 60 = .ok (.invokevirtual 196, 3) := by decide +kernel
theorem dX12_isOwnHere_63 : decode cX12_isOwnHere 63 = .ok (.ifCond .eq 7, 3) := by decide +kernel
theorem dX12_isOwnHere_66 : decode cX12_isOwnHere 66 = .ok (.iconst 1, 1) := by decide +kernel
theorem dX12_isOwnHere_67 : decode cX12_isOwnHere 67 = .ok (.goto 4, 3) := by decide +kernel
theorem dX12_isOwnHere_70 : decode cX12_isOwnHere 70 = .ok (.iconst 0, 1) := by decide +kernel
theorem dX12_isOwnHere_71 : decode cX12_isOwnHere 71 = .ok (.istore_n 1, 1) := by decide +kernel
theorem dX12_isOwnHere_72 : decode cX12_isOwnHere 72 = .ok (.iload_n 1, 1) := by decide +kernel
theorem dX12_isOwnHere_73 : decode cX12_isOwnHere 73 = .ok (.ifCond .ne 69, 3) := by decide +kernel
theorem dX12_isOwnHere_76 : decode cX12_isOwnHere 76 = .ok (.aload_n 0, 1) := by decide +kernel
theorem dX12_isOwnHere_77 : decode cX12_isOwnHere 77 = .ok (.aload_n 0, 1) := by decide +kernel
theorem dX12_isOwnHere_78 : decode cX12_isOwnHere 78 = .ok (.getfield 36, 3) := by decide +kernel
theorem dX12_isOwnHere_81 : decode cX12_isOwnHere 81 = .ok (.invokevirtual 196, 3) := by decide +kernel
theorem dX12_isOwnHere_84 : decode cX12_isOwnHere 84 = .ok (.ifCond .ne 58, 3) := by decide +kernel
theorem dX12_isOwnHere_87 : decode cX12_isOwnHere 87 = .ok (.aload_n 0, 1) := by decide +kernel
theorem dX12_isOwnHere_88 : decode cX12_isOwnHere 88 = .ok (.aload_n 0, 1) := by decide +kernel
theorem dX12_isOwnHere_89 : decode cX12_isOwnHere 89 = .ok (.getfield 39, 3) := by decide +kernel
theorem dX12_isOwnHere_92 : decode cX12_isOwnHere 92 = .ok (.invokevirtual 196, 3) := by decide +kernel
theorem dX12_isOwnHere_95 : decode cX12_isOwnHere 95 = .ok (.ifCond .ne 47, 3) := by decide +kernel
theorem dX12_isOwnHere_98 : decode cX12_isOwnHere 98 = .ok (.aload_n 0, 1) := by decide +kernel
theorem dX12_isOwnHere_99 : decode cX12_isOwnHere 99 = .ok (.aload_n 0, 1) := by decide +kernel
theorem dX12_isOwnHere_100 : decode cX12_isOwnHere 100 = .ok (.getfield 42, 3) := by decide +kernel
theorem dX12_isOwnHere_103 : decode cX12_isOwnHere 103 = .ok (.invokevirtual 196, 3) := by decide +kernel
theorem dX12_isOwnHere_106 : decode cX12_isOwnHere 106 = .ok (.ifCond .ne 36, 3) := by decide +kernel
theorem dX12_isOwnHere_109 : decode cX12_isOwnHere 109 = .ok (.aload_n 0, 1) := by decide +kernel
theorem dX12_isOwnHere_110 : decode cX12_isOwnHere 110 = .ok (.aload_n 0, 1) := by decide +kernel
theorem dX12_isOwnHere_111 : decode cX12_isOwnHere 111 = .ok (.getfield 45, 3) := by decide +kernel
theorem dX12_isOwnHere_114 : decode cX12_isOwnHere 114 = .ok (.invokevirtual 196, 3) := by decide +kernel
theorem dX12_isOwnHere_117 : decode cX12_isOwnHere 117 = .ok (.ifCond .ne 25, 3) := by decide +kernel
theorem dX12_isOwnHere_120 : decode cX12_isOwnHere 120 = .ok (.aload_n 0, 1) := by decide +kernel
theorem dX12_isOwnHere_121 : decode cX12_isOwnHere 121 = .ok (.aload_n 0, 1) := by decide +kernel
theorem dX12_isOwnHere_122 : decode cX12_isOwnHere 122 = .ok (.getfield 48, 3) := by decide +kernel
theorem dX12_isOwnHere_125 : decode cX12_isOwnHere 125 = .ok (.invokevirtual 196, 3) := by decide +kernel
theorem dX12_isOwnHere_128 : decode cX12_isOwnHere 128 = .ok (.ifCond .ne 14, 3) := by decide +kernel
theorem dX12_isOwnHere_131 : decode cX12_isOwnHere 131 = .ok (.aload_n 0, 1) := by decide +kernel
theorem dX12_isOwnHere_132 : decode cX12_isOwnHere 132 = .ok (.aload_n 0, 1) := by decide +kernel
theorem dX12_isOwnHere_133 : decode cX12_isOwnHere 133 = .ok (.getfield 51, 3) := by decide +kernel
theorem dX12_isOwnHere_136 : decode cX12_isOwnHere 136 = .ok (.invokevirtual 196, 3) := by decide +kernel
theorem dX12_isOwnHere_139 : decode cX12_isOwnHere 139 = .ok (.ifCond .eq 7, 3) := by decide +kernel
theorem dX12_isOwnHere_142 : decode cX12_isOwnHere 142 = .ok (.iconst 1, 1) := by decide +kernel
theorem dX12_isOwnHere_143 : decode cX12_isOwnHere 143 = .ok (.goto 4, 3) := by decide +kernel
theorem dX12_isOwnHere_146 : decode cX12_isOwnHere 146 = .ok (.iconst 0, 1) := by decide +kernel
theorem dX12_isOwnHere_147 : decode cX12_isOwnHere 147 = .ok (.istore_n 1, 1) := by decide +kernel
theorem dX12_isOwnHere_148 : decode cX12_isOwnHere 148 = .ok (.iload_n 1, 1) := by decide +kernel
theorem dX12_isOwnHere_149 : decode cX12_isOwnHere 149 = .ok (.ifCond .ne 69, 3) := by decide +kernel
theorem dX12_isOwnHere_152 : decode cX12_isOwnHere 152 = .ok (.aload_n 0, 1) := by decide +kernel
theorem dX12_isOwnHere_153 : decode cX12_isOwnHere 153 = .ok (.aload_n 0, 1) := by decide +kernel
theorem dX12_isOwnHere_154 : decode cX12_isOwnHere 154 = .ok (.getfield 54, 3) := by decide +kernel
theorem dX12_isOwnHere_157 : decode cX12_isOwnHere 157 = .ok (.invokevirtual 196, 3) := by decide +kernel
theorem dX12_isOwnHere_160 : decode cX12_isOwnHere 160 = .ok (.ifCond .ne 58, 3) := by decide +kernel
theorem dX12_isOwnHere_163 : decode cX12_isOwnHere 163 = .ok (.aload_n 0, 1) := by decide +kernel
theorem dX12_isOwnHere_164 : decode cX12_isOwnHere 164 = .ok (.aload_n 0, 1) := by decide +kernel
theorem dX12_isOwnHere_165 : decode cX12_isOwnHere 165 = .ok (.getfield 57, 3) := by decide +kernel
theorem dX12_isOwnHere_168 : decode cX12_isOwnHere 168 = .ok (.invokevirtual 196, 3) := by decide +kernel
theorem dX12_isOwnHere_171 : decode cX12_isOwnHere 171 = .ok (.ifCond .ne 47, 3) := by decide +kernel
theorem dX12_isOwnHere_174 : decode cX12_isOwnHere 174 = .ok (.aload_n 0, 1) := by decide +kernel
theorem dX12_isOwnHere_175 : decode cX12_isOwnHere 175 = .ok (.aload_n 0, 1) := by decide +kernel
theorem dX12_isOwnHere_176 : decode cX12_isOwnHere 176 = .ok (.getfield 60, 3) := by decide +kernel
theorem dX12_isOwnHere_179 : decode cX12_isOwnHere 179 = .ok (.invokevirtual 196, 3) := by decide +kernel
theorem dX12_isOwnHere_182 : decode cX12_isOwnHere 182 = .ok (.ifCond .ne 36, 3) := by decide +kernel
theorem dX12_isOwnHere_185 : decode cX12_isOwnHere 185 = .ok (.aload_n 0, 1) := by decide +kernel
theorem dX12_isOwnHere_186 : decode cX12_isOwnHere 186 = .ok (.aload_n 0, 1) := by decide +kernel
theorem dX12_isOwnHere_187 : decode cX12_isOwnHere 187 = .ok (.getfield 63, 3) := by decide +kernel
theorem dX12_isOwnHere_190 : decode cX12_isOwnHere 190 = .ok (.invokevirtual 196, 3) := by decide +kernel
theorem dX12_isOwnHere_193 : decode cX12_isOwnHere 193 = .ok (.ifCond .ne 25, 3) := by decide +kernel
theorem dX12_isOwnHere_196 : decode cX12_isOwnHere 196 = .ok (.aload_n 0, 1) := by decide +kernel
theorem dX12_isOwnHere_197 : decode cX12_isOwnHere 197 = .ok (.aload_n 0, 1) := by decide +kernel
theorem dX12_isOwnHere_198 : decode cX12_isOwnHere 198 = .ok (.getfield 66, 3) := by decide +kernel
theorem dX12_isOwnHere_201 : decode cX12_isOwnHere 201 = .ok (.invokevirtual 196, 3) := by decide +kernel
theorem dX12_isOwnHere_204 : decode cX12_isOwnHere 204 = .ok (.ifCond .ne 14, 3) := by decide +kernel
theorem dX12_isOwnHere_207 : decode cX12_isOwnHere 207 = .ok (.aload_n 0, 1) := by decide +kernel
theorem dX12_isOwnHere_208 : decode cX12_isOwnHere 208 = .ok (.aload_n 0, 1) := by decide +kernel
theorem dX12_isOwnHere_209 : decode cX12_isOwnHere 209 = .ok (.getfield 69, 3) := by decide +kernel
theorem dX12_isOwnHere_212 : decode cX12_isOwnHere 212 = .ok (.invokevirtual 196, 3) := by decide +kernel
theorem dX12_isOwnHere_215 : decode cX12_isOwnHere 215 = .ok (.ifCond .eq 7, 3) := by decide +kernel
theorem dX12_isOwnHere_218 : decode cX12_isOwnHere 218 = .ok (.iconst 1, 1) := by decide +kernel
theorem dX12_isOwnHere_219 : decode cX12_isOwnHere 219 = .ok (.goto 4, 3) := by decide +kernel
theorem dX12_isOwnHere_222 : decode cX12_isOwnHere 222 = .ok (.iconst 0, 1) := by decide +kernel
theorem dX12_isOwnHere_223 : decode cX12_isOwnHere 223 = .ok (.istore_n 1, 1) := by decide +kernel
theorem dX12_isOwnHere_224 : decode cX12_isOwnHere 224 = .ok (.iload_n 1, 1) := by decide +kernel
theorem dX12_isOwnHere_225 : decode cX12_isOwnHere 225 = .ok (.ifCond .ne 69, 3) := by decide +kernel
theorem dX12_isOwnHere_228 : decode cX12_isOwnHere 228 = .ok (.aload_n 0, 1) := by decide +kernel
theorem dX12_isOwnHere_229 : decode cX12_isOwnHere 229 = .ok (.aload_n 0, 1) := by decide +kernel
theorem dX12_isOwnHere_230 : decode cX12_isOwnHere 230 = .ok (.getfield 72, 3) := by decide +kernel
theorem dX12_isOwnHere_233 : decode cX12_isOwnHere 233 = .ok (.invokevirtual 196, 3) := by decide +kernel
theorem dX12_isOwnHere_236 : decode cX12_isOwnHere 236 = .ok (.ifCond .ne 58, 3) := by decide +kernel
theorem dX12_isOwnHere_239 : decode cX12_isOwnHere 239 = .ok (.aload_n 0, 1) := by decide +kernel
theorem dX12_isOwnHere_240 : decode cX12_isOwnHere 240 = .ok (.aload_n 0, 1) := by decide +kernel
theorem dX12_isOwnHere_241 : decode cX12_isOwnHere 241 = .ok (.getfield 75, 3) := by decide +kernel
theorem dX12_isOwnHere_244 : decode cX12_isOwnHere 244 = .ok (.invokevirtual 196, 3) := by decide +kernel
theorem dX12_isOwnHere_247 : decode cX12_isOwnHere 247 = .ok (.ifCond .ne 47, 3) := by decide +kernel
theorem dX12_isOwnHere_250 : decode cX12_isOwnHere 250 = .ok (.aload_n 0, 1) := by decide +kernel
theorem dX12_isOwnHere_251 : decode cX12_isOwnHere 251 = .ok (.aload_n 0, 1) := by decide +kernel
theorem dX12_isOwnHere_252 : decode cX12_isOwnHere 252 = .ok (.getfield 78, 3) := by decide +kernel
theorem dX12_isOwnHere_255 : decode cX12_isOwnHere 255 = .ok (.invokevirtual 196, 3) := by decide +kernel
theorem dX12_isOwnHere_258 : decode cX12_isOwnHere 258 = .ok (.ifCond .ne 36, 3) := by decide +kernel
theorem dX12_isOwnHere_261 : decode cX12_isOwnHere 261 = .ok (.aload_n 0, 1) := by decide +kernel
theorem dX12_isOwnHere_262 : decode cX12_isOwnHere 262 = .ok (.aload_n 0, 1) := by decide +kernel
theorem dX12_isOwnHere_263 : decode cX12_isOwnHere 263 = .ok (.getfield 81, 3) := by decide +kernel
theorem dX12_isOwnHere_266 : decode cX12_isOwnHere 266 = .ok (.invokevirtual 196, 3) := by decide +kernel
theorem dX12_isOwnHere_269 : decode cX12_isOwnHere 269 = .ok (.ifCond .ne 25, 3) := by decide +kernel
theorem dX12_isOwnHere_272 : decode cX12_isOwnHere 272 = .ok (.aload_n 0, 1) := by decide +kernel
theorem dX12_isOwnHere_273 : decode cX12_isOwnHere 273 = .ok (.aload_n 0, 1) := by decide +kernel
theorem dX12_isOwnHere_274 : decode cX12_isOwnHere 274 = .ok (.getfield 84, 3) := by decide +kernel
theorem dX12_isOwnHere_277 : decode cX12_isOwnHere 277 = .ok (.invokevirtual 196, 3) := by decide +kernel
theorem dX12_isOwnHere_280 : decode cX12_isOwnHere 280 = .ok (.ifCond .ne 14, 3) := by decide +kernel
theorem dX12_isOwnHere_283 : decode cX12_isOwnHere 283 = .ok (.aload_n 0, 1) := by decide +kernel
theorem dX12_isOwnHere_284 : decode cX12_isOwnHere 284 = .ok (.aload_n 0, 1) := by decide +kernel
theorem dX12_isOwnHere_285 : decode cX12_isOwnHere 285 = .ok (.getfield 87, 3) := by decide +kernel
theorem dX12_isOwnHere_288 : decode cX12_isOwnHere 288 = .ok (.invokevirtual 196, 3) := by decide +kernel
theorem dX12_isOwnHere_291 : decode cX12_isOwnHere 291 = .ok (.ifCond .eq 7, 3) := by decide +kernel
theorem dX12_isOwnHere_294 : decode cX12_isOwnHere 294 = .ok (.iconst 1, 1) := by decide +kernel
theorem dX12_isOwnHere_295 : decode cX12_isOwnHere 295 = .ok (.goto 4, 3) := by decide +kernel
theorem dX12_isOwnHere_298 : decode cX12_isOwnHere 298 = .ok (.iconst 0, 1) := by decide +kernel
theorem dX12_isOwnHere_299 : decode cX12_isOwnHere 299 = .ok (.istore_n 1, 1) := by decide +kernel
theorem dX12_isOwnHere_300 : decode cX12_isOwnHere 300 = .ok (.iload_n 1, 1) := by decide +kernel
theorem dX12_isOwnHere_301 : decode cX12_isOwnHere 301 = .ok (.ifCond .ne 25, 3) := by decide +kernel
theorem dX12_isOwnHere_304 : decode cX12_isOwnHere 304 = .ok (.aload_n 0, 1) := by decide +kernel
theorem dX12_isOwnHere_305 : decode cX12_isOwnHere 305 = .ok (.aload_n 0, 1) := by decide +kernel
theorem dX12_isOwnHere_306 : decode cX12_isOwnHere 306 = .ok (.getfield 90, 3) := by decide +kernel
theorem dX12_isOwnHere_309 : decode cX12_isOwnHere 309 = .ok (.invokevirtual 196, 3) := by decide +kernel
theorem dX12_isOwnHere_312 : decode cX12_isOwnHere 312 = .ok (.ifCond .ne 14, 3) := by decide +kernel
theorem dX12_isOwnHere_315 : decode cX12_isOwnHere 315 = .ok (.aload_n 0, 1) := by decide +kernel
theorem dX12_isOwnHere_316 : decode cX12_isOwnHere 316 = .ok (.aload_n 0, 1) := by decide +kernel
theorem dX12_isOwnHere_317 : decode cX12_isOwnHere 317 = .ok (.getfield 93, 3) := by decide +kernel
theorem dX12_isOwnHere_320 : decode cX12_isOwnHere 320 = .ok (.invokevirtual 196, 3) := by decide +kernel
theorem dX12_isOwnHere_323 : decode cX12_isOwnHere 323 = .ok (.ifCond .eq 7, 3) := by decide +kernel
theorem dX12_isOwnHere_326 : decode cX12_isOwnHere 326 = .ok (.iconst 1, 1) := by decide +kernel
theorem dX12_isOwnHere_327 : decode cX12_isOwnHere 327 = .ok (.goto 4, 3) := by decide +kernel
theorem dX12_isOwnHere_330 : decode cX12_isOwnHere 330 = .ok (.iconst 0, 1) := by decide +kernel
theorem dX12_isOwnHere_331 : decode cX12_isOwnHere 331 = .ok (.istore_n 1, 1) := by decide +kernel
theorem dX12_isOwnHere_332 : decode cX12_isOwnHere 332 = .ok (.iload_n 1, 1) := by decide +kernel
theorem dX12_isOwnHere_333 : decode cX12_isOwnHere 333 = .ok (.ireturn, 1) := by decide +kernel
theorem dX12_name_0 : decode cX12_name 0 = .ok (.aload_n 0, 1) := by decide +kernel
theorem dX12_name_1 : decode cX12_name 1 = .ok (.getfield 173, 3) := by decide +kernel
theorem dX12_name_4 : decode cX12_name 4 = .ok (.ifCond .eq 5, 3) := by decide +kernel
theorem dX12_name_7 : decode cX12_name 7 = .ok (.lconst 0, 1) := by decide +kernel
theorem dX12_name_8 : decode cX12_name 8 = .ok (.lreturn, 1) := by decide +kernel
theorem dX12_name_9 : decode cX12_name 9 = .ok (.aload_n 0, 1) := by decide +kernel
theorem dX12_name_10 : decode cX12_name 10 = .ok (.invokevirtual 185, 3) := by decide +kernel
theorem dX12_name_13 : decode cX12_name 13 = .ok (.invokestatic 189, 3) := by decide +kernel
theorem dX12_name_16 : decode cX12_name 16 = .ok (.ifCond .eq 21, 3) := by decide +kernel
theorem dX12_name_19 : decode cX12_name 19 = .ok (.aload_n 0, 1) := by decide +kernel
theorem dX12_name_20 : decode cX12_name 20 = .ok (.getfield 179, 3) := by decide +kernel
theorem dX12_name_23 : decode cX12_name 23 = .ok (.aload_n 0, 1) := by decide +kernel
theorem dX12_name_24 : decode cX12_name 24 = .ok (.getfield 193, 3) := by decide +kernel
theorem dX12_name_27 : decode cX12_name 27 = .ok (.if_icmp .eq 10, 3) := by decide +kernel
theorem dX12_name_30 : decode cX12_name 30 = .ok (.aload_n 0, 1) := by decide +kernel
theorem dX12_name_31 : decode cX12_name 31 = .ok (.invokevirtual 220, 3) := by decide +kernel
theorem dX12_name_34 : decode cX12_name 34 = .ok (.ifCond .eq 14, 3) := by decide +kernel
theorem dX12_name_37 : decode cX12_name 37 = .ok (.aload_n 0, 1) := by decide +kernel
theorem dX12_name_38 : decode cX12_name 38 = .ok (.iconst 1, 1) := by decide +kernel
theorem dX12_name_39 : decode cX12_name 39 = .ok (.aload_n 0, 1) := by decide +kernel
theorem dX12_name_40 : decode cX12_name 40 = .ok (.getfield 179, 3) := by decide +kernel
theorem dX12_name_43 : decode cX12_name 43 = .ok (.invokevirtual 203, 3) := by decide +kernel
theorem dX12_name_46 : decode cX12_name 46 = .ok (.lconst 0, 1) := by decide +kernel
theorem dX12_name_47 : decode cX12_name 47 = .ok (.lreturn, 1) := by decide +kernel
theorem dX12_name_48 : decode cX12_name 48 = .ok (.aload_n 0, 1) := by decide +kernel
theorem dX12_name_49 : decode cX12_name 49 = .ok (.aload_n 0, 1) := by decide +kernel
theorem dX12_name_50 : decode cX12_name 50 = .ok (.getfield 179, 3) := by decide +kernel
theorem dX12_name_53 : decode cX12_name 53 = .ok (.putfield 224, 3) := by decide +kernel
theorem dX12_name_56 : decode cX12_name 56 = .ok (.lconst 0, 1) := by decide +kernel
theorem dX12_name_57 : decode cX12_name 57 = .ok (.lstore_n 1, 1) := by decide +kernel
theorem dX12_name_58 : decode cX12_name 58 = .ok (.aload_n 0, 1) := by decide +kernel
theorem dX12_name_59 : decode cX12_name 59 = .ok (.getfield 179, 3) := by decide +kernel
theorem dX12_name_62 : decode cX12_name 62 = .ok (.aload_n 0, 1) := by decide +kernel
theorem dX12_name_63 : decode cX12_name 63 = .ok (.getfield 182, 3) := by decide +kernel
theorem dX12_name_66 : decode cX12_name 66 = .ok (.if_icmp .ge 79, 3) := by decide +kernel
theorem dX12_name_69 : decode cX12_name 69 = .ok (.aload_n 0, 1) := by decide +kernel
theorem dX12_name_70 : decode cX12_name 70 = .ok (.getfield 7, 3) := by decide +kernel
theorem dX12_name_73 : decode cX12_name 73 = .ok (.aload_n 0, 1) := by decide +kernel
theorem dX12_name_74 : decode cX12_name 74 = .ok (.getfield 179, 3) := by decide +kernel
theorem dX12_name_77 : decode cX12_name 77 = .ok (.iaload, 1) := by decide +kernel
theorem dX12_name_78 : decode cX12_name 78 = .ok (.invokestatic 189, 3) := by decide +kernel
theorem dX12_name_81 : decode cX12_name 81 = .ok (.ifCond .eq 64, 3) := by decide +kernel
theorem dX12_name_84 : decode cX12_name 84 = .ok (.aload_n 0, 1) := by decide +kernel
theorem dX12_name_85 : decode cX12_name 85 = .ok (.getfield 179, 3) := by decide +kernel
theorem dX12_name_88 : decode cX12_name 88 = .ok (.aload_n 0, 1) := by decide +kernel
theorem dX12_name_89 : decode cX12_name 89 = .ok (.getfield 224, 3) := by decide +kernel
theorem dX12_name_92 : decode cX12_name 92 = .ok (.isub, 1) := by decide +kernel
theorem dX12_name_93 : decode cX12_name 93 = .ok (.bipush 6, 2) := by decide +kernel
theorem dX12_name_95 : decode cX12_name 95 = .ok (.if_icmp .ne 14, 3) := by decide +kernel
theorem dX12_name_98 : decode cX12_name 98 = .ok (.aload_n 0, 1) := by decide +kernel
theorem dX12_name_99 : decode cX12_name 99 = .ok (.iconst 1, 1) := by decide +kernel
theorem dX12_name_100 : decode cX12_name 100 = .ok (.aload_n 0, 1) := by decide +kernel
theorem dX12_name_101 : decode cX12_name 101 = .ok (.getfield 179, 3) := by decide +kernel
theorem dX12_name_104 : decode cX12_name 104 = .ok (.invokevirtual 203, 3) := by decide +kernel
theorem dX12_name_107 : decode cX12_name 107 = .ok (.lconst 0, 1) := by decide +kernel
theorem dX12_name_108 : decode cX12_name 108 = .ok (.lreturn, 1) := by decide +kernel
theorem dX12_name_109 : decode cX12_name 109 = .ok (.ldc2_w 227, 3) := by decide +kernel
theorem dX12_name_112 : decode cX12_name 112 = .ok (.lload_n 1, 1) := by decide +kernel
theorem dX12_name_113 : decode cX12_name 113 = .ok (.lmul, 1) := by decide +kernel
theorem dX12_name_114 : decode cX12_name 114 = .ok (.aload_n 0, 1) := by decide +kernel
theorem dX12_name_115 : decode cX12_name 115 = .ok (.getfield 7, 3) := by decide +kernel
theorem dX12_name_118 : decode cX12_name 118 = .ok (.aload_n 0, 1) := by decide +kernel
theorem dX12_name_119 : decode cX12_name 119 = .ok (.getfield 179, 3) := by decide +kernel
theorem dX12_name_122 : decode cX12_name 122 = .ok (.iaload, 1) := by decide +kernel
theorem dX12_name_123 : decode cX12_name 123 = .ok (.i2l, 1) := by decide +kernel
theorem dX12_name_124 : decode cX12_name 124 = .ok (.ladd, 1) := by decide +kernel
theorem dX12_name_125 : decode cX12_name 125 = .ok (.ldc2_w 229, 3) := by decide +kernel
theorem dX12_name_128 : decode cX12_name 128 = .ok (.lsub, 1) := by decide +kernel
theorem dX12_name_129 : decode cX12_name 129 = .ok (.lconst 1, 1) := by decide +kernel
theorem dX12_name_130 : decode cX12_name 130 = .ok (.ladd, 1) := by decide +kernel
theorem dX12_name_131 : decode cX12_name 131 = .ok (.lstore_n 1, 1) := by decide +kernel
theorem dX12_name_132 : decode cX12_name 132 = .ok (.aload_n 0, 1) := by decide +kernel
theorem dX12_name_133 : decode cX12_name 133 = .ok (.dup, 1) := by decide +kernel
theorem dX12_name_134 : decode cX12_name 134 = .ok (.getfield 179, 3) := by decide +kernel
theorem dX12_name_137 : decode cX12_name 137 = .ok (.iconst 1, 1) := by decide +kernel
theorem dX12_name_138 : decode cX12_name 138 = .ok (.iadd, 1) := by decide +kernel
theorem dX12_name_139 : decode cX12_name 139 = .ok (.putfield 179, 3) := by decide +kernel
theorem dX12_name_142 : decode cX12_name 142 = .ok (.goto (-84), 3) := by decide +kernel
theorem dX12_name_145 : decode cX12_name 145 = .ok (.aload_n 0, 1) := by decide +kernel
theorem dX12_name_146 : decode cX12_name 146 = .ok (.aload_n 0, 1) := by decide +kernel
theorem dX12_name_147 : decode cX12_name 147 = .ok (.getfield 179, 3) := by decide +kernel
theorem dX12_name_150 : decode cX12_name 150 = .ok (.putfield 193, 3) := by decide +kernel
theorem dX12_name_153 : decode cX12_name 153 = .ok (.lload_n 1, 1) := by decide +kernel
theorem dX12_name_154 : decode cX12_name 154 = .ok (.lreturn, 1) := by decide +kernel
theorem dX12_begins_0 : decode cX12_begins 0 = .ok (.aload_n 0, 1) := by decide +kernel
theorem dX12_begins_1 : decode cX12_begins 1 = .ok (.aload_n 0, 1) := by decide +kernel
theorem dX12_begins_2 : decode cX12_begins 2 = .ok (.getfield 170, 3) := by decide +kernel
theorem dX12_begins_5 : decode cX12_begins 5 = .ok (.putfield 182, 3) := by decide +kernel
theorem dX12_begins_8 : decode cX12_begins 8 = .ok (.aload_n 0, 1) := by decide +kernel
theorem dX12_begins_9 : decode cX12_begins 9 = .ok (.iconst 0, 1) := by decide +kernel
theorem dX12_begins_10 : decode cX12_begins 10 = .ok (.putfield 170, 3) := by decide +kernel
theorem dX12_begins_13 : decode cX12_begins 13 = .ok (.aload_n 0, 1) := by decide +kernel
theorem dX12_begins_14 : decode cX12_begins 14 = .ok (.iconst 0, 1) := by decide +kernel
theorem dX12_begins_15 : decode cX12_begins 15 = .ok (.putfield 179, 3) := by decide +kernel
theorem dX12_begins_18 : decode cX12_begins 18 = .ok (.aload_n 0, 1) := by decide +kernel
theorem dX12_begins_19 : decode cX12_begins 19 = .ok (.iconst (-1), 1) := by decide +kernel
theorem dX12_begins_20 : decode cX12_begins 20 = .ok (.putfield 193, 3) := by decide +kernel
theorem dX12_begins_23 : decode cX12_begins 23 = .ok (.aload_n 0, 1) := by decide +kernel
theorem dX12_begins_24 : decode cX12_begins 24 = .ok (.iconst 0, 1) := by decide +kernel
theorem dX12_begins_25 : decode cX12_begins 25 = .ok (.putfield 173, 3) := by decide +kernel
theorem dX12_begins_28 : decode cX12_begins 28 = .ok (.aload_n 0, 1) := by decide +kernel
theorem dX12_begins_29 : decode cX12_begins 29 = .ok (.iconst (-1), 1) := by decide +kernel
theorem dX12_begins_30 : decode cX12_begins 30 = .ok (.putfield 176, 3) := by decide +kernel
theorem dX12_begins_33 : decode cX12_begins 33 = .ok (.aload_n 0, 1) := by decide +kernel
theorem dX12_begins_34 : decode cX12_begins 34 = .ok (.iconst 0, 1) := by decide +kernel
theorem dX12_begins_35 : decode cX12_begins 35 = .ok (.putfield 231, 3) := by decide +kernel
theorem dX12_begins_38 : decode cX12_begins 38 = .ok (.aload_n 0, 1) := by decide +kernel
theorem dX12_begins_39 : decode cX12_begins 39 = .ok (.iconst 0, 1) := by decide +kernel
theorem dX12_begins_40 : decode cX12_begins 40 = .ok (.putfield 234, 3) := by decide +kernel
theorem dX12_begins_43 : decode cX12_begins 43 = .ok (.return_, 1) := by decide +kernel
theorem dX12_isTaken_0 : decode cX12_isTaken 0 = .ok (.aload_n 0, 1) := by decide +kernel
theorem dX12_isTaken_1 : decode cX12_isTaken 1 = .ok (.aload_n 0, 1) := by decide +kernel
theorem dX12_isTaken_2 : decode cX12_isTaken 2 = .ok (.getfield 173, 3) := by decide +kernel
theorem dX12_isTaken_5 : decode cX12_isTaken 5 = .ok (.putfield 237, 3) := by decide +kernel
theorem dX12_isTaken_8 : decode cX12_isTaken 8 = .ok (.aload_n 0, 1) := by decide +kernel
theorem dX12_isTaken_9 : decode cX12_isTaken 9 = .ok (.aload_n 0, 1) := by decide +kernel
theorem dX12_isTaken_10 : decode cX12_isTaken 10 = .ok (.getfield 176, 3) := by decide +kernel
theorem dX12_isTaken_13 : decode cX12_isTaken 13 = .ok (.putfield 13, 3) := by decide +kernel
theorem dX12_isTaken_16 : decode cX12_isTaken 16 = .ok (.aload_n 0, 1) := by decide +kernel
theorem dX12_isTaken_17 : decode cX12_isTaken 17 = .ok (.getfield 173, 3) := by decide +kernel
theorem dX12_isTaken_20 : decode cX12_isTaken 20 = .ok (.ifCond .ne 7, 3) := by decide +kernel
theorem dX12_isTaken_23 : decode cX12_isTaken 23 = .ok (.iconst 1, 1) := by decide +kernel
theorem dX12_isTaken_24 : decode cX12_isTaken 24 = .ok (.goto 4, 3) := by decide +kernel
theorem dX12_isTaken_27 : decode cX12_isTaken 27 = .ok (.iconst 0, 1) := by decide +kernel
theorem dX12_isTaken_28 : decode cX12_isTaken 28 = .ok (.ireturn, 1) := by decide +kernel
theorem dX12_noteTold_0 : decode cX12_noteTold 0 = .ok (.aload_n 0, 1) := by decide +kernel
theorem dX12_noteTold_1 : decode cX12_noteTold 1 = .ok (.getfield 231, 3) := by decide +kernel
theorem dX12_noteTold_4 : decode cX12_noteTold 4 = .ok (.bipush 24, 2) := by decide +kernel
theorem dX12_noteTold_6 : decode cX12_noteTold 6 = .ok (.if_icmp .ne 13, 3) := by decide +kernel
theorem dX12_noteTold_9 : decode cX12_noteTold 9 = .ok (.aload_n 0, 1) := by decide +kernel
theorem dX12_noteTold_10 : decode cX12_noteTold 10 = .ok (.iconst 5, 1) := by decide +kernel
theorem dX12_noteTold_11 : decode cX12_noteTold 11 = .ok (.aload_n 0, 1) := by decide +kernel
theorem dX12_noteTold_12 : decode cX12_noteTold 12 = .ok (.getfield 179, 3) := by decide +kernel
theorem dX12_noteTold_15 : decode cX12_noteTold 15 = .ok (.invokevirtual 203, 3) := by decide +kernel
theorem dX12_noteTold_18 : decode cX12_noteTold 18 = .ok (.return_, 1) := by decide +kernel
theorem dX12_noteTold_19 : decode cX12_noteTold 19 = .ok (.bipush 24, 2) := by decide +kernel
theorem dX12_noteTold_21 : decode cX12_noteTold 21 = .ok (.aload_n 0, 1) := by decide +kernel
theorem dX12_noteTold_22 : decode cX12_noteTold 22 = .ok (.getfield 231, 3) := by decide +kernel
theorem dX12_noteTold_25 : decode cX12_noteTold 25 = .ok (.iadd, 1) := by decide +kernel
theorem dX12_noteTold_26 : decode cX12_noteTold 26 = .ok (.istore_n 1, 1) := by decide +kernel
theorem dX12_noteTold_27 : decode cX12_noteTold 27 = .ok (.aload_n 0, 1) := by decide +kernel
theorem dX12_noteTold_28 : decode cX12_noteTold 28 = .ok (.aload_n 0, 1) := by decide +kernel
theorem dX12_noteTold_29 : decode cX12_noteTold 29 = .ok (.getfield 24, 3) := by decide +kernel
theorem dX12_noteTold_32 : decode cX12_noteTold 32 = .ok (.invokevirtual 200, 3) := by decide +kernel
theorem dX12_noteTold_35 : decode cX12_noteTold 35 = .ok (.istore_n 2, 1) := by decide +kernel
theorem dX12_noteTold_36 : decode cX12_noteTold 36 = .ok (.iload_n 2, 1) := by decide +kernel
theorem dX12_noteTold_37 : decode cX12_noteTold 37 = .ok (.ifCond .ne 11, 3) := by decide +kernel
theorem dX12_noteTold_40 : decode cX12_noteTold 40 = .ok (.aload_n 0, 1) := by decide +kernel
theorem dX12_noteTold_41 : decode cX12_noteTold 41 = .ok (.aload_n 0, 1) := by decide +kernel
theorem dX12_noteTold_42 : decode cX12_noteTold 42 = .ok (.getfield 17, 3) := by decide +kernel
theorem dX12_noteTold_45 : decode cX12_noteTold 45 = .ok (.invokevirtual 240, 3) := by decide +kernel
theorem dX12_noteTold_48 : decode cX12_noteTold 48 = .ok (.aload_n 0, 1) := by decide +kernel
theorem dX12_noteTold_49 : decode cX12_noteTold 49 = .ok (.getfield 96, 3) := by decide +kernel
theorem dX12_noteTold_52 : decode cX12_noteTold 52 = .ok (.iload_n 1, 1) := by decide +kernel
theorem dX12_noteTold_53 : decode cX12_noteTold 53 = .ok (.iload_n 2, 1) := by decide +kernel
theorem dX12_noteTold_54 : decode cX12_noteTold 54 = .ok (.ifCond .eq 7, 3) := by decide +kernel
theorem dX12_noteTold_57 : decode cX12_noteTold 57 = .ok (.iconst (-1), 1) := by decide +kernel
theorem dX12_noteTold_58 : decode cX12_noteTold 58 = .ok (.goto 10, 3) := by decide +kernel
theorem dX12_noteTold_61 : decode cX12_noteTold 61 = .ok (.aload_n 0, 1) := by decide +kernel
theorem dX12_noteTold_62 : decode cX12_noteTold 62 = .ok (.iconst 0, 1) := by decide +kernel
theorem dX12_noteTold_63 : decode cX12_noteTold 63 = .ok (.bipush 28, 2) := by decide +kernel
theorem dX12_noteTold_65 : decode cX12_noteTold 65 = .ok (.invokevirtual 244, 3) := by decide +kernel
theorem dX12_noteTold_68 : decode cX12_noteTold 68 = .ok (.iastore, 1) := by decide +kernel
theorem dX12_noteTold_69 : decode cX12_noteTold 69 = .ok (.aload_n 0, 1) := by decide +kernel
theorem dX12_noteTold_70 : decode cX12_noteTold 70 = .ok (.aload_n 0, 1) := by decide +kernel
theorem dX12_noteTold_71 : decode cX12_noteTold 71 = .ok (.getfield 21, 3) := by decide +kernel
theorem dX12_noteTold_74 : decode cX12_noteTold 74 = .ok (.invokevirtual 240, 3) := by decide +kernel
theorem dX12_noteTold_77 : decode cX12_noteTold 77 = .ok (.aload_n 0, 1) := by decide +kernel
theorem dX12_noteTold_78 : decode cX12_noteTold 78 = .ok (.iconst 1, 1) := by decide +kernel
theorem dX12_noteTold_79 : decode cX12_noteTold 79 = .ok (.bipush 16, 2) := by decide +kernel
theorem dX12_noteTold_81 : decode cX12_noteTold 81 = .ok (.invokevirtual 244, 3) := by decide +kernel
theorem dX12_noteTold_84 : decode cX12_noteTold 84 = .ok (.istore_n 3, 1) := by decide +kernel
theorem dX12_noteTold_85 : decode cX12_noteTold 85 = .ok (.iload_n 3, 1) := by decide +kernel
theorem dX12_noteTold_86 : decode cX12_noteTold 86 = .ok (.istore 4, 2) := by decide +kernel
theorem dX12_noteTold_88 : decode cX12_noteTold 88 = .ok (.bipush 24, 2) := by decide +kernel
theorem dX12_noteTold_90 : decode cX12_noteTold 90 = .ok (.istore 5, 2) := by decide +kernel
theorem dX12_noteTold_92 : decode cX12_noteTold 92 = .ok (.iload 5, 2) := by decide +kernel
theorem dX12_noteTold_94 : decode cX12_noteTold 94 = .ok (.iload_n 1, 1) := by decide +kernel
theorem dX12_noteTold_95 : decode cX12_noteTold 95 = .ok (.if_icmp .ge 21, 3) := by decide +kernel
theorem dX12_noteTold_98 : decode cX12_noteTold 98 = .ok (.iload 4, 2) := by decide +kernel
theorem dX12_noteTold_100 : decode cX12_noteTold 100 = .ok (.aload_n 0, 1) := by decide +kernel
theorem dX12_noteTold_101 : decode cX12_noteTold 101 = .ok (.getfield 99, 3) := by decide +kernel
theorem dX12_noteTold_104 : decode cX12_noteTold 104 = .ok (.iload 5, 2) := by decide +kernel
theorem dX12_noteTold_106 : decode cX12_noteTold 106 = .ok (.iaload, 1) := by decide +kernel
theorem dX12_noteTold_107 : decode cX12_noteTold 107 = .ok (.iadd, 1) := by decide +kernel
theorem dX12_noteTold_108 : decode cX12_noteTold 108 = .ok (.istore 4, 2) := by decide +kernel
theorem dX12_noteTold_110 : decode cX12_noteTold 110 = .ok (.iinc 5 1, 3) := by decide +kernel
theorem dX12_noteTold_113 : decode cX12_noteTold 113 = .ok (.goto (-21), 3) := by decide +kernel
theorem dX12_noteTold_116 : decode cX12_noteTold 116 = .ok (.aload_n 0, 1) := by decide +kernel
theorem dX12_noteTold_117 : decode cX12_noteTold 117 = .ok (.getfield 173, 3) := by decide +kernel
theorem dX12_noteTold_120 : decode cX12_noteTold 120 = .ok (.ifCond .ne 19, 3) := by decide +kernel
theorem dX12_noteTold_123 : decode cX12_noteTold 123 = .ok (.iload 4, 2) := by decide +kernel
theorem dX12_noteTold_125 : decode cX12_noteTold 125 = .ok (.bipush 96, 2) := by decide +kernel
theorem dX12_noteTold_127 : decode cX12_noteTold 127 = .ok (.if_icmp .le 12, 3) := by decide +kernel
theorem dX12_noteTold_130 : decode cX12_noteTold 130 = .ok (.aload_n 0, 1) := by decide +kernel
theorem dX12_noteTold_131 : decode cX12_noteTold 131 = .ok (.iconst 2, 1) := by decide +kernel
theorem dX12_noteTold_132 : decode cX12_noteTold 132 = .ok (.aload_n 0, 1) := by decide +kernel
theorem dX12_noteTold_133 : decode cX12_noteTold 133 = .ok (.getfield 213, 3) := by decide +kernel
theorem dX12_noteTold_136 : decode cX12_noteTold 136 = .ok (.invokevirtual 203, 3) := by decide +kernel
theorem dX12_noteTold_139 : decode cX12_noteTold 139 = .ok (.aload_n 0, 1) := by decide +kernel
theorem dX12_noteTold_140 : decode cX12_noteTold 140 = .ok (.getfield 99, 3) := by decide +kernel
theorem dX12_noteTold_143 : decode cX12_noteTold 143 = .ok (.iload_n 1, 1) := by decide +kernel
theorem dX12_noteTold_144 : decode cX12_noteTold 144 = .ok (.iload_n 3, 1) := by decide +kernel
theorem dX12_noteTold_145 : decode cX12_noteTold 145 = .ok (.iastore, 1) := by decide +kernel
theorem dX12_noteTold_146 : decode cX12_noteTold 146 = .ok (.aload_n 0, 1) := by decide +kernel
theorem dX12_noteTold_147 : decode cX12_noteTold 147 = .ok (.bipush 59, 2) := by decide +kernel
theorem dX12_noteTold_149 : decode cX12_noteTold 149 = .ok (.invokevirtual 248, 3) := by decide +kernel
theorem dX12_noteTold_152 : decode cX12_noteTold 152 = .ok (.aload_n 0, 1) := by decide +kernel
theorem dX12_noteTold_153 : decode cX12_noteTold 153 = .ok (.dup, 1) := by decide +kernel
theorem dX12_noteTold_154 : decode cX12_noteTold 154 = .ok (.getfield 231, 3) := by decide +kernel
theorem dX12_noteTold_157 : decode cX12_noteTold 157 = .ok (.iconst 1, 1) := by decide +kernel
theorem dX12_noteTold_158 : decode cX12_noteTold 158 = .ok (.iadd, 1) := by decide +kernel
theorem dX12_noteTold_159 : decode cX12_noteTold 159 = .ok (.putfield 231, 3) := by decide +kernel
theorem dX12_noteTold_162 : decode cX12_noteTold 162 = .ok (.return_, 1) := by decide +kernel
theorem dX12_line_0 : decode cX12_line 0 = .ok (.aload_n 0, 1) := by decide +kernel
theorem dX12_line_1 : decode cX12_line 1 = .ok (.invokevirtual 252, 3) := by decide +kernel
theorem dX12_line_4 : decode cX12_line 4 = .ok (.aload_n 0, 1) := by decide +kernel
theorem dX12_line_5 : decode cX12_line 5 = .ok (.getfield 173, 3) := by decide +kernel
theorem dX12_line_8 : decode cX12_line 8 = .ok (.ifCond .ne 18, 3) := by decide +kernel
theorem dX12_line_11 : decode cX12_line 11 = .ok (.aload_n 0, 1) := by decide +kernel
theorem dX12_line_12 : decode cX12_line 12 = .ok (.invokevirtual 185, 3) := by decide +kernel
theorem dX12_line_15 : decode cX12_line 15 = .ok (.iconst (-1), 1) := by decide +kernel
theorem dX12_line_16 : decode cX12_line 16 = .ok (.if_icmp .eq 10, 3) := by decide +kernel
theorem dX12_line_19 : decode cX12_line 19 = .ok (.aload_n 0, 1) := by decide +kernel
theorem dX12_line_20 : decode cX12_line 20 = .ok (.invokevirtual 255, 3) := by decide +kernel
theorem dX12_line_23 : decode cX12_line 23 = .ok (.goto (-19), 3) := by decide +kernel
theorem dX12_line_26 : decode cX12_line 26 = .ok (.aload_n 0, 1) := by decide +kernel
theorem dX12_line_27 : decode cX12_line 27 = .ok (.invokevirtual 258, 3) := by decide +kernel
theorem dX12_line_30 : decode cX12_line 30 = .ok (.ifCond .ne 5, 3) := by decide +kernel
theorem dX12_line_33 : decode cX12_line 33 = .ok (.iconst (-1), 1) := by decide +kernel
theorem dX12_line_34 : decode cX12_line 34 = .ok (.ireturn, 1) := by decide +kernel
theorem dX12_line_35 : decode cX12_line 35 = .ok (.iconst 0, 1) := by decide +kernel
theorem dX12_line_36 : decode cX12_line 36 = .ok (.istore_n 1, 1) := by decide +kernel
theorem dX12_line_37 : decode cX12_line 37 = .ok (.iload_n 1, 1) := by decide +kernel
theorem dX12_line_38 : decode cX12_line 38 = .ok (.aload_n 0, 1) := by decide +kernel
theorem dX12_line_39 : decode cX12_line 39 = .ok (.getfield 231, 3) := by decide +kernel
theorem dX12_line_42 : decode cX12_line 42 = .ok (.if_icmp .ge 39, 3) := by decide +kernel
theorem dX12_line_45 : decode cX12_line 45 = .ok (.aload_n 0, 1) := by decide +kernel
theorem dX12_line_46 : decode cX12_line 46 = .ok (.getfield 96, 3) := by decide +kernel
theorem dX12_line_49 : decode cX12_line 49 = .ok (.iload_n 1, 1) := by decide +kernel
theorem dX12_line_50 : decode cX12_line 50 = .ok (.aload_n 0, 1) := by decide +kernel
theorem dX12_line_51 : decode cX12_line 51 = .ok (.getfield 96, 3) := by decide +kernel
theorem dX12_line_54 : decode cX12_line 54 = .ok (.bipush 24, 2) := by decide +kernel
theorem dX12_line_56 : decode cX12_line 56 = .ok (.iload_n 1, 1) := by decide +kernel
theorem dX12_line_57 : decode cX12_line 57 = .ok (.iadd, 1) := by decide +kernel
theorem dX12_line_58 : decode cX12_line 58 = .ok (.iaload, 1) := by decide +kernel
theorem dX12_line_59 : decode cX12_line 59 = .ok (.iastore, 1) := by decide +kernel
theorem dX12_line_60 : decode cX12_line 60 = .ok (.aload_n 0, 1) := by decide +kernel
theorem dX12_line_61 : decode cX12_line 61 = .ok (.getfield 99, 3) := by decide +kernel
theorem dX12_line_64 : decode cX12_line 64 = .ok (.iload_n 1, 1) := by decide +kernel
theorem dX12_line_65 : decode cX12_line 65 = .ok (.aload_n 0, 1) := by decide +kernel
theorem dX12_line_66 : decode cX12_line 66 = .ok (.getfield 99, 3) := by decide +kernel
theorem dX12_line_69 : decode cX12_line 69 = .ok (.bipush 24, 2) := by decide +kernel
theorem dX12_line_71 : decode cX12_line 71 = .ok (.iload_n 1, 1) := by decide +kernel
theorem dX12_line_72 : decode cX12_line 72 = .ok (.iadd, 1) := by decide +kernel
theorem dX12_line_73 : decode cX12_line 73 = .ok (.iaload, 1) := by decide +kernel
theorem dX12_line_74 : decode cX12_line 74 = .ok (.iastore, 1) := by decide +kernel
theorem dX12_line_75 : decode cX12_line 75 = .ok (.iinc 1 1, 3) := by decide +kernel
theorem dX12_line_78 : decode cX12_line 78 = .ok (.goto (-41), 3) := by decide +kernel
theorem dX12_line_81 : decode cX12_line 81 = .ok (.aload_n 0, 1) := by decide +kernel
theorem dX12_line_82 : decode cX12_line 82 = .ok (.aload_n 0, 1) := by decide +kernel
theorem dX12_line_83 : decode cX12_line 83 = .ok (.getfield 231, 3) := by decide +kernel
theorem dX12_line_86 : decode cX12_line 86 = .ok (.putfield 261, 3) := by decide +kernel
theorem dX12_line_89 : decode cX12_line 89 = .ok (.aload_n 0, 1) := by decide +kernel
theorem dX12_line_90 : decode cX12_line 90 = .ok (.invokevirtual 264, 3) := by decide +kernel
theorem dX12_line_93 : decode cX12_line 93 = .ok (.aload_n 0, 1) := by decide +kernel
theorem dX12_line_94 : decode cX12_line 94 = .ok (.getfield 231, 3) := by decide +kernel
theorem dX12_line_97 : decode cX12_line 97 = .ok (.ireturn, 1) := by decide +kernel
theorem dX12_lies_0 : decode cX12_lies 0 = .ok (.aload_n 0, 1) := by decide +kernel
theorem dX12_lies_1 : decode cX12_lies 1 = .ok (.iconst 0, 1) := by decide +kernel
theorem dX12_lies_2 : decode cX12_lies 2 = .ok (.putfield 267, 3) := by decide +kernel
theorem dX12_lies_5 : decode cX12_lies 5 = .ok (.aload_n 0, 1) := by decide +kernel
theorem dX12_lies_6 : decode cX12_lies 6 = .ok (.iconst (-1), 1) := by decide +kernel
theorem dX12_lies_7 : decode cX12_lies 7 = .ok (.putfield 105, 3) := by decide +kernel
theorem dX12_lies_10 : decode cX12_lies 10 = .ok (.iconst 0, 1) := by decide +kernel
theorem dX12_lies_11 : decode cX12_lies 11 = .ok (.istore_n 1, 1) := by decide +kernel
theorem dX12_lies_12 : decode cX12_lies 12 = .ok (.iload_n 1, 1) := by decide +kernel
theorem dX12_lies_13 : decode cX12_lies 13 = .ok (.aload_n 0, 1) := by decide +kernel
theorem dX12_lies_14 : decode cX12_lies 14 = .ok (.getfield 261, 3) := by decide +kernel
theorem dX12_lies_17 : decode cX12_lies 17 = .ok (.if_icmp .ge 65, 3) := by decide +kernel
theorem dX12_lies_20 : decode cX12_lies 20 = .ok (.iconst 0, 1) := by decide +kernel
theorem dX12_lies_21 : decode cX12_lies 21 = .ok (.istore_n 2, 1) := by decide +kernel
theorem dX12_lies_22 : decode cX12_lies 22 = .ok (.iload_n 2, 1) := by decide +kernel
theorem dX12_lies_23 : decode cX12_lies 23 = .ok (.aload_n 0, 1) := by decide +kernel
theorem dX12_lies_24 : decode cX12_lies 24 = .ok (.getfield 99, 3) := by decide +kernel
theorem dX12_lies_27 : decode cX12_lies 27 = .ok (.iload_n 1, 1) := by decide +kernel
theorem dX12_lies_28 : decode cX12_lies 28 = .ok (.iaload, 1) := by decide +kernel
theorem dX12_lies_29 : decode cX12_lies 29 = .ok (.if_icmp .ge 29, 3) := by decide +kernel
theorem dX12_lies_32 : decode cX12_lies 32 = .ok (.aload_n 0, 1) := by decide +kernel
theorem dX12_lies_33 : decode cX12_lies 33 = .ok (.getfield 102, 3) := by decide +kernel
theorem dX12_lies_36 : decode cX12_lies 36 = .ok (.aload_n 0, 1) := by decide +kernel
theorem dX12_lies_37 : decode cX12_lies 37 = .ok (.getfield 267, 3) := by decide +kernel
theorem dX12_lies_40 : decode cX12_lies 40 = .ok (.iload_n 1, 1) := by decide +kernel
theorem dX12_lies_41 : decode cX12_lies 41 = .ok (.iastore, 1) := by decide +kernel
theorem dX12_lies_42 : decode cX12_lies 42 = .ok (.aload_n 0, 1) := by decide +kernel
theorem dX12_lies_43 : decode cX12_lies 43 = .ok (.dup, 1) := by decide +kernel
theorem dX12_lies_44 : decode cX12_lies 44 = .ok (.getfield 267, 3) := by decide +kernel
theorem dX12_lies_47 : decode cX12_lies 47 = .ok (.iconst 1, 1) := by decide +kernel
theorem dX12_lies_48 : decode cX12_lies 48 = .ok (.iadd, 1) := by decide +kernel
theorem dX12_lies_49 : decode cX12_lies 49 = .ok (.putfield 267, 3) := by decide +kernel
theorem dX12_lies_52 : decode cX12_lies 52 = .ok (.iinc 2 1, 3) := by decide +kernel
theorem dX12_lies_55 : decode cX12_lies 55 = .ok (.goto (-33), 3) := by decide +kernel
theorem dX12_lies_58 : decode cX12_lies 58 = .ok (.aload_n 0, 1) := by decide +kernel
theorem dX12_lies_59 : decode cX12_lies 59 = .ok (.getfield 105, 3) := by decide +kernel
theorem dX12_lies_62 : decode cX12_lies 62 = .ok (.iconst (-1), 1) := by decide +kernel
theorem dX12_lies_63 : decode cX12_lies 63 = .ok (.if_icmp .ne 13, 3) := by decide +kernel
theorem dX12_lies_66 : decode cX12_lies 66 = .ok (.aload_n 0, 1) := by decide +kernel
theorem dX12_lies_67 : decode cX12_lies 67 = .ok (.aload_n 0, 1) := by decide +kernel
theorem dX12_lies_68 : decode cX12_lies 68 = .ok (.getfield 96, 3) := by decide +kernel
theorem dX12_lies_71 : decode cX12_lies 71 = .ok (.iload_n 1, 1) := by decide +kernel
theorem dX12_lies_72 : decode cX12_lies 72 = .ok (.iaload, 1) := by decide +kernel
theorem dX12_lies_73 : decode cX12_lies 73 = .ok (.putfield 105, 3) := by decide +kernel
theorem dX12_lies_76 : decode cX12_lies 76 = .ok (.iinc 1 1, 3) := by decide +kernel
theorem dX12_lies_79 : decode cX12_lies 79 = .ok (.goto (-67), 3) := by decide +kernel
theorem dX12_lies_82 : decode cX12_lies 82 = .ok (.aload_n 0, 1) := by decide +kernel
theorem dX12_lies_83 : decode cX12_lies 83 = .ok (.iconst 0, 1) := by decide +kernel
theorem dX12_lies_84 : decode cX12_lies 84 = .ok (.putfield 270, 3) := by decide +kernel
theorem dX12_lies_87 : decode cX12_lies 87 = .ok (.return_, 1) := by decide +kernel
theorem dX12_lay_0 : decode cX12_lay 0 = .ok (.aload_n 0, 1) := by decide +kernel
theorem dX12_lay_1 : decode cX12_lay 1 = .ok (.getfield 108, 3) := by decide +kernel
theorem dX12_lay_4 : decode cX12_lay 4 = .ok (.sipush 1600, 3) := by decide +kernel
theorem dX12_lay_7 : decode cX12_lay 7 = .ok (.aload_n 0, 1) := by decide +kernel
theorem dX12_lay_8 : decode cX12_lay 8 = .ok (.getfield 234, 3) := by decide +kernel
theorem dX12_lay_11 : decode cX12_lay 11 = .ok (.iadd, 1) := by decide +kernel
theorem dX12_lay_12 : decode cX12_lay 12 = .ok (.iload_n 1, 1) := by decide +kernel
theorem dX12_lay_13 : decode cX12_lay 13 = .ok (.iastore, 1) := by decide +kernel
theorem dX12_lay_14 : decode cX12_lay 14 = .ok (.aload_n 0, 1) := by decide +kernel
theorem dX12_lay_15 : decode cX12_lay 15 = .ok (.dup, 1) := by decide +kernel
theorem dX12_lay_16 : decode cX12_lay 16 = .ok (.getfield 234, 3) := by decide +kernel
theorem dX12_lay_19 : decode cX12_lay 19 = .ok (.iconst 1, 1) := by decide +kernel
theorem dX12_lay_20 : decode cX12_lay 20 = .ok (.iadd, 1) := by decide +kernel
theorem dX12_lay_21 : decode cX12_lay 21 = .ok (.putfield 234, 3) := by decide +kernel
theorem dX12_lay_24 : decode cX12_lay 24 = .ok (.return_, 1) := by decide +kernel
theorem dX12_opens_0 : decode cX12_opens 0 = .ok (.aload_n 0, 1) := by decide +kernel
theorem dX12_opens_1 : decode cX12_opens 1 = .ok (.getfield 274, 3) := by decide +kernel
theorem dX12_opens_4 : decode cX12_opens 4 = .ok (.bipush 6, 2) := by decide +kernel
theorem dX12_opens_6 : decode cX12_opens 6 = .ok (.if_icmp .ne 10, 3) := by decide +kernel
theorem dX12_opens_9 : decode cX12_opens 9 = .ok (.aload_n 0, 1) := by decide +kernel
theorem dX12_opens_10 : decode cX12_opens 10 = .ok (.iconst 4, 1) := by decide +kernel
theorem dX12_opens_11 : decode cX12_opens 11 = .ok (.iload_n 2, 1) := by decide +kernel
theorem dX12_opens_12 : decode cX12_opens 12 = .ok (.invokevirtual 203, 3) := by decide +kernel
theorem dX12_opens_15 : decode cX12_opens 15 = .ok (.return_, 1) := by decide +kernel
theorem dX12_opens_16 : decode cX12_opens 16 = .ok (.aload_n 0, 1) := by decide +kernel
theorem dX12_opens_17 : decode cX12_opens 17 = .ok (.dup, 1) := by decide +kernel
theorem dX12_opens_18 : decode cX12_opens 18 = .ok (.getfield 274, 3) := by decide +kernel
theorem dX12_opens_21 : decode cX12_opens 21 = .ok (.iconst 1, 1) := by decide +kernel
theorem dX12_opens_22 : decode cX12_opens 22 = .ok (.iadd, 1) := by decide +kernel
theorem dX12_opens_23 : decode cX12_opens 23 = .ok (.putfield 274, 3) := by decide +kernel
theorem dX12_opens_26 : decode cX12_opens 26 = .ok (.aload_n 0, 1) := by decide +kernel
theorem dX12_opens_27 : decode cX12_opens 27 = .ok (.getfield 111, 3) := by decide +kernel
theorem dX12_opens_30 : decode cX12_opens 30 = .ok (.aload_n 0, 1) := by decide +kernel
theorem dX12_opens_31 : decode cX12_opens 31 = .ok (.getfield 277, 3) := by decide +kernel
theorem dX12_opens_34 : decode cX12_opens 34 = .ok (.iload_n 1, 1) := by decide +kernel
theorem dX12_opens_35 : decode cX12_opens 35 = .ok (.iastore, 1) := by decide +kernel
theorem dX12_opens_36 : decode cX12_opens 36 = .ok (.aload_n 0, 1) := by decide +kernel
theorem dX12_opens_37 : decode cX12_opens 37 = .ok (.dup, 1) := by decide +kernel
theorem dX12_opens_38 : decode cX12_opens 38 = .ok (.getfield 277, 3) := by decide +kernel
theorem dX12_opens_41 : decode cX12_opens 41 = .ok (.iconst 1, 1) := by decide +kernel
theorem dX12_opens_42 : decode cX12_opens 42 = .ok (.iadd, 1) := by decide +kernel
theorem dX12_opens_43 : decode cX12_opens 43 = .ok (.putfield 277, 3) := by decide +kernel
theorem dX12_opens_46 : decode cX12_opens 46 = .ok (.return_, 1) := by decide +kernel
theorem dX12_isOn_0 : decode cX12_isOn 0 = .ok (.aload_n 0, 1) := by decide +kernel
theorem dX12_isOn_1 : decode cX12_isOn 1 = .ok (.getfield 277, 3) := by decide +kernel
theorem dX12_isOn_4 : decode cX12_isOn 4 = .ok (.ifCond .le 22, 3) := by decide +kernel
theorem dX12_isOn_7 : decode cX12_isOn 7 = .ok (.aload_n 0, 1) := by decide +kernel
theorem dX12_isOn_8 : decode cX12_isOn 8 = .ok (.getfield 111, 3) := by decide +kernel
theorem dX12_isOn_11 : decode cX12_isOn 11 = .ok (.aload_n 0, 1) := by decide +kernel
theorem dX12_isOn_12 : decode cX12_isOn 12 = .ok (.getfield 277, 3) := by decide +kernel
theorem dX12_isOn_15 : decode cX12_isOn 15 = .ok (.iconst 1, 1) := by decide +kernel
theorem dX12_isOn_16 : decode cX12_isOn 16 = .ok (.isub, 1) := by decide +kernel
theorem dX12_isOn_17 : decode cX12_isOn 17 = .ok (.iaload, 1) := by decide +kernel
theorem dX12_isOn_18 : decode cX12_isOn 18 = .ok (.iload_n 1, 1) := by decide +kernel
theorem dX12_isOn_19 : decode cX12_isOn 19 = .ok (.if_icmp .ne 7, 3) := by decide +kernel
theorem dX12_isOn_22 : decode cX12_isOn 22 = .ok (.iconst 1, 1) := by decide +kernel
theorem dX12_isOn_23 : decode cX12_isOn 23 = .ok (.goto 4, 3) := by decide +kernel
theorem dX12_isOn_26 : decode cX12_isOn 26 = .ok (.iconst 0, 1) := by decide +kernel
theorem dX12_isOn_27 : decode cX12_isOn 27 = .ok (.ireturn, 1) := by decide +kernel
theorem dX12_drops_0 : decode cX12_drops 0 = .ok (.aload_n 0, 1) := by decide +kernel
theorem dX12_drops_1 : decode cX12_drops 1 = .ok (.dup, 1) := by decide +kernel
theorem dX12_drops_2 : decode cX12_drops 2 = .ok (.getfield 277, 3) := by decide +kernel
theorem dX12_drops_5 : decode cX12_drops 5 = .ok (.iconst 1, 1) := by decide +kernel
theorem dX12_drops_6 : decode cX12_drops 6 = .ok (.isub, 1) := by decide +kernel
theorem dX12_drops_7 : decode cX12_drops 7 = .ok (.putfield 277, 3) := by decide +kernel
theorem dX12_drops_10 : decode cX12_drops 10 = .ok (.aload_n 0, 1) := by decide +kernel
theorem dX12_drops_11 : decode cX12_drops 11 = .ok (.aload_n 0, 1) := by decide +kernel
theorem dX12_drops_12 : decode cX12_drops 12 = .ok (.getfield 111, 3) := by decide +kernel
theorem dX12_drops_15 : decode cX12_drops 15 = .ok (.aload_n 0, 1) := by decide +kernel
theorem dX12_drops_16 : decode cX12_drops 16 = .ok (.getfield 277, 3) := by decide +kernel
theorem dX12_drops_19 : decode cX12_drops 19 = .ok (.iaload, 1) := by decide +kernel
theorem dX12_drops_20 : decode cX12_drops 20 = .ok (.invokevirtual 280, 3) := by decide +kernel
theorem dX12_drops_23 : decode cX12_drops 23 = .ok (.return_, 1) := by decide +kernel
theorem dX12_isMark_0 : decode cX12_isMark 0 = .ok (.iload_n 1, 1) := by decide +kernel
theorem dX12_isMark_1 : decode cX12_isMark 1 = .ok (.bipush 20, 2) := by decide +kernel
theorem dX12_isMark_3 : decode cX12_isMark 3 = .ok (.if_icmp .lt 13, 3) := by decide +kernel
theorem dX12_isMark_6 : decode cX12_isMark 6 = .ok (.iload_n 1, 1) := by decide +kernel
theorem dX12_isMark_7 : decode cX12_isMark 7 = .ok (.bipush 24, 2) := by decide +kernel
theorem dX12_isMark_9 : decode cX12_isMark 9 = .ok (.if_icmp .gt 7, 3) := by decide +kernel
theorem dX12_isMark_12 : decode cX12_isMark 12 = .ok (.iconst 1, 1) := by decide +kernel
theorem dX12_isMark_13 : decode cX12_isMark 13 = .ok (.goto 4, 3) := by decide +kernel
theorem dX12_isMark_16 : decode cX12_isMark 16 = .ok (.iconst 0, 1) := by decide +kernel
theorem dX12_isMark_17 : decode cX12_isMark 17 = .ok (.ireturn, 1) := by decide +kernel
theorem dX12_mark_0 : decode cX12_mark 0 = .ok (.aload_n 0, 1) := by decide +kernel
theorem dX12_mark_1 : decode cX12_mark 1 = .ok (.getfield 277, 3) := by decide +kernel
theorem dX12_mark_4 : decode cX12_mark 4 = .ok (.iconst 1, 1) := by decide +kernel
theorem dX12_mark_5 : decode cX12_mark 5 = .ok (.isub, 1) := by decide +kernel
theorem dX12_mark_6 : decode cX12_mark 6 = .ok (.istore_n 1, 1) := by decide +kernel
theorem dX12_mark_7 : decode cX12_mark 7 = .ok (.iload_n 1, 1) := by decide +kernel
theorem dX12_mark_8 : decode cX12_mark 8 = .ok (.aload_n 0, 1) := by decide +kernel
theorem dX12_mark_9 : decode cX12_mark 9 = .ok (.getfield 283, 3) := by decide +kernel
theorem dX12_mark_12 : decode cX12_mark 12 = .ok (.if_icmp .lt 22, 3) := by decide +kernel
theorem dX12_mark_15 : decode cX12_mark 15 = .ok (.aload_n 0, 1) := by decide +kernel
theorem dX12_mark_16 : decode cX12_mark 16 = .ok (.aload_n 0, 1) := by decide +kernel
theorem dX12_mark_17 : decode cX12_mark 17 = .ok (.getfield 111, 3) := by decide +kernel
theorem dX12_mark_20 : decode cX12_mark 20 = .ok (.iload_n 1, 1) := by decide +kernel
theorem dX12_mark_21 : decode cX12_mark 21 = .ok (.iaload, 1) := by decide +kernel
theorem dX12_mark_22 : decode cX12_mark 22 = .ok (.invokevirtual 286, 3) := by decide +kernel
theorem dX12_mark_25 : decode cX12_mark 25 = .ok (.ifCond .ne 9, 3) := by decide +kernel
theorem dX12_mark_28 : decode cX12_mark 28 = .ok (.iinc 1 (-1), 3) := by decide +kernel
theorem dX12_mark_31 : decode cX12_mark 31 = .ok (.goto (-24), 3) := by decide +kernel
theorem dX12_mark_34 : decode cX12_mark 34 = .ok (.iload_n 1, 1) := by decide +kernel
theorem dX12_mark_35 : decode cX12_mark 35 = .ok (.aload_n 0, 1) := by decide +kernel
theorem dX12_mark_36 : decode cX12_mark 36 = .ok (.getfield 283, 3) := by decide +kernel
theorem dX12_mark_39 : decode cX12_mark 39 = .ok (.if_icmp .lt 12, 3) := by decide +kernel
theorem dX12_mark_42 : decode cX12_mark 42 = .ok (.aload_n 0, 1) := by decide +kernel
theorem dX12_mark_43 : decode cX12_mark 43 = .ok (.getfield 111, 3) := by decide +kernel
theorem dX12_mark_46 : decode cX12_mark 46 = .ok (.iload_n 1, 1) := by decide +kernel
theorem dX12_mark_47 : decode cX12_mark 47 = .ok (.iaload, 1) := by decide +kernel
theorem dX12_mark_48 : decode cX12_mark 48 = .ok (.goto 4, 3) := by decide +kernel
theorem dX12_mark_51 : decode cX12_mark 51 = .ok (.iconst (-1), 1) := by decide +kernel
theorem dX12_mark_52 : decode cX12_mark 52 = .ok (.ireturn, 1) := by decide +kernel
theorem dX12_dropsToMark_0 : decode cX12_dropsToMark 0 = .ok (.aload_n 0, 1) := by decide +kernel
theorem dX12_dropsToMark_1 : decode cX12_dropsToMark 1 = .ok (.getfield 277, 3) := by decide +kernel
theorem dX12_dropsToMark_4 : decode cX12_dropsToMark 4 = .ok (.aload_n 0, 1) := by decide +kernel
theorem dX12_dropsToMark_5 : decode cX12_dropsToMark 5 = .ok (.getfield 283, 3) := by decide +kernel
theorem dX12_dropsToMark_8 : decode cX12_dropsToMark 8 = .ok (.if_icmp .le 28, 3) := by decide +kernel
theorem dX12_dropsToMark_11 : decode cX12_dropsToMark 11 = .ok (.aload_n 0, 1) := by decide +kernel
theorem dX12_dropsToMark_12 : decode cX12_dropsToMark 12 = .ok (.aload_n 0, 1) := by decide +kernel
theorem dX12_dropsToMark_13 : decode cX12_dropsToMark 13 = .ok (.getfield 111, 3) := by decide +kernel
theorem dX12_dropsToMark_16 : decode cX12_dropsToMark 16 = .ok (.aload_n 0, 1) := by decide +kernel
theorem dX12_dropsToMark_17 : decode cX12_dropsToMark 17 = .ok (.getfield 277, 3) := by decide +kernel
theorem dX12_dropsToMark_20 : decode cX12_dropsToMark 20 = .ok (.iconst 1, 1) := by decide +kernel
theorem dX12_dropsToMark_21 : decode cX12_dropsToMark 21 = .ok (.isub, 1) := by decide +kernel
theorem dX12_dropsToMark_22 : decode cX12_dropsToMark 22 = .ok (.iaload, 1) := by decide +kernel
theorem dX12_dropsToMark_23 : decode cX12_dropsToMark 23 = .ok (.invokevirtual 286, 3) := by decide +kernel
theorem dX12_dropsToMark_26 : decode cX12_dropsToMark 26 = .ok (.ifCond .ne 10, 3) := by decide +kernel
theorem dX12_dropsToMark_29 : decode cX12_dropsToMark 29 = .ok (.aload_n 0, 1) := by decide +kernel
theorem dX12_dropsToMark_30 : decode cX12_dropsToMark 30 = .ok (.invokevirtual 289, 3) := by decide +kernel
theorem dX12_dropsToMark_33 : decode cX12_dropsToMark 33 = .ok (.goto (-33), 3) := by decide +kernel
theorem dX12_dropsToMark_36 : decode cX12_dropsToMark 36 = .ok (.return_, 1) := by decide +kernel
theorem dX12_onePart_0 : decode cX12_onePart 0 = .ok (.iconst 1, 1) := by decide +kernel
theorem dX12_onePart_1 : decode cX12_onePart 1 = .ok (.istore_n 1, 1) := by decide +kernel
theorem dX12_onePart_2 : decode cX12_onePart 2 = .ok (.iload_n 1, 1) := by decide +kernel
theorem dX12_onePart_3 : decode cX12_onePart 3 = .ok (.ifCond .eq 143, 3) := by decide +kernel
theorem dX12_onePart_6 : decode cX12_onePart 6 = .ok (.aload_n 0, 1) := by decide +kernel
theorem dX12_onePart_7 : decode cX12_onePart 7 = .ok (.getfield 173, 3) := by decide +kernel
theorem dX12_onePart_10 : decode cX12_onePart 10 = .ok (.ifCond .ne 136, 3) := by decide +kernel
theorem dX12_onePart_13 : decode cX12_onePart 13 = .ok (.aload_n 0, 1) := by decide +kernel
theorem dX12_onePart_14 : decode cX12_onePart 14 = .ok (.invokevirtual 185, 3) := by decide +kernel
theorem dX12_onePart_17 : decode cX12_onePart 17 = .ok (.istore_n 2, 1) := by decide +kernel
theorem dX12_onePart_18 : decode cX12_onePart 18 = .ok (.iload_n 2, 1) := by decide +kernel
theorem dX12_onePart_19 : decode cX12_onePart 19 = .ok (.bipush 40, 2) := by decide +kernel
theorem dX12_onePart_21 : decode cX12_onePart 21 = .ok (.if_icmp .ne 26, 3) := by decide +kernel
theorem dX12_onePart_24 : decode cX12_onePart 24 = .ok (.aload_n 0, 1) := by decide +kernel
theorem dX12_onePart_25 : decode cX12_onePart 25 = .ok (.bipush 20, 2) := by decide +kernel
theorem dX12_onePart_27 : decode cX12_onePart 27 = .ok (.aload_n 0, 1) := by decide +kernel
theorem dX12_onePart_28 : decode cX12_onePart 28 = .ok (.getfield 179, 3) := by decide +kernel
theorem dX12_onePart_31 : decode cX12_onePart 31 = .ok (.invokevirtual 292, 3) := by decide +kernel
theorem dX12_onePart_34 : decode cX12_onePart 34 = .ok (.aload_n 0, 1) := by decide +kernel
theorem dX12_onePart_35 : decode cX12_onePart 35 = .ok (.dup, 1) := by decide +kernel
theorem dX12_onePart_36 : decode cX12_onePart 36 = .ok (.getfield 179, 3) := by decide +kernel
theorem dX12_onePart_39 : decode cX12_onePart 39 = .ok (.iconst 1, 1) := by decide +kernel
theorem dX12_onePart_40 : decode cX12_onePart 40 = .ok (.iadd, 1) := by decide +kernel
theorem dX12_onePart_41 : decode cX12_onePart 41 = .ok (.putfield 179, 3) := by decide +kernel
theorem dX12_onePart_44 : decode cX12_onePart 44 = .ok (.goto 99, 3) := by decide +kernel
theorem dX12_onePart_47 : decode cX12_onePart 47 = .ok (.aload_n 0, 1) := by decide +kernel
theorem dX12_onePart_48 : decode cX12_onePart 48 = .ok (.aload_n 0, 1) := by decide +kernel
theorem dX12_onePart_49 : decode cX12_onePart 49 = .ok (.getfield 90, 3) := by decide +kernel
theorem dX12_onePart_52 : decode cX12_onePart 52 = .ok (.invokevirtual 196, 3) := by decide +kernel
theorem dX12_onePart_55 : decode cX12_onePart 55 = .ok (.ifCond .ne 14, 3) := by decide +kernel
theorem dX12_onePart_58 : decode cX12_onePart 58 = .ok (.aload_n 0, 1) := by decide +kernel
theorem dX12_onePart_59 : decode cX12_onePart 59 = .ok (.aload_n 0, 1) := by decide +kernel
theorem dX12_onePart_60 : decode cX12_onePart 60 = .ok (.getfield 93, 3) := by decide +kernel
theorem dX12_onePart_63 : decode cX12_onePart 63 = .ok (.invokevirtual 196, 3) := by decide +kernel
theorem dX12_onePart_66 : decode cX12_onePart 66 = .ok (.ifCond .eq 75, 3) := by decide +kernel
theorem dX12_onePart_69 : decode cX12_onePart 69 = .ok (.aload_n 0, 1) := by decide +kernel
theorem dX12_onePart_70 : decode cX12_onePart 70 = .ok (.aload_n 0, 1) := by decide +kernel
theorem dX12_onePart_71 : decode cX12_onePart 71 = .ok (.getfield 90, 3) := by decide +kernel
theorem dX12_onePart_74 : decode cX12_onePart 74 = .ok (.invokevirtual 200, 3) := by decide +kernel
theorem dX12_onePart_77 : decode cX12_onePart 77 = .ok (.istore_n 3, 1) := by decide +kernel
theorem dX12_onePart_78 : decode cX12_onePart 78 = .ok (.iload_n 3, 1) := by decide +kernel
theorem dX12_onePart_79 : decode cX12_onePart 79 = .ok (.ifCond .ne 11, 3) := by decide +kernel
theorem dX12_onePart_82 : decode cX12_onePart 82 = .ok (.aload_n 0, 1) := by decide +kernel
theorem dX12_onePart_83 : decode cX12_onePart 83 = .ok (.aload_n 0, 1) := by decide +kernel
theorem dX12_onePart_84 : decode cX12_onePart 84 = .ok (.getfield 93, 3) := by decide +kernel
theorem dX12_onePart_87 : decode cX12_onePart 87 = .ok (.invokevirtual 240, 3) := by decide +kernel
theorem dX12_onePart_90 : decode cX12_onePart 90 = .ok (.aload_n 0, 1) := by decide +kernel
theorem dX12_onePart_91 : decode cX12_onePart 91 = .ok (.invokevirtual 185, 3) := by decide +kernel
theorem dX12_onePart_94 : decode cX12_onePart 94 = .ok (.bipush 40, 2) := by decide +kernel
theorem dX12_onePart_96 : decode cX12_onePart 96 = .ok (.if_icmp .ne 10, 3) := by decide +kernel
theorem dX12_onePart_99 : decode cX12_onePart 99 = .ok (.aload_n 0, 1) := by decide +kernel
theorem dX12_onePart_100 : decode cX12_onePart 100 = .ok (.getfield 179, 3) := by decide +kernel
theorem dX12_onePart_103 : decode cX12_onePart 103 = .ok (.goto 4, 3) := by decide +kernel
theorem dX12_onePart_106 : decode cX12_onePart 106 = .ok (.iconst (-1), 1) := by decide +kernel
theorem dX12_onePart_107 : decode cX12_onePart 107 = .ok (.istore 4, 2) := by decide +kernel
theorem dX12_onePart_109 : decode cX12_onePart 109 = .ok (.iload 4, 2) := by decide +kernel
theorem dX12_onePart_111 : decode cX12_onePart 111 = .ok (.iconst (-1), 1) := by decide +kernel
theorem dX12_onePart_112 : decode cX12_onePart 112 = .ok (.if_icmp .eq 20, 3) := by decide +kernel
theorem dX12_onePart_115 : decode cX12_onePart 115 = .ok (.aload_n 0, 1) := by decide +kernel
theorem dX12_onePart_116 : decode cX12_onePart 116 = .ok (.iload_n 3, 1) := by decide +kernel
theorem dX12_onePart_117 : decode cX12_onePart 117 = .ok (.ifCond .eq 8, 3) := by decide +kernel
theorem dX12_onePart_120 : decode cX12_onePart 120 = .ok (.bipush 21, 2) := by decide +kernel
theorem dX12_onePart_122 : decode cX12_onePart 122 = .ok (.goto 5, 3) := by decide +kernel
theorem dX12_onePart_125 : decode cX12_onePart 125 = .ok (.bipush 22, 2) := by decide +kernel
theorem dX12_onePart_127 : decode cX12_onePart 127 = .ok (.iload 4, 2) := by decide +kernel
theorem dX12_onePart_129 : decode cX12_onePart 129 = .ok (.invokevirtual 292, 3) := by decide +kernel
theorem dX12_onePart_132 : decode cX12_onePart 132 = .ok (.aload_n 0, 1) := by decide +kernel
theorem dX12_onePart_133 : decode cX12_onePart 133 = .ok (.bipush 40, 2) := by decide +kernel
theorem dX12_onePart_135 : decode cX12_onePart 135 = .ok (.invokevirtual 248, 3) := by decide +kernel
theorem dX12_onePart_138 : decode cX12_onePart 138 = .ok (.goto 5, 3) := by decide +kernel
theorem dX12_onePart_141 : decode cX12_onePart 141 = .ok (.iconst 0, 1) := by decide +kernel
theorem dX12_onePart_142 : decode cX12_onePart 142 = .ok (.istore_n 1, 1) := by decide +kernel
theorem dX12_onePart_143 : decode cX12_onePart 143 = .ok (.goto (-141), 3) := by decide +kernel
theorem dX12_onePart_146 : decode cX12_onePart 146 = .ok (.aload_n 0, 1) := by decide +kernel
theorem dX12_onePart_147 : decode cX12_onePart 147 = .ok (.getfield 173, 3) := by decide +kernel
theorem dX12_onePart_150 : decode cX12_onePart 150 = .ok (.ifCond .eq 4, 3) := by decide +kernel
theorem dX12_onePart_153 : decode cX12_onePart 153 = .ok (.return_, 1) := by decide +kernel
theorem dX12_onePart_154 : decode cX12_onePart 154 = .ok (.aload_n 0, 1) := by decide +kernel
theorem dX12_onePart_155 : decode cX12_onePart 155 = .ok (.getfield 295, 3) := by decide +kernel
theorem dX12_onePart_158 : decode cX12_onePart 158 = .ok (.ifCond .eq 10, 3) := by decide +kernel
theorem dX12_onePart_161 : decode cX12_onePart 161 = .ok (.aload_n 0, 1) := by decide +kernel
theorem dX12_onePart_162 : decode cX12_onePart 162 = .ok (.invokevirtual 298, 3) := by decide +kernel
theorem dX12_onePart_165 : decode cX12_onePart 165 = .ok (.goto 7, 3) := by decide +kernel
theorem dX12_onePart_168 : decode cX12_onePart 168 = .ok (.aload_n 0, 1) := by decide +kernel
theorem dX12_onePart_169 : decode cX12_onePart 169 = .ok (.invokevirtual 301, 3) := by decide +kernel
theorem dX12_onePart_172 : decode cX12_onePart 172 = .ok (.istore_n 2, 1) := by decide +kernel
theorem dX12_onePart_173 : decode cX12_onePart 173 = .ok (.aload_n 0, 1) := by decide +kernel
theorem dX12_onePart_174 : decode cX12_onePart 174 = .ok (.iload_n 2, 1) := by decide +kernel
theorem dX12_onePart_175 : decode cX12_onePart 175 = .ok (.iconst (-1), 1) := by decide +kernel
theorem dX12_onePart_176 : decode cX12_onePart 176 = .ok (.if_icmp .eq 7, 3) := by decide +kernel
theorem dX12_onePart_179 : decode cX12_onePart 179 = .ok (.iload_n 2, 1) := by decide +kernel
theorem dX12_onePart_180 : decode cX12_onePart 180 = .ok (.goto 15, 3) := by decide +kernel
theorem dX12_onePart_183 : decode cX12_onePart 183 = .ok (.sipush 1000, 3) := by decide +kernel
theorem dX12_onePart_186 : decode cX12_onePart 186 = .ok (.aload_n 0, 1) := by decide +kernel
theorem dX12_onePart_187 : decode cX12_onePart 187 = .ok (.iconst 0, 1) := by decide +kernel
theorem dX12_onePart_188 : decode cX12_onePart 188 = .ok (.sipush 9999, 3) := by decide +kernel
theorem dX12_onePart_191 : decode cX12_onePart 191 = .ok (.invokevirtual 244, 3) := by decide +kernel
theorem dX12_onePart_194 : decode cX12_onePart 194 = .ok (.iadd, 1) := by decide +kernel
theorem dX12_onePart_195 : decode cX12_onePart 195 = .ok (.invokevirtual 280, 3) := by decide +kernel
theorem dX12_onePart_198 : decode cX12_onePart 198 = .ok (.return_, 1) := by decide +kernel
theorem dX12_rulePart_0 : decode cX12_rulePart 0 = .ok (.aload_n 0, 1) := by decide +kernel
theorem dX12_rulePart_1 : decode cX12_rulePart 1 = .ok (.aload_n 0, 1) := by decide +kernel
theorem dX12_rulePart_2 : decode cX12_rulePart 2 = .ok (.getfield 51, 3) := by decide +kernel
theorem dX12_rulePart_5 : decode cX12_rulePart 5 = .ok (.invokevirtual 200, 3) := by decide +kernel
theorem dX12_rulePart_8 : decode cX12_rulePart 8 = .ok (.ifCond .eq 6, 3) := by decide +kernel
theorem dX12_rulePart_11 : decode cX12_rulePart 11 = .ok (.bipush 40, 2) := by decide +kernel
theorem dX12_rulePart_13 : decode cX12_rulePart 13 = .ok (.ireturn, 1) := by decide +kernel
theorem dX12_rulePart_14 : decode cX12_rulePart 14 = .ok (.aload_n 0, 1) := by decide +kernel
theorem dX12_rulePart_15 : decode cX12_rulePart 15 = .ok (.aload_n 0, 1) := by decide +kernel
theorem dX12_rulePart_16 : decode cX12_rulePart 16 = .ok (.getfield 54, 3) := by decide +kernel
theorem dX12_rulePart_19 : decode cX12_rulePart 19 = .ok (.invokevirtual 200, 3) := by decide +kernel
theorem dX12_rulePart_22 : decode cX12_rulePart 22 = .ok (.ifCond .eq 6, 3) := by decide +kernel
theorem dX12_rulePart_25 : decode cX12_rulePart 25 = .ok (.bipush 41, 2) := by decide +kernel
theorem dX12_rulePart_27 : decode cX12_rulePart 27 = .ok (.ireturn, 1) := by decide +kernel
theorem dX12_rulePart_28 : decode cX12_rulePart 28 = .ok (.aload_n 0, 1) := by decide +kernel
theorem dX12_rulePart_29 : decode cX12_rulePart 29 = .ok (.aload_n 0, 1) := by decide +kernel
theorem dX12_rulePart_30 : decode cX12_rulePart 30 = .ok (.getfield 57, 3) := by decide +kernel
theorem dX12_rulePart_33 : decode cX12_rulePart 33 = .ok (.invokevirtual 200, 3) := by decide +kernel
theorem dX12_rulePart_36 : decode cX12_rulePart 36 = .ok (.ifCond .eq 6, 3) := by decide +kernel
theorem dX12_rulePart_39 : decode cX12_rulePart 39 = .ok (.bipush 42, 2) := by decide +kernel
theorem dX12_rulePart_41 : decode cX12_rulePart 41 = .ok (.ireturn, 1) := by decide +kernel
theorem dX12_rulePart_42 : decode cX12_rulePart 42 = .ok (.aload_n 0, 1) := by decide +kernel
theorem dX12_rulePart_43 : decode cX12_rulePart 43 = .ok (.aload_n 0, 1) := by decide +kernel
theorem dX12_rulePart_44 : decode cX12_rulePart 44 = .ok (.getfield 60, 3) := by decide +kernel
theorem dX12_rulePart_47 : decode cX12_rulePart 47 = .ok (.invokevirtual 200, 3) := by decide +kernel
theorem dX12_rulePart_50 : decode cX12_rulePart 50 = .ok (.ifCond .eq 6, 3) := by decide +kernel
theorem dX12_rulePart_53 : decode cX12_rulePart 53 = .ok (.bipush 43, 2) := by decide +kernel
theorem dX12_rulePart_55 : decode cX12_rulePart 55 = .ok (.ireturn, 1) := by decide +kernel
theorem dX12_rulePart_56 : decode cX12_rulePart 56 = .ok (.aload_n 0, 1) := by decide +kernel
theorem dX12_rulePart_57 : decode cX12_rulePart 57 = .ok (.aload_n 0, 1) := by decide +kernel
theorem dX12_rulePart_58 : decode cX12_rulePart 58 = .ok (.getfield 63, 3) := by decide +kernel
theorem dX12_rulePart_61 : decode cX12_rulePart 61 = .ok (.invokevirtual 200, 3) := by decide +kernel
theorem dX12_rulePart_64 : decode cX12_rulePart 64 = .ok (.ifCond .eq 6, 3) := by decide +kernel
theorem dX12_rulePart_67 : decode cX12_rulePart 67 = .ok (.bipush 44, 2) := by decide +kernel
theorem dX12_rulePart_69 : decode cX12_rulePart 69 = .ok (.ireturn, 1) := by decide +kernel
theorem dX12_rulePart_70 : decode cX12_rulePart 70 = .ok (.aload_n 0, 1) := by decide +kernel
theorem dX12_rulePart_71 : decode cX12_rulePart 71 = .ok (.aload_n 0, 1) := by decide +kernel
theorem dX12_rulePart_72 : decode cX12_rulePart 72 = .ok (.getfield 66, 3) := by decide +kernel
theorem dX12_rulePart_75 : decode cX12_rulePart 75 = .ok (.invokevirtual 200, 3) := by decide +kernel
theorem dX12_rulePart_78 : decode cX12_rulePart 78 = .ok (.ifCond .eq 6, 3) := by decide +kernel
theorem dX12_rulePart_81 : decode cX12_rulePart 81 = .ok (.bipush 45, 2) := by decide +kernel
theorem dX12_rulePart_83 : decode cX12_rulePart 83 = .ok (.ireturn, 1) := by decide +kernel
theorem dX12_rulePart_84 : decode cX12_rulePart 84 = .ok (.aload_n 0, 1) := by decide +kernel
theorem dX12_rulePart_85 : decode cX12_rulePart 85 = .ok (.aload_n 0, 1) := by decide +kernel
theorem dX12_rulePart_86 : decode cX12_rulePart 86 = .ok (.getfield 69, 3) := by decide +kernel
theorem dX12_rulePart_89 : decode cX12_rulePart 89 = .ok (.invokevirtual 200, 3) := by decide +kernel
theorem dX12_rulePart_92 : decode cX12_rulePart 92 = .ok (.ifCond .eq 6, 3) := by decide +kernel
theorem dX12_rulePart_95 : decode cX12_rulePart 95 = .ok (.bipush 46, 2) := by decide +kernel
theorem dX12_rulePart_97 : decode cX12_rulePart 97 = .ok (.ireturn, 1) := by decide +kernel
theorem dX12_rulePart_98 : decode cX12_rulePart 98 = .ok (.aload_n 0, 1) := by decide +kernel
theorem dX12_rulePart_99 : decode cX12_rulePart 99 = .ok (.aload_n 0, 1) := by decide +kernel
theorem dX12_rulePart_100 : decode cX12_rulePart 100 = .ok (.getfield 72, 3) := by decide +kernel
theorem dX12_rulePart_103 : decode cX12_rulePart 103 = .ok (.invokevirtual 200, 3) := by decide +kernel
theorem dX12_rulePart_106 : decode cX12_rulePart 106 = .ok (.ifCond .eq 8, 3) := by decide +kernel
theorem dX12_rulePart_109 : decode cX12_rulePart 109 = .ok (.bipush 47, 2) := by decide +kernel
theorem dX12_rulePart_111 : decode cX12_rulePart 111 = .ok (.goto 4, 3) := by decide +kernel
theorem dX12_rulePart_114 : decode cX12_rulePart 114 = .ok (.iconst (-1), 1) := by decide +kernel
theorem dX12_rulePart_115 : decode cX12_rulePart 115 = .ok (.ireturn, 1) := by decide +kernel
theorem dX12_mottoPart_0 : decode cX12_mottoPart 0 = .ok (.aload_n 0, 1) := by decide +kernel
theorem dX12_mottoPart_1 : decode cX12_mottoPart 1 = .ok (.aload_n 0, 1) := by decide +kernel
theorem dX12_mottoPart_2 : decode cX12_mottoPart 2 = .ok (.getfield 75, 3) := by decide +kernel
theorem dX12_mottoPart_5 : decode cX12_mottoPart 5 = .ok (.invokevirtual 200, 3) := by decide +kernel
theorem dX12_mottoPart_8 : decode cX12_mottoPart 8 = .ok (.ifCond .eq 6, 3) := by decide +kernel
theorem dX12_mottoPart_11 : decode cX12_mottoPart 11 = .ok (.bipush 40, 2) := by decide +kernel
theorem dX12_mottoPart_13 : decode cX12_mottoPart 13 = .ok (.ireturn, 1) := by decide +kernel
theorem dX12_mottoPart_14 : decode cX12_mottoPart 14 = .ok (.aload_n 0, 1) := by decide +kernel
theorem dX12_mottoPart_15 : decode cX12_mottoPart 15 = .ok (.aload_n 0, 1) := by decide +kernel
theorem dX12_mottoPart_16 : decode cX12_mottoPart 16 = .ok (.getfield 78, 3) := by decide +kernel
theorem dX12_mottoPart_19 : decode cX12_mottoPart 19 = .ok (.invokevirtual 200, 3) := by decide +kernel
theorem dX12_mottoPart_22 : decode cX12_mottoPart 22 = .ok (.ifCond .eq 6, 3) := by decide +kernel
theorem dX12_mottoPart_25 : decode cX12_mottoPart 25 = .ok (.bipush 41, 2) := by decide +kernel
theorem dX12_mottoPart_27 : decode cX12_mottoPart 27 = .ok (.ireturn, 1) := by decide +kernel
theorem dX12_mottoPart_28 : decode cX12_mottoPart 28 = .ok (.aload_n 0, 1) := by decide +kernel
theorem dX12_mottoPart_29 : decode cX12_mottoPart 29 = .ok (.aload_n 0, 1) := by decide +kernel
theorem dX12_mottoPart_30 : decode cX12_mottoPart 30 = .ok (.getfield 81, 3) := by decide +kernel
theorem dX12_mottoPart_33 : decode cX12_mottoPart 33 = .ok (.invokevirtual 200, 3) := by decide +kernel
theorem dX12_mottoPart_36 : decode cX12_mottoPart 36 = .ok (.ifCond .eq 6, 3) := by decide +kernel
theorem dX12_mottoPart_39 : decode cX12_mottoPart 39 = .ok (.bipush 42, 2) := by decide +kernel
theorem dX12_mottoPart_41 : decode cX12_mottoPart 41 = .ok (.ireturn, 1) := by decide +kernel
theorem dX12_mottoPart_42 : decode cX12_mottoPart 42 = .ok (.aload_n 0, 1) := by decide +kernel
theorem dX12_mottoPart_43 : decode cX12_mottoPart 43 = .ok (.aload_n 0, 1) := by decide +kernel
theorem dX12_mottoPart_44 : decode cX12_mottoPart 44 = .ok (.getfield 84, 3) := by decide +kernel
theorem dX12_mottoPart_47 : decode cX12_mottoPart 47 = .ok (.invokevirtual 200, 3) := by decide +kernel
theorem dX12_mottoPart_50 : decode cX12_mottoPart 50 = .ok (.ifCond .eq 6, 3) := by decide +kernel
theorem dX12_mottoPart_53 : decode cX12_mottoPart 53 = .ok (.bipush 43, 2) := by decide +kernel
theorem dX12_mottoPart_55 : decode cX12_mottoPart 55 = .ok (.ireturn, 1) := by decide +kernel
theorem dX12_mottoPart_56 : decode cX12_mottoPart 56 = .ok (.aload_n 0, 1) := by decide +kernel
theorem dX12_mottoPart_57 : decode cX12_mottoPart 57 = .ok (.aload_n 0, 1) := by decide +kernel
theorem dX12_mottoPart_58 : decode cX12_mottoPart 58 = .ok (.getfield 87, 3) := by decide +kernel
theorem dX12_mottoPart_61 : decode cX12_mottoPart 61 = .ok (.invokevirtual 200, 3) := by decide +kernel
theorem dX12_mottoPart_64 : decode cX12_mottoPart 64 = .ok (.ifCond .eq 8, 3) := by decide +kernel
theorem dX12_mottoPart_67 : decode cX12_mottoPart 67 = .ok (.bipush 44, 2) := by decide +kernel
theorem dX12_mottoPart_69 : decode cX12_mottoPart 69 = .ok (.goto 4, 3) := by decide +kernel
theorem dX12_mottoPart_72 : decode cX12_mottoPart 72 = .ok (.iconst (-1), 1) := by decide +kernel
theorem dX12_mottoPart_73 : decode cX12_mottoPart 73 = .ok (.ireturn, 1) := by decide +kernel
theorem dX12_goesOn_0 : decode cX12_goesOn 0 = .ok (.aload_n 0, 1) := by decide +kernel
theorem dX12_goesOn_1 : decode cX12_goesOn 1 = .ok (.getfield 173, 3) := by decide +kernel
theorem dX12_goesOn_4 : decode cX12_goesOn 4 = .ok (.ifCond .ne 114, 3) := by decide +kernel
theorem dX12_goesOn_7 : decode cX12_goesOn 7 = .ok (.aload_n 0, 1) := by decide +kernel
theorem dX12_goesOn_8 : decode cX12_goesOn 8 = .ok (.invokevirtual 185, 3) := by decide +kernel
theorem dX12_goesOn_11 : decode cX12_goesOn 11 = .ok (.bipush 41, 2) := by decide +kernel
theorem dX12_goesOn_13 : decode cX12_goesOn 13 = .ok (.if_icmp .ne 105, 3) := by decide +kernel
theorem dX12_goesOn_16 : decode cX12_goesOn 16 = .ok (.aload_n 0, 1) := by decide +kernel
theorem dX12_goesOn_17 : decode cX12_goesOn 17 = .ok (.invokevirtual 304, 3) := by decide +kernel
theorem dX12_goesOn_20 : decode cX12_goesOn 20 = .ok (.bipush 20, 2) := by decide +kernel
theorem dX12_goesOn_22 : decode cX12_goesOn 22 = .ok (.if_icmp .eq 21, 3) := by decide +kernel
theorem dX12_goesOn_25 : decode cX12_goesOn 25 = .ok (.aload_n 0, 1) := by decide +kernel
theorem dX12_goesOn_26 : decode cX12_goesOn 26 = .ok (.invokevirtual 304, 3) := by decide +kernel
theorem dX12_goesOn_29 : decode cX12_goesOn 29 = .ok (.bipush 23, 2) := by decide +kernel
theorem dX12_goesOn_31 : decode cX12_goesOn 31 = .ok (.if_icmp .eq 12, 3) := by decide +kernel
theorem dX12_goesOn_34 : decode cX12_goesOn 34 = .ok (.aload_n 0, 1) := by decide +kernel
theorem dX12_goesOn_35 : decode cX12_goesOn 35 = .ok (.invokevirtual 304, 3) := by decide +kernel
theorem dX12_goesOn_38 : decode cX12_goesOn 38 = .ok (.bipush 24, 2) := by decide +kernel
theorem dX12_goesOn_40 : decode cX12_goesOn 40 = .ok (.if_icmp .ne 78, 3) := by decide +kernel
theorem dX12_goesOn_43 : decode cX12_goesOn 43 = .ok (.aload_n 0, 1) := by decide +kernel
theorem dX12_goesOn_44 : decode cX12_goesOn 44 = .ok (.dup, 1) := by decide +kernel
theorem dX12_goesOn_45 : decode cX12_goesOn 45 = .ok (.getfield 179, 3) := by decide +kernel
theorem dX12_goesOn_48 : decode cX12_goesOn 48 = .ok (.iconst 1, 1) := by decide +kernel
theorem dX12_goesOn_49 : decode cX12_goesOn 49 = .ok (.iadd, 1) := by decide +kernel
theorem dX12_goesOn_50 : decode cX12_goesOn 50 = .ok (.putfield 179, 3) := by decide +kernel
theorem dX12_goesOn_53 : decode cX12_goesOn 53 = .ok (.aload_n 0, 1) := by decide +kernel
theorem dX12_goesOn_54 : decode cX12_goesOn 54 = .ok (.invokevirtual 307, 3) := by decide +kernel
theorem dX12_goesOn_57 : decode cX12_goesOn 57 = .ok (.aload_n 0, 1) := by decide +kernel
theorem dX12_goesOn_58 : decode cX12_goesOn 58 = .ok (.dup, 1) := by decide +kernel
theorem dX12_goesOn_59 : decode cX12_goesOn 59 = .ok (.getfield 277, 3) := by decide +kernel
theorem dX12_goesOn_62 : decode cX12_goesOn 62 = .ok (.iconst 1, 1) := by decide +kernel
theorem dX12_goesOn_63 : decode cX12_goesOn 63 = .ok (.isub, 1) := by decide +kernel
theorem dX12_goesOn_64 : decode cX12_goesOn 64 = .ok (.putfield 277, 3) := by decide +kernel
theorem dX12_goesOn_67 : decode cX12_goesOn 67 = .ok (.aload_n 0, 1) := by decide +kernel
theorem dX12_goesOn_68 : decode cX12_goesOn 68 = .ok (.dup, 1) := by decide +kernel
theorem dX12_goesOn_69 : decode cX12_goesOn 69 = .ok (.getfield 274, 3) := by decide +kernel
theorem dX12_goesOn_72 : decode cX12_goesOn 72 = .ok (.iconst 1, 1) := by decide +kernel
theorem dX12_goesOn_73 : decode cX12_goesOn 73 = .ok (.isub, 1) := by decide +kernel
theorem dX12_goesOn_74 : decode cX12_goesOn 74 = .ok (.putfield 274, 3) := by decide +kernel
theorem dX12_goesOn_77 : decode cX12_goesOn 77 = .ok (.aload_n 0, 1) := by decide +kernel
theorem dX12_goesOn_78 : decode cX12_goesOn 78 = .ok (.getfield 111, 3) := by decide +kernel
theorem dX12_goesOn_81 : decode cX12_goesOn 81 = .ok (.aload_n 0, 1) := by decide +kernel
theorem dX12_goesOn_82 : decode cX12_goesOn 82 = .ok (.getfield 277, 3) := by decide +kernel
theorem dX12_goesOn_85 : decode cX12_goesOn 85 = .ok (.iaload, 1) := by decide +kernel
theorem dX12_goesOn_86 : decode cX12_goesOn 86 = .ok (.bipush 20, 2) := by decide +kernel
theorem dX12_goesOn_88 : decode cX12_goesOn 88 = .ok (.if_icmp .eq (-88), 3) := by decide +kernel
theorem dX12_goesOn_91 : decode cX12_goesOn 91 = .ok (.aload_n 0, 1) := by decide +kernel
theorem dX12_goesOn_92 : decode cX12_goesOn 92 = .ok (.aload_n 0, 1) := by decide +kernel
theorem dX12_goesOn_93 : decode cX12_goesOn 93 = .ok (.getfield 111, 3) := by decide +kernel
theorem dX12_goesOn_96 : decode cX12_goesOn 96 = .ok (.aload_n 0, 1) := by decide +kernel
theorem dX12_goesOn_97 : decode cX12_goesOn 97 = .ok (.getfield 277, 3) := by decide +kernel
theorem dX12_goesOn_100 : decode cX12_goesOn 100 = .ok (.iaload, 1) := by decide +kernel
theorem dX12_goesOn_101 : decode cX12_goesOn 101 = .ok (.bipush 23, 2) := by decide +kernel
theorem dX12_goesOn_103 : decode cX12_goesOn 103 = .ok (.if_icmp .ne 7, 3) := by decide +kernel
theorem dX12_goesOn_106 : decode cX12_goesOn 106 = .ok (.iconst 5, 1) := by decide +kernel
theorem dX12_goesOn_107 : decode cX12_goesOn 107 = .ok (.goto 5, 3) := by decide +kernel
theorem dX12_goesOn_110 : decode cX12_goesOn 110 = .ok (.bipush 6, 2) := by decide +kernel
theorem dX12_goesOn_112 : decode cX12_goesOn 112 = .ok (.invokevirtual 280, 3) := by decide +kernel
theorem dX12_goesOn_115 : decode cX12_goesOn 115 = .ok (.goto (-115), 3) := by decide +kernel
theorem dX12_goesOn_118 : decode cX12_goesOn 118 = .ok (.aload_n 0, 1) := by decide +kernel
theorem dX12_goesOn_119 : decode cX12_goesOn 119 = .ok (.bipush 42, 2) := by decide +kernel
theorem dX12_goesOn_121 : decode cX12_goesOn 121 = .ok (.invokevirtual 207, 3) := by decide +kernel
theorem dX12_goesOn_124 : decode cX12_goesOn 124 = .ok (.ifCond .ne 12, 3) := by decide +kernel
theorem dX12_goesOn_127 : decode cX12_goesOn 127 = .ok (.aload_n 0, 1) := by decide +kernel
theorem dX12_goesOn_128 : decode cX12_goesOn 128 = .ok (.bipush 47, 2) := by decide +kernel
theorem dX12_goesOn_130 : decode cX12_goesOn 130 = .ok (.invokevirtual 207, 3) := by decide +kernel
theorem dX12_goesOn_133 : decode cX12_goesOn 133 = .ok (.ifCond .eq 70, 3) := by decide +kernel
theorem dX12_goesOn_136 : decode cX12_goesOn 136 = .ok (.aload_n 0, 1) := by decide +kernel
theorem dX12_goesOn_137 : decode cX12_goesOn 137 = .ok (.getfield 7, 3) := by decide +kernel
theorem dX12_goesOn_140 : decode cX12_goesOn 140 = .ok (.aload_n 0, 1) := by decide +kernel
theorem dX12_goesOn_141 : decode cX12_goesOn 141 = .ok (.getfield 179, 3) := by decide +kernel
theorem dX12_goesOn_144 : decode cX12_goesOn 144 = .ok (.iconst 1, 1) := by decide +kernel
theorem dX12_goesOn_145 : decode cX12_goesOn 145 = .ok (.isub, 1) := by decide +kernel
theorem dX12_goesOn_146 : decode cX12_goesOn 146 = .ok (.iaload, 1) := by decide +kernel
theorem dX12_goesOn_147 : decode cX12_goesOn 147 = .ok (.bipush 42, 2) := by decide +kernel
theorem dX12_goesOn_149 : decode cX12_goesOn 149 = .ok (.if_icmp .ne 7, 3) := by decide +kernel
theorem dX12_goesOn_152 : decode cX12_goesOn 152 = .ok (.iconst 3, 1) := by decide +kernel
theorem dX12_goesOn_153 : decode cX12_goesOn 153 = .ok (.goto 4, 3) := by decide +kernel
theorem dX12_goesOn_156 : decode cX12_goesOn 156 = .ok (.iconst 4, 1) := by decide +kernel
theorem dX12_goesOn_157 : decode cX12_goesOn 157 = .ok (.istore_n 1, 1) := by decide +kernel
theorem dX12_goesOn_158 : decode cX12_goesOn 158 = .ok (.aload_n 0, 1) := by decide +kernel
theorem dX12_goesOn_159 : decode cX12_goesOn 159 = .ok (.iconst 3, 1) := by decide +kernel
theorem dX12_goesOn_160 : decode cX12_goesOn 160 = .ok (.invokevirtual 310, 3) := by decide +kernel
theorem dX12_goesOn_163 : decode cX12_goesOn 163 = .ok (.ifCond .ne 11, 3) := by decide +kernel
theorem dX12_goesOn_166 : decode cX12_goesOn 166 = .ok (.aload_n 0, 1) := by decide +kernel
theorem dX12_goesOn_167 : decode cX12_goesOn 167 = .ok (.iconst 4, 1) := by decide +kernel
theorem dX12_goesOn_168 : decode cX12_goesOn 168 = .ok (.invokevirtual 310, 3) := by decide +kernel
theorem dX12_goesOn_171 : decode cX12_goesOn 171 = .ok (.ifCond .eq 10, 3) := by decide +kernel
theorem dX12_goesOn_174 : decode cX12_goesOn 174 = .ok (.aload_n 0, 1) := by decide +kernel
theorem dX12_goesOn_175 : decode cX12_goesOn 175 = .ok (.invokevirtual 289, 3) := by decide +kernel
theorem dX12_goesOn_178 : decode cX12_goesOn 178 = .ok (.goto (-20), 3) := by decide +kernel
theorem dX12_goesOn_181 : decode cX12_goesOn 181 = .ok (.aload_n 0, 1) := by decide +kernel
theorem dX12_goesOn_182 : decode cX12_goesOn 182 = .ok (.getfield 111, 3) := by decide +kernel
theorem dX12_goesOn_185 : decode cX12_goesOn 185 = .ok (.aload_n 0, 1) := by decide +kernel
theorem dX12_goesOn_186 : decode cX12_goesOn 186 = .ok (.getfield 277, 3) := by decide +kernel
theorem dX12_goesOn_189 : decode cX12_goesOn 189 = .ok (.iload_n 1, 1) := by decide +kernel
theorem dX12_goesOn_190 : decode cX12_goesOn 190 = .ok (.iastore, 1) := by decide +kernel
theorem dX12_goesOn_191 : decode cX12_goesOn 191 = .ok (.aload_n 0, 1) := by decide +kernel
theorem dX12_goesOn_192 : decode cX12_goesOn 192 = .ok (.dup, 1) := by decide +kernel
theorem dX12_goesOn_193 : decode cX12_goesOn 193 = .ok (.getfield 277, 3) := by decide +kernel
theorem dX12_goesOn_196 : decode cX12_goesOn 196 = .ok (.iconst 1, 1) := by decide +kernel
theorem dX12_goesOn_197 : decode cX12_goesOn 197 = .ok (.iadd, 1) := by decide +kernel
theorem dX12_goesOn_198 : decode cX12_goesOn 198 = .ok (.putfield 277, 3) := by decide +kernel
theorem dX12_goesOn_201 : decode cX12_goesOn 201 = .ok (.iconst 1, 1) := by decide +kernel
theorem dX12_goesOn_202 : decode cX12_goesOn 202 = .ok (.ireturn, 1) := by decide +kernel
theorem dX12_goesOn_203 : decode cX12_goesOn 203 = .ok (.aload_n 0, 1) := by decide +kernel
theorem dX12_goesOn_204 : decode cX12_goesOn 204 = .ok (.bipush 43, 2) := by decide +kernel
theorem dX12_goesOn_206 : decode cX12_goesOn 206 = .ok (.invokevirtual 207, 3) := by decide +kernel
theorem dX12_goesOn_209 : decode cX12_goesOn 209 = .ok (.ifCond .ne 12, 3) := by decide +kernel
theorem dX12_goesOn_212 : decode cX12_goesOn 212 = .ok (.aload_n 0, 1) := by decide +kernel
theorem dX12_goesOn_213 : decode cX12_goesOn 213 = .ok (.bipush 45, 2) := by decide +kernel
theorem dX12_goesOn_215 : decode cX12_goesOn 215 = .ok (.invokevirtual 207, 3) := by decide +kernel
theorem dX12_goesOn_218 : decode cX12_goesOn 218 = .ok (.ifCond .eq 86, 3) := by decide +kernel
theorem dX12_goesOn_221 : decode cX12_goesOn 221 = .ok (.aload_n 0, 1) := by decide +kernel
theorem dX12_goesOn_222 : decode cX12_goesOn 222 = .ok (.getfield 7, 3) := by decide +kernel
theorem dX12_goesOn_225 : decode cX12_goesOn 225 = .ok (.aload_n 0, 1) := by decide +kernel
theorem dX12_goesOn_226 : decode cX12_goesOn 226 = .ok (.getfield 179, 3) := by decide +kernel
theorem dX12_goesOn_229 : decode cX12_goesOn 229 = .ok (.iconst 1, 1) := by decide +kernel
theorem dX12_goesOn_230 : decode cX12_goesOn 230 = .ok (.isub, 1) := by decide +kernel
theorem dX12_goesOn_231 : decode cX12_goesOn 231 = .ok (.iaload, 1) := by decide +kernel
theorem dX12_goesOn_232 : decode cX12_goesOn 232 = .ok (.bipush 43, 2) := by decide +kernel
theorem dX12_goesOn_234 : decode cX12_goesOn 234 = .ok (.if_icmp .ne 7, 3) := by decide +kernel
theorem dX12_goesOn_237 : decode cX12_goesOn 237 = .ok (.iconst 1, 1) := by decide +kernel
theorem dX12_goesOn_238 : decode cX12_goesOn 238 = .ok (.goto 4, 3) := by decide +kernel
theorem dX12_goesOn_241 : decode cX12_goesOn 241 = .ok (.iconst 2, 1) := by decide +kernel
theorem dX12_goesOn_242 : decode cX12_goesOn 242 = .ok (.istore_n 1, 1) := by decide +kernel
theorem dX12_goesOn_243 : decode cX12_goesOn 243 = .ok (.aload_n 0, 1) := by decide +kernel
theorem dX12_goesOn_244 : decode cX12_goesOn 244 = .ok (.iconst 3, 1) := by decide +kernel
theorem dX12_goesOn_245 : decode cX12_goesOn 245 = .ok (.invokevirtual 310, 3) := by decide +kernel
theorem dX12_goesOn_248 : decode cX12_goesOn 248 = .ok (.ifCond .ne 27, 3) := by decide +kernel
theorem dX12_goesOn_251 : decode cX12_goesOn 251 = .ok (.aload_n 0, 1) := by decide +kernel
theorem dX12_goesOn_252 : decode cX12_goesOn 252 = .ok (.iconst 4, 1) := by decide +kernel
theorem dX12_goesOn_253 : decode cX12_goesOn 253 = .ok (.invokevirtual 310, 3) := by decide +kernel
theorem dX12_goesOn_256 : decode cX12_goesOn 256 = .ok (.ifCond .ne 19, 3) := by decide +kernel
theorem dX12_goesOn_259 : decode cX12_goesOn 259 = .ok (.aload_n 0, 1) := by decide +kernel
theorem dX12_goesOn_260 : decode cX12_goesOn 260 = .ok (.iconst 1, 1) := by decide +kernel
theorem dX12_goesOn_261 : decode cX12_goesOn 261 = .ok (.invokevirtual 310, 3) := by decide +kernel
theorem dX12_goesOn_264 : decode cX12_goesOn 264 = .ok (.ifCond .ne 11, 3) := by decide +kernel
theorem dX12_goesOn_267 : decode cX12_goesOn 267 = .ok (.aload_n 0, 1) := by decide +kernel
theorem dX12_goesOn_268 : decode cX12_goesOn 268 = .ok (.iconst 2, 1) := by decide +kernel
theorem dX12_goesOn_269 : decode cX12_goesOn 269 = .ok (.invokevirtual 310, 3) := by decide +kernel
theorem dX12_goesOn_272 : decode cX12_goesOn 272 = .ok (.ifCond .eq 10, 3) := by decide +kernel
theorem dX12_goesOn_275 : decode cX12_goesOn 275 = .ok (.aload_n 0, 1) := by decide +kernel
theorem dX12_goesOn_276 : decode cX12_goesOn 276 = .ok (.invokevirtual 289, 3) := by decide +kernel
theorem dX12_goesOn_279 : decode cX12_goesOn 279 = .ok (.goto (-36), 3) := by decide +kernel
theorem dX12_goesOn_282 : decode cX12_goesOn 282 = .ok (.aload_n 0, 1) := by decide +kernel
theorem dX12_goesOn_283 : decode cX12_goesOn 283 = .ok (.getfield 111, 3) := by decide +kernel
theorem dX12_goesOn_286 : decode cX12_goesOn 286 = .ok (.aload_n 0, 1) := by decide +kernel
theorem dX12_goesOn_287 : decode cX12_goesOn 287 = .ok (.getfield 277, 3) := by decide +kernel
theorem dX12_goesOn_290 : decode cX12_goesOn 290 = .ok (.iload_n 1, 1) := by decide +kernel
theorem dX12_goesOn_291 : decode cX12_goesOn 291 = .ok (.iastore, 1) := by decide +kernel
theorem dX12_goesOn_292 : decode cX12_goesOn 292 = .ok (.aload_n 0, 1) := by decide +kernel
theorem dX12_goesOn_293 : decode cX12_goesOn 293 = .ok (.dup, 1) := by decide +kernel
theorem dX12_goesOn_294 : decode cX12_goesOn 294 = .ok (.getfield 277, 3) := by decide +kernel
theorem dX12_goesOn_297 : decode cX12_goesOn 297 = .ok (.iconst 1, 1) := by decide +kernel
theorem dX12_goesOn_298 : decode cX12_goesOn 298 = .ok (.iadd, 1) := by decide +kernel
theorem dX12_goesOn_299 : decode cX12_goesOn 299 = .ok (.putfield 277, 3) := by decide +kernel
theorem dX12_goesOn_302 : decode cX12_goesOn 302 = .ok (.iconst 1, 1) := by decide +kernel
theorem dX12_goesOn_303 : decode cX12_goesOn 303 = .ok (.ireturn, 1) := by decide +kernel
theorem dX12_goesOn_304 : decode cX12_goesOn 304 = .ok (.aload_n 0, 1) := by decide +kernel
theorem dX12_goesOn_305 : decode cX12_goesOn 305 = .ok (.invokevirtual 304, 3) := by decide +kernel
theorem dX12_goesOn_308 : decode cX12_goesOn 308 = .ok (.bipush 21, 2) := by decide +kernel
theorem dX12_goesOn_310 : decode cX12_goesOn 310 = .ok (.if_icmp .eq 12, 3) := by decide +kernel
theorem dX12_goesOn_313 : decode cX12_goesOn 313 = .ok (.aload_n 0, 1) := by decide +kernel
theorem dX12_goesOn_314 : decode cX12_goesOn 314 = .ok (.invokevirtual 304, 3) := by decide +kernel
theorem dX12_goesOn_317 : decode cX12_goesOn 317 = .ok (.bipush 22, 2) := by decide +kernel
theorem dX12_goesOn_319 : decode cX12_goesOn 319 = .ok (.if_icmp .ne 39, 3) := by decide +kernel
theorem dX12_goesOn_322 : decode cX12_goesOn 322 = .ok (.aload_n 0, 1) := by decide +kernel
theorem dX12_goesOn_323 : decode cX12_goesOn 323 = .ok (.bipush 44, 2) := by decide +kernel
theorem dX12_goesOn_325 : decode cX12_goesOn 325 = .ok (.invokevirtual 248, 3) := by decide +kernel
theorem dX12_goesOn_328 : decode cX12_goesOn 328 = .ok (.aload_n 0, 1) := by decide +kernel
theorem dX12_goesOn_329 : decode cX12_goesOn 329 = .ok (.getfield 173, 3) := by decide +kernel
theorem dX12_goesOn_332 : decode cX12_goesOn 332 = .ok (.ifCond .eq 5, 3) := by decide +kernel
theorem dX12_goesOn_335 : decode cX12_goesOn 335 = .ok (.iconst 0, 1) := by decide +kernel
theorem dX12_goesOn_336 : decode cX12_goesOn 336 = .ok (.ireturn, 1) := by decide +kernel
theorem dX12_goesOn_337 : decode cX12_goesOn 337 = .ok (.aload_n 0, 1) := by decide +kernel
theorem dX12_goesOn_338 : decode cX12_goesOn 338 = .ok (.invokevirtual 307, 3) := by decide +kernel
theorem dX12_goesOn_341 : decode cX12_goesOn 341 = .ok (.aload_n 0, 1) := by decide +kernel
theorem dX12_goesOn_342 : decode cX12_goesOn 342 = .ok (.getfield 111, 3) := by decide +kernel
theorem dX12_goesOn_345 : decode cX12_goesOn 345 = .ok (.aload_n 0, 1) := by decide +kernel
theorem dX12_goesOn_346 : decode cX12_goesOn 346 = .ok (.getfield 277, 3) := by decide +kernel
theorem dX12_goesOn_349 : decode cX12_goesOn 349 = .ok (.iconst 1, 1) := by decide +kernel
theorem dX12_goesOn_350 : decode cX12_goesOn 350 = .ok (.isub, 1) := by decide +kernel
theorem dX12_goesOn_351 : decode cX12_goesOn 351 = .ok (.dup2, 1) := by decide +kernel
theorem dX12_goesOn_352 : decode cX12_goesOn 352 = .ok (.iaload, 1) := by decide +kernel
theorem dX12_goesOn_353 : decode cX12_goesOn 353 = .ok (.iconst 2, 1) := by decide +kernel
theorem dX12_goesOn_354 : decode cX12_goesOn 354 = .ok (.iadd, 1) := by decide +kernel
theorem dX12_goesOn_355 : decode cX12_goesOn 355 = .ok (.iastore, 1) := by decide +kernel
theorem dX12_goesOn_356 : decode cX12_goesOn 356 = .ok (.iconst 1, 1) := by decide +kernel
theorem dX12_goesOn_357 : decode cX12_goesOn 357 = .ok (.ireturn, 1) := by decide +kernel
theorem dX12_goesOn_358 : decode cX12_goesOn 358 = .ok (.aload_n 0, 1) := by decide +kernel
theorem dX12_goesOn_359 : decode cX12_goesOn 359 = .ok (.invokevirtual 304, 3) := by decide +kernel
theorem dX12_goesOn_362 : decode cX12_goesOn 362 = .ok (.iconst (-1), 1) := by decide +kernel
theorem dX12_goesOn_363 : decode cX12_goesOn 363 = .ok (.if_icmp .eq 19, 3) := by decide +kernel
theorem dX12_goesOn_366 : decode cX12_goesOn 366 = .ok (.aload_n 0, 1) := by decide +kernel
theorem dX12_goesOn_367 : decode cX12_goesOn 367 = .ok (.getfield 173, 3) := by decide +kernel
theorem dX12_goesOn_370 : decode cX12_goesOn 370 = .ok (.ifCond .ne 12, 3) := by decide +kernel
theorem dX12_goesOn_373 : decode cX12_goesOn 373 = .ok (.aload_n 0, 1) := by decide +kernel
theorem dX12_goesOn_374 : decode cX12_goesOn 374 = .ok (.iconst 1, 1) := by decide +kernel
theorem dX12_goesOn_375 : decode cX12_goesOn 375 = .ok (.aload_n 0, 1) := by decide +kernel
theorem dX12_goesOn_376 : decode cX12_goesOn 376 = .ok (.getfield 179, 3) := by decide +kernel
theorem dX12_goesOn_379 : decode cX12_goesOn 379 = .ok (.invokevirtual 203, 3) := by decide +kernel
theorem dX12_goesOn_382 : decode cX12_goesOn 382 = .ok (.iconst 0, 1) := by decide +kernel
theorem dX12_goesOn_383 : decode cX12_goesOn 383 = .ok (.ireturn, 1) := by decide +kernel
theorem dX12_sums_0 : decode cX12_sums 0 = .ok (.aload_n 0, 1) := by decide +kernel
theorem dX12_sums_1 : decode cX12_sums 1 = .ok (.getfield 283, 3) := by decide +kernel
theorem dX12_sums_4 : decode cX12_sums 4 = .ok (.istore_n 1, 1) := by decide +kernel
theorem dX12_sums_5 : decode cX12_sums 5 = .ok (.aload_n 0, 1) := by decide +kernel
theorem dX12_sums_6 : decode cX12_sums 6 = .ok (.aload_n 0, 1) := by decide +kernel
theorem dX12_sums_7 : decode cX12_sums 7 = .ok (.getfield 277, 3) := by decide +kernel
theorem dX12_sums_10 : decode cX12_sums 10 = .ok (.putfield 283, 3) := by decide +kernel
theorem dX12_sums_13 : decode cX12_sums 13 = .ok (.iconst 1, 1) := by decide +kernel
theorem dX12_sums_14 : decode cX12_sums 14 = .ok (.istore_n 2, 1) := by decide +kernel
theorem dX12_sums_15 : decode cX12_sums 15 = .ok (.iload_n 2, 1) := by decide +kernel
theorem dX12_sums_16 : decode cX12_sums 16 = .ok (.ifCond .eq 37, 3) := by decide +kernel
theorem dX12_sums_19 : decode cX12_sums 19 = .ok (.aload_n 0, 1) := by decide +kernel
theorem dX12_sums_20 : decode cX12_sums 20 = .ok (.getfield 173, 3) := by decide +kernel
theorem dX12_sums_23 : decode cX12_sums 23 = .ok (.ifCond .ne 30, 3) := by decide +kernel
theorem dX12_sums_26 : decode cX12_sums 26 = .ok (.aload_n 0, 1) := by decide +kernel
theorem dX12_sums_27 : decode cX12_sums 27 = .ok (.invokevirtual 313, 3) := by decide +kernel
theorem dX12_sums_30 : decode cX12_sums 30 = .ok (.aload_n 0, 1) := by decide +kernel
theorem dX12_sums_31 : decode cX12_sums 31 = .ok (.getfield 173, 3) := by decide +kernel
theorem dX12_sums_34 : decode cX12_sums 34 = .ok (.ifCond .ne 14, 3) := by decide +kernel
theorem dX12_sums_37 : decode cX12_sums 37 = .ok (.aload_n 0, 1) := by decide +kernel
theorem dX12_sums_38 : decode cX12_sums 38 = .ok (.invokevirtual 316, 3) := by decide +kernel
theorem dX12_sums_41 : decode cX12_sums 41 = .ok (.ifCond .eq 7, 3) := by decide +kernel
theorem dX12_sums_44 : decode cX12_sums 44 = .ok (.iconst 1, 1) := by decide +kernel
theorem dX12_sums_45 : decode cX12_sums 45 = .ok (.goto 4, 3) := by decide +kernel
theorem dX12_sums_48 : decode cX12_sums 48 = .ok (.iconst 0, 1) := by decide +kernel
theorem dX12_sums_49 : decode cX12_sums 49 = .ok (.istore_n 2, 1) := by decide +kernel
theorem dX12_sums_50 : decode cX12_sums 50 = .ok (.goto (-35), 3) := by decide +kernel
theorem dX12_sums_53 : decode cX12_sums 53 = .ok (.aload_n 0, 1) := by decide +kernel
theorem dX12_sums_54 : decode cX12_sums 54 = .ok (.getfield 173, 3) := by decide +kernel
theorem dX12_sums_57 : decode cX12_sums 57 = .ok (.ifCond .ne 21, 3) := by decide +kernel
theorem dX12_sums_60 : decode cX12_sums 60 = .ok (.aload_n 0, 1) := by decide +kernel
theorem dX12_sums_61 : decode cX12_sums 61 = .ok (.getfield 277, 3) := by decide +kernel
theorem dX12_sums_64 : decode cX12_sums 64 = .ok (.aload_n 0, 1) := by decide +kernel
theorem dX12_sums_65 : decode cX12_sums 65 = .ok (.getfield 283, 3) := by decide +kernel
theorem dX12_sums_68 : decode cX12_sums 68 = .ok (.if_icmp .le 10, 3) := by decide +kernel
theorem dX12_sums_71 : decode cX12_sums 71 = .ok (.aload_n 0, 1) := by decide +kernel
theorem dX12_sums_72 : decode cX12_sums 72 = .ok (.invokevirtual 289, 3) := by decide +kernel
theorem dX12_sums_75 : decode cX12_sums 75 = .ok (.goto (-22), 3) := by decide +kernel
theorem dX12_sums_78 : decode cX12_sums 78 = .ok (.aload_n 0, 1) := by decide +kernel
theorem dX12_sums_79 : decode cX12_sums 79 = .ok (.iload_n 1, 1) := by decide +kernel
theorem dX12_sums_80 : decode cX12_sums 80 = .ok (.putfield 283, 3) := by decide +kernel
theorem dX12_sums_83 : decode cX12_sums 83 = .ok (.return_, 1) := by decide +kernel
theorem dX12_fact_0 : decode cX12_fact 0 = .ok (.aload_n 0, 1) := by decide +kernel
theorem dX12_fact_1 : decode cX12_fact 1 = .ok (.aload_n 0, 1) := by decide +kernel
theorem dX12_fact_2 : decode cX12_fact 2 = .ok (.getfield 48, 3) := by decide +kernel
theorem dX12_fact_5 : decode cX12_fact 5 = .ok (.invokevirtual 200, 3) := by decide +kernel
theorem dX12_fact_8 : decode cX12_fact 8 = .ok (.ifCond .eq 10, 3) := by decide +kernel
theorem dX12_fact_11 : decode cX12_fact 11 = .ok (.aload_n 0, 1) := by decide +kernel
theorem dX12_fact_12 : decode cX12_fact 12 = .ok (.bipush 17, 2) := by decide +kernel
theorem dX12_fact_14 : decode cX12_fact 14 = .ok (.invokevirtual 280, 3) := by decide +kernel
theorem dX12_fact_17 : decode cX12_fact 17 = .ok (.return_, 1) := by decide +kernel
theorem dX12_fact_18 : decode cX12_fact 18 = .ok (.aload_n 0, 1) := by decide +kernel
theorem dX12_fact_19 : decode cX12_fact 19 = .ok (.invokevirtual 319, 3) := by decide +kernel
theorem dX12_fact_22 : decode cX12_fact 22 = .ok (.aload_n 0, 1) := by decide +kernel
theorem dX12_fact_23 : decode cX12_fact 23 = .ok (.getfield 173, 3) := by decide +kernel
theorem dX12_fact_26 : decode cX12_fact 26 = .ok (.ifCond .eq 4, 3) := by decide +kernel
theorem dX12_fact_29 : decode cX12_fact 29 = .ok (.return_, 1) := by decide +kernel
theorem dX12_fact_30 : decode cX12_fact 30 = .ok (.aload_n 0, 1) := by decide +kernel
theorem dX12_fact_31 : decode cX12_fact 31 = .ok (.invokevirtual 185, 3) := by decide +kernel
theorem dX12_fact_34 : decode cX12_fact 34 = .ok (.istore_n 1, 1) := by decide +kernel
theorem dX12_fact_35 : decode cX12_fact 35 = .ok (.iload_n 1, 1) := by decide +kernel
theorem dX12_fact_36 : decode cX12_fact 36 = .ok (.bipush 60, 2) := by decide +kernel
theorem dX12_fact_38 : decode cX12_fact 38 = .ok (.if_icmp .eq 25, 3) := by decide +kernel
theorem dX12_fact_41 : decode cX12_fact 41 = .ok (.iload_n 1, 1) := by decide +kernel
theorem dX12_fact_42 : decode cX12_fact 42 = .ok (.bipush 62, 2) := by decide +kernel
theorem dX12_fact_44 : decode cX12_fact 44 = .ok (.if_icmp .eq 19, 3) := by decide +kernel
theorem dX12_fact_47 : decode cX12_fact 47 = .ok (.iload_n 1, 1) := by decide +kernel
theorem dX12_fact_48 : decode cX12_fact 48 = .ok (.bipush 61, 2) := by decide +kernel
theorem dX12_fact_50 : decode cX12_fact 50 = .ok (.if_icmp .eq 13, 3) := by decide +kernel
theorem dX12_fact_53 : decode cX12_fact 53 = .ok (.aload_n 0, 1) := by decide +kernel
theorem dX12_fact_54 : decode cX12_fact 54 = .ok (.iconst 1, 1) := by decide +kernel
theorem dX12_fact_55 : decode cX12_fact 55 = .ok (.aload_n 0, 1) := by decide +kernel
theorem dX12_fact_56 : decode cX12_fact 56 = .ok (.getfield 179, 3) := by decide +kernel
theorem dX12_fact_59 : decode cX12_fact 59 = .ok (.invokevirtual 203, 3) := by decide +kernel
theorem dX12_fact_62 : decode cX12_fact 62 = .ok (.return_, 1) := by decide +kernel
theorem dX12_fact_63 : decode cX12_fact 63 = .ok (.aload_n 0, 1) := by decide +kernel
theorem dX12_fact_64 : decode cX12_fact 64 = .ok (.dup, 1) := by decide +kernel
theorem dX12_fact_65 : decode cX12_fact 65 = .ok (.getfield 179, 3) := by decide +kernel
theorem dX12_fact_68 : decode cX12_fact 68 = .ok (.iconst 1, 1) := by decide +kernel
theorem dX12_fact_69 : decode cX12_fact 69 = .ok (.iadd, 1) := by decide +kernel
theorem dX12_fact_70 : decode cX12_fact 70 = .ok (.putfield 179, 3) := by decide +kernel
theorem dX12_fact_73 : decode cX12_fact 73 = .ok (.aload_n 0, 1) := by decide +kernel
theorem dX12_fact_74 : decode cX12_fact 74 = .ok (.invokevirtual 319, 3) := by decide +kernel
theorem dX12_fact_77 : decode cX12_fact 77 = .ok (.aload_n 0, 1) := by decide +kernel
theorem dX12_fact_78 : decode cX12_fact 78 = .ok (.iload_n 1, 1) := by decide +kernel
theorem dX12_fact_79 : decode cX12_fact 79 = .ok (.bipush 60, 2) := by decide +kernel
theorem dX12_fact_81 : decode cX12_fact 81 = .ok (.if_icmp .ne 8, 3) := by decide +kernel
theorem dX12_fact_84 : decode cX12_fact 84 = .ok (.bipush 11, 2) := by decide +kernel
theorem dX12_fact_86 : decode cX12_fact 86 = .ok (.goto 16, 3) := by decide +kernel
theorem dX12_fact_89 : decode cX12_fact 89 = .ok (.iload_n 1, 1) := by decide +kernel
theorem dX12_fact_90 : decode cX12_fact 90 = .ok (.bipush 62, 2) := by decide +kernel
theorem dX12_fact_92 : decode cX12_fact 92 = .ok (.if_icmp .ne 8, 3) := by decide +kernel
theorem dX12_fact_95 : decode cX12_fact 95 = .ok (.bipush 12, 2) := by decide +kernel
theorem dX12_fact_97 : decode cX12_fact 97 = .ok (.goto 5, 3) := by decide +kernel
theorem dX12_fact_100 : decode cX12_fact 100 = .ok (.bipush 13, 2) := by decide +kernel
theorem dX12_fact_102 : decode cX12_fact 102 = .ok (.invokevirtual 280, 3) := by decide +kernel
theorem dX12_fact_105 : decode cX12_fact 105 = .ok (.return_, 1) := by decide +kernel
theorem dX12_hasSquare_0 : decode cX12_hasSquare 0 = .ok (.iconst 0, 1) := by decide +kernel
theorem dX12_hasSquare_1 : decode cX12_hasSquare 1 = .ok (.istore_n 1, 1) := by decide +kernel
theorem dX12_hasSquare_2 : decode cX12_hasSquare 2 = .ok (.iload_n 1, 1) := by decide +kernel
theorem dX12_hasSquare_3 : decode cX12_hasSquare 3 = .ok (.aload_n 0, 1) := by decide +kernel
theorem dX12_hasSquare_4 : decode cX12_hasSquare 4 = .ok (.getfield 277, 3) := by decide +kernel
theorem dX12_hasSquare_7 : decode cX12_hasSquare 7 = .ok (.if_icmp .ge 22, 3) := by decide +kernel
theorem dX12_hasSquare_10 : decode cX12_hasSquare 10 = .ok (.aload_n 0, 1) := by decide +kernel
theorem dX12_hasSquare_11 : decode cX12_hasSquare 11 = .ok (.getfield 111, 3) := by decide +kernel
theorem dX12_hasSquare_14 : decode cX12_hasSquare 14 = .ok (.iload_n 1, 1) := by decide +kernel
theorem dX12_hasSquare_15 : decode cX12_hasSquare 15 = .ok (.iaload, 1) := by decide +kernel
theorem dX12_hasSquare_16 : decode cX12_hasSquare 16 = .ok (.bipush 25, 2) := by decide +kernel
theorem dX12_hasSquare_18 : decode cX12_hasSquare 18 = .ok (.if_icmp .ne 5, 3) := by decide +kernel
theorem dX12_hasSquare_21 : decode cX12_hasSquare 21 = .ok (.iconst 1, 1) := by decide +kernel
theorem dX12_hasSquare_22 : decode cX12_hasSquare 22 = .ok (.ireturn, 1) := by decide +kernel
theorem dX12_hasSquare_23 : decode cX12_hasSquare 23 = .ok (.iinc 1 1, 3) := by decide +kernel
theorem dX12_hasSquare_26 : decode cX12_hasSquare 26 = .ok (.goto (-24), 3) := by decide +kernel
theorem dX12_hasSquare_29 : decode cX12_hasSquare 29 = .ok (.iconst 0, 1) := by decide +kernel
theorem dX12_hasSquare_30 : decode cX12_hasSquare 30 = .ok (.ireturn, 1) := by decide +kernel
theorem dX12_dropsNots_0 : decode cX12_dropsNots 0 = .ok (.aload_n 0, 1) := by decide +kernel
theorem dX12_dropsNots_1 : decode cX12_dropsNots 1 = .ok (.getfield 173, 3) := by decide +kernel
theorem dX12_dropsNots_4 : decode cX12_dropsNots 4 = .ok (.ifCond .ne 29, 3) := by decide +kernel
theorem dX12_dropsNots_7 : decode cX12_dropsNots 7 = .ok (.aload_n 0, 1) := by decide +kernel
theorem dX12_dropsNots_8 : decode cX12_dropsNots 8 = .ok (.bipush 16, 2) := by decide +kernel
theorem dX12_dropsNots_10 : decode cX12_dropsNots 10 = .ok (.invokevirtual 310, 3) := by decide +kernel
theorem dX12_dropsNots_13 : decode cX12_dropsNots 13 = .ok (.ifCond .eq 20, 3) := by decide +kernel
theorem dX12_dropsNots_16 : decode cX12_dropsNots 16 = .ok (.aload_n 0, 1) := by decide +kernel
theorem dX12_dropsNots_17 : decode cX12_dropsNots 17 = .ok (.dup, 1) := by decide +kernel
theorem dX12_dropsNots_18 : decode cX12_dropsNots 18 = .ok (.getfield 274, 3) := by decide +kernel
theorem dX12_dropsNots_21 : decode cX12_dropsNots 21 = .ok (.iconst 1, 1) := by decide +kernel
theorem dX12_dropsNots_22 : decode cX12_dropsNots 22 = .ok (.isub, 1) := by decide +kernel
theorem dX12_dropsNots_23 : decode cX12_dropsNots 23 = .ok (.putfield 274, 3) := by decide +kernel
theorem dX12_dropsNots_26 : decode cX12_dropsNots 26 = .ok (.aload_n 0, 1) := by decide +kernel
theorem dX12_dropsNots_27 : decode cX12_dropsNots 27 = .ok (.invokevirtual 289, 3) := by decide +kernel
theorem dX12_dropsNots_30 : decode cX12_dropsNots 30 = .ok (.goto (-30), 3) := by decide +kernel
theorem dX12_dropsNots_33 : decode cX12_dropsNots 33 = .ok (.return_, 1) := by decide +kernel
theorem dX12_test_0 : decode cX12_test 0 = .ok (.iconst 1, 1) := by decide +kernel
theorem dX12_test_1 : decode cX12_test 1 = .ok (.istore_n 1, 1) := by decide +kernel
theorem dX12_test_2 : decode cX12_test 2 = .ok (.iload_n 1, 1) := by decide +kernel
theorem dX12_test_3 : decode cX12_test 3 = .ok (.ifCond .eq 107, 3) := by decide +kernel
theorem dX12_test_6 : decode cX12_test 6 = .ok (.aload_n 0, 1) := by decide +kernel
theorem dX12_test_7 : decode cX12_test 7 = .ok (.getfield 173, 3) := by decide +kernel
theorem dX12_test_10 : decode cX12_test 10 = .ok (.ifCond .ne 100, 3) := by decide +kernel
theorem dX12_test_13 : decode cX12_test 13 = .ok (.aload_n 0, 1) := by decide +kernel
theorem dX12_test_14 : decode cX12_test 14 = .ok (.invokevirtual 185, 3) := by decide +kernel
theorem dX12_test_17 : decode cX12_test 17 = .ok (.istore_n 2, 1) := by decide +kernel
theorem dX12_test_18 : decode cX12_test 18 = .ok (.iload_n 2, 1) := by decide +kernel
theorem dX12_test_19 : decode cX12_test 19 = .ok (.bipush 91, 2) := by decide +kernel
theorem dX12_test_21 : decode cX12_test 21 = .ok (.if_icmp .ne 26, 3) := by decide +kernel
theorem dX12_test_24 : decode cX12_test 24 = .ok (.aload_n 0, 1) := by decide +kernel
theorem dX12_test_25 : decode cX12_test 25 = .ok (.bipush 25, 2) := by decide +kernel
theorem dX12_test_27 : decode cX12_test 27 = .ok (.aload_n 0, 1) := by decide +kernel
theorem dX12_test_28 : decode cX12_test 28 = .ok (.getfield 179, 3) := by decide +kernel
theorem dX12_test_31 : decode cX12_test 31 = .ok (.invokevirtual 292, 3) := by decide +kernel
theorem dX12_test_34 : decode cX12_test 34 = .ok (.aload_n 0, 1) := by decide +kernel
theorem dX12_test_35 : decode cX12_test 35 = .ok (.dup, 1) := by decide +kernel
theorem dX12_test_36 : decode cX12_test 36 = .ok (.getfield 179, 3) := by decide +kernel
theorem dX12_test_39 : decode cX12_test 39 = .ok (.iconst 1, 1) := by decide +kernel
theorem dX12_test_40 : decode cX12_test 40 = .ok (.iadd, 1) := by decide +kernel
theorem dX12_test_41 : decode cX12_test 41 = .ok (.putfield 179, 3) := by decide +kernel
theorem dX12_test_44 : decode cX12_test 44 = .ok (.goto (-42), 3) := by decide +kernel
theorem dX12_test_47 : decode cX12_test 47 = .ok (.aload_n 0, 1) := by decide +kernel
theorem dX12_test_48 : decode cX12_test 48 = .ok (.aload_n 0, 1) := by decide +kernel
theorem dX12_test_49 : decode cX12_test 49 = .ok (.getfield 45, 3) := by decide +kernel
theorem dX12_test_52 : decode cX12_test 52 = .ok (.invokevirtual 196, 3) := by decide +kernel
theorem dX12_test_55 : decode cX12_test 55 = .ok (.ifCond .eq 24, 3) := by decide +kernel
theorem dX12_test_58 : decode cX12_test 58 = .ok (.aload_n 0, 1) := by decide +kernel
theorem dX12_test_59 : decode cX12_test 59 = .ok (.bipush 16, 2) := by decide +kernel
theorem dX12_test_61 : decode cX12_test 61 = .ok (.aload_n 0, 1) := by decide +kernel
theorem dX12_test_62 : decode cX12_test 62 = .ok (.getfield 179, 3) := by decide +kernel
theorem dX12_test_65 : decode cX12_test 65 = .ok (.invokevirtual 292, 3) := by decide +kernel
theorem dX12_test_68 : decode cX12_test 68 = .ok (.aload_n 0, 1) := by decide +kernel
theorem dX12_test_69 : decode cX12_test 69 = .ok (.aload_n 0, 1) := by decide +kernel
theorem dX12_test_70 : decode cX12_test 70 = .ok (.getfield 45, 3) := by decide +kernel
theorem dX12_test_73 : decode cX12_test 73 = .ok (.invokevirtual 240, 3) := by decide +kernel
theorem dX12_test_76 : decode cX12_test 76 = .ok (.goto (-74), 3) := by decide +kernel
theorem dX12_test_79 : decode cX12_test 79 = .ok (.aload_n 0, 1) := by decide +kernel
theorem dX12_test_80 : decode cX12_test 80 = .ok (.invokevirtual 322, 3) := by decide +kernel
theorem dX12_test_83 : decode cX12_test 83 = .ok (.aload_n 0, 1) := by decide +kernel
theorem dX12_test_84 : decode cX12_test 84 = .ok (.invokevirtual 325, 3) := by decide +kernel
theorem dX12_test_87 : decode cX12_test 87 = .ok (.aload_n 0, 1) := by decide +kernel
theorem dX12_test_88 : decode cX12_test 88 = .ok (.getfield 173, 3) := by decide +kernel
theorem dX12_test_91 : decode cX12_test 91 = .ok (.ifCond .ne 14, 3) := by decide +kernel
theorem dX12_test_94 : decode cX12_test 94 = .ok (.aload_n 0, 1) := by decide +kernel
theorem dX12_test_95 : decode cX12_test 95 = .ok (.invokevirtual 328, 3) := by decide +kernel
theorem dX12_test_98 : decode cX12_test 98 = .ok (.ifCond .eq 7, 3) := by decide +kernel
theorem dX12_test_101 : decode cX12_test 101 = .ok (.iconst 1, 1) := by decide +kernel
theorem dX12_test_102 : decode cX12_test 102 = .ok (.goto 4, 3) := by decide +kernel
theorem dX12_test_105 : decode cX12_test 105 = .ok (.iconst 0, 1) := by decide +kernel
theorem dX12_test_106 : decode cX12_test 106 = .ok (.istore_n 1, 1) := by decide +kernel
theorem dX12_test_107 : decode cX12_test 107 = .ok (.goto (-105), 3) := by decide +kernel
theorem dX12_test_110 : decode cX12_test 110 = .ok (.aload_n 0, 1) := by decide +kernel
theorem dX12_test_111 : decode cX12_test 111 = .ok (.getfield 173, 3) := by decide +kernel
theorem dX12_test_114 : decode cX12_test 114 = .ok (.ifCond .ne 17, 3) := by decide +kernel
theorem dX12_test_117 : decode cX12_test 117 = .ok (.aload_n 0, 1) := by decide +kernel
theorem dX12_test_118 : decode cX12_test 118 = .ok (.getfield 277, 3) := by decide +kernel
theorem dX12_test_121 : decode cX12_test 121 = .ok (.ifCond .le 10, 3) := by decide +kernel
theorem dX12_test_124 : decode cX12_test 124 = .ok (.aload_n 0, 1) := by decide +kernel
theorem dX12_test_125 : decode cX12_test 125 = .ok (.invokevirtual 289, 3) := by decide +kernel
theorem dX12_test_128 : decode cX12_test 128 = .ok (.goto (-18), 3) := by decide +kernel
theorem dX12_test_131 : decode cX12_test 131 = .ok (.return_, 1) := by decide +kernel
theorem dX12_goesOnTest_0 : decode cX12_goesOnTest 0 = .ok (.aload_n 0, 1) := by decide +kernel
theorem dX12_goesOnTest_1 : decode cX12_goesOnTest 1 = .ok (.getfield 173, 3) := by decide +kernel
theorem dX12_goesOnTest_4 : decode cX12_goesOnTest 4 = .ok (.ifCond .ne 72, 3) := by decide +kernel
theorem dX12_goesOnTest_7 : decode cX12_goesOnTest 7 = .ok (.aload_n 0, 1) := by decide +kernel
theorem dX12_goesOnTest_8 : decode cX12_goesOnTest 8 = .ok (.invokevirtual 185, 3) := by decide +kernel
theorem dX12_goesOnTest_11 : decode cX12_goesOnTest 11 = .ok (.bipush 93, 2) := by decide +kernel
theorem dX12_goesOnTest_13 : decode cX12_goesOnTest 13 = .ok (.if_icmp .ne 63, 3) := by decide +kernel
theorem dX12_goesOnTest_16 : decode cX12_goesOnTest 16 = .ok (.aload_n 0, 1) := by decide +kernel
theorem dX12_goesOnTest_17 : decode cX12_goesOnTest 17 = .ok (.invokevirtual 331, 3) := by decide +kernel
theorem dX12_goesOnTest_20 : decode cX12_goesOnTest 20 = .ok (.ifCond .eq 56, 3) := by decide +kernel
theorem dX12_goesOnTest_23 : decode cX12_goesOnTest 23 = .ok (.aload_n 0, 1) := by decide +kernel
theorem dX12_goesOnTest_24 : decode cX12_goesOnTest 24 = .ok (.dup, 1) := by decide +kernel
theorem dX12_goesOnTest_25 : decode cX12_goesOnTest 25 = .ok (.getfield 179, 3) := by decide +kernel
theorem dX12_goesOnTest_28 : decode cX12_goesOnTest 28 = .ok (.iconst 1, 1) := by decide +kernel
theorem dX12_goesOnTest_29 : decode cX12_goesOnTest 29 = .ok (.iadd, 1) := by decide +kernel
theorem dX12_goesOnTest_30 : decode cX12_goesOnTest 30 = .ok (.putfield 179, 3) := by decide +kernel
theorem dX12_goesOnTest_33 : decode cX12_goesOnTest 33 = .ok (.aload_n 0, 1) := by decide +kernel
theorem dX12_goesOnTest_34 : decode cX12_goesOnTest 34 = .ok (.bipush 25, 2) := by decide +kernel
theorem dX12_goesOnTest_36 : decode cX12_goesOnTest 36 = .ok (.invokevirtual 310, 3) := by decide +kernel
theorem dX12_goesOnTest_39 : decode cX12_goesOnTest 39 = .ok (.ifCond .ne 10, 3) := by decide +kernel
theorem dX12_goesOnTest_42 : decode cX12_goesOnTest 42 = .ok (.aload_n 0, 1) := by decide +kernel
theorem dX12_goesOnTest_43 : decode cX12_goesOnTest 43 = .ok (.invokevirtual 289, 3) := by decide +kernel
theorem dX12_goesOnTest_46 : decode cX12_goesOnTest 46 = .ok (.goto (-13), 3) := by decide +kernel
theorem dX12_goesOnTest_49 : decode cX12_goesOnTest 49 = .ok (.aload_n 0, 1) := by decide +kernel
theorem dX12_goesOnTest_50 : decode cX12_goesOnTest 50 = .ok (.dup, 1) := by decide +kernel
theorem dX12_goesOnTest_51 : decode cX12_goesOnTest 51 = .ok (.getfield 277, 3) := by decide +kernel
theorem dX12_goesOnTest_54 : decode cX12_goesOnTest 54 = .ok (.iconst 1, 1) := by decide +kernel
theorem dX12_goesOnTest_55 : decode cX12_goesOnTest 55 = .ok (.isub, 1) := by decide +kernel
theorem dX12_goesOnTest_56 : decode cX12_goesOnTest 56 = .ok (.putfield 277, 3) := by decide +kernel
theorem dX12_goesOnTest_59 : decode cX12_goesOnTest 59 = .ok (.aload_n 0, 1) := by decide +kernel
theorem dX12_goesOnTest_60 : decode cX12_goesOnTest 60 = .ok (.dup, 1) := by decide +kernel
theorem dX12_goesOnTest_61 : decode cX12_goesOnTest 61 = .ok (.getfield 274, 3) := by decide +kernel
theorem dX12_goesOnTest_64 : decode cX12_goesOnTest 64 = .ok (.iconst 1, 1) := by decide +kernel
theorem dX12_goesOnTest_65 : decode cX12_goesOnTest 65 = .ok (.isub, 1) := by decide +kernel
theorem dX12_goesOnTest_66 : decode cX12_goesOnTest 66 = .ok (.putfield 274, 3) := by decide +kernel
theorem dX12_goesOnTest_69 : decode cX12_goesOnTest 69 = .ok (.aload_n 0, 1) := by decide +kernel
theorem dX12_goesOnTest_70 : decode cX12_goesOnTest 70 = .ok (.invokevirtual 325, 3) := by decide +kernel
theorem dX12_goesOnTest_73 : decode cX12_goesOnTest 73 = .ok (.goto (-73), 3) := by decide +kernel
theorem dX12_goesOnTest_76 : decode cX12_goesOnTest 76 = .ok (.aload_n 0, 1) := by decide +kernel
theorem dX12_goesOnTest_77 : decode cX12_goesOnTest 77 = .ok (.aload_n 0, 1) := by decide +kernel
theorem dX12_goesOnTest_78 : decode cX12_goesOnTest 78 = .ok (.getfield 42, 3) := by decide +kernel
theorem dX12_goesOnTest_81 : decode cX12_goesOnTest 81 = .ok (.invokevirtual 200, 3) := by decide +kernel
theorem dX12_goesOnTest_84 : decode cX12_goesOnTest 84 = .ok (.ifCond .eq 42, 3) := by decide +kernel
theorem dX12_goesOnTest_87 : decode cX12_goesOnTest 87 = .ok (.aload_n 0, 1) := by decide +kernel
theorem dX12_goesOnTest_88 : decode cX12_goesOnTest 88 = .ok (.bipush 14, 2) := by decide +kernel
theorem dX12_goesOnTest_90 : decode cX12_goesOnTest 90 = .ok (.invokevirtual 310, 3) := by decide +kernel
theorem dX12_goesOnTest_93 : decode cX12_goesOnTest 93 = .ok (.ifCond .eq 10, 3) := by decide +kernel
theorem dX12_goesOnTest_96 : decode cX12_goesOnTest 96 = .ok (.aload_n 0, 1) := by decide +kernel
theorem dX12_goesOnTest_97 : decode cX12_goesOnTest 97 = .ok (.invokevirtual 289, 3) := by decide +kernel
theorem dX12_goesOnTest_100 : decode cX12_goesOnTest 100 = .ok (.goto (-13), 3) := by decide +kernel
theorem dX12_goesOnTest_103 : decode cX12_goesOnTest 103 = .ok (.aload_n 0, 1) := by decide +kernel
theorem dX12_goesOnTest_104 : decode cX12_goesOnTest 104 = .ok (.getfield 111, 3) := by decide +kernel
theorem dX12_goesOnTest_107 : decode cX12_goesOnTest 107 = .ok (.aload_n 0, 1) := by decide +kernel
theorem dX12_goesOnTest_108 : decode cX12_goesOnTest 108 = .ok (.getfield 277, 3) := by decide +kernel
theorem dX12_goesOnTest_111 : decode cX12_goesOnTest 111 = .ok (.bipush 14, 2) := by decide +kernel
theorem dX12_goesOnTest_113 : decode cX12_goesOnTest 113 = .ok (.iastore, 1) := by decide +kernel
theorem dX12_goesOnTest_114 : decode cX12_goesOnTest 114 = .ok (.aload_n 0, 1) := by decide +kernel
theorem dX12_goesOnTest_115 : decode cX12_goesOnTest 115 = .ok (.dup, 1) := by decide +kernel
theorem dX12_goesOnTest_116 : decode cX12_goesOnTest 116 = .ok (.getfield 277, 3) := by decide +kernel
theorem dX12_goesOnTest_119 : decode cX12_goesOnTest 119 = .ok (.iconst 1, 1) := by decide +kernel
theorem dX12_goesOnTest_120 : decode cX12_goesOnTest 120 = .ok (.iadd, 1) := by decide +kernel
theorem dX12_goesOnTest_121 : decode cX12_goesOnTest 121 = .ok (.putfield 277, 3) := by decide +kernel
theorem dX12_goesOnTest_124 : decode cX12_goesOnTest 124 = .ok (.iconst 1, 1) := by decide +kernel
theorem dX12_goesOnTest_125 : decode cX12_goesOnTest 125 = .ok (.ireturn, 1) := by decide +kernel
theorem dX12_goesOnTest_126 : decode cX12_goesOnTest 126 = .ok (.aload_n 0, 1) := by decide +kernel
theorem dX12_goesOnTest_127 : decode cX12_goesOnTest 127 = .ok (.aload_n 0, 1) := by decide +kernel
theorem dX12_goesOnTest_128 : decode cX12_goesOnTest 128 = .ok (.getfield 39, 3) := by decide +kernel
theorem dX12_goesOnTest_131 : decode cX12_goesOnTest 131 = .ok (.invokevirtual 200, 3) := by decide +kernel
theorem dX12_goesOnTest_134 : decode cX12_goesOnTest 134 = .ok (.ifCond .eq 51, 3) := by decide +kernel
theorem dX12_goesOnTest_137 : decode cX12_goesOnTest 137 = .ok (.aload_n 0, 1) := by decide +kernel
theorem dX12_goesOnTest_138 : decode cX12_goesOnTest 138 = .ok (.bipush 14, 2) := by decide +kernel
theorem dX12_goesOnTest_140 : decode cX12_goesOnTest 140 = .ok (.invokevirtual 310, 3) := by decide +kernel
theorem dX12_goesOnTest_143 : decode cX12_goesOnTest 143 = .ok (.ifCond .ne 12, 3) := by decide +kernel
theorem dX12_goesOnTest_146 : decode cX12_goesOnTest 146 = .ok (.aload_n 0, 1) := by decide +kernel
theorem dX12_goesOnTest_147 : decode cX12_goesOnTest 147 = .ok (.bipush 15, 2) := by decide +kernel
theorem dX12_goesOnTest_149 : decode cX12_goesOnTest 149 = .ok (.invokevirtual 310, 3) := by decide +kernel
theorem dX12_goesOnTest_152 : decode cX12_goesOnTest 152 = .ok (.ifCond .eq 10, 3) := by decide +kernel
theorem dX12_goesOnTest_155 : decode cX12_goesOnTest 155 = .ok (.aload_n 0, 1) := by decide +kernel
theorem dX12_goesOnTest_156 : decode cX12_goesOnTest 156 = .ok (.invokevirtual 289, 3) := by decide +kernel
theorem dX12_goesOnTest_159 : decode cX12_goesOnTest 159 = .ok (.goto (-22), 3) := by decide +kernel
theorem dX12_goesOnTest_162 : decode cX12_goesOnTest 162 = .ok (.aload_n 0, 1) := by decide +kernel
theorem dX12_goesOnTest_163 : decode cX12_goesOnTest 163 = .ok (.getfield 111, 3) := by decide +kernel
theorem dX12_goesOnTest_166 : decode cX12_goesOnTest 166 = .ok (.aload_n 0, 1) := by decide +kernel
theorem dX12_goesOnTest_167 : decode cX12_goesOnTest 167 = .ok (.getfield 277, 3) := by decide +kernel
theorem dX12_goesOnTest_170 : decode cX12_goesOnTest 170 = .ok (.bipush 15, 2) := by decide +kernel
theorem dX12_goesOnTest_172 : decode cX12_goesOnTest 172 = .ok (.iastore, 1) := by decide +kernel
theorem dX12_goesOnTest_173 : decode cX12_goesOnTest 173 = .ok (.aload_n 0, 1) := by decide +kernel
theorem dX12_goesOnTest_174 : decode cX12_goesOnTest 174 = .ok (.dup, 1) := by decide +kernel
theorem dX12_goesOnTest_175 : decode cX12_goesOnTest 175 = .ok (.getfield 277, 3) := by decide +kernel
theorem dX12_goesOnTest_178 : decode cX12_goesOnTest 178 = .ok (.iconst 1, 1) := by decide +kernel
theorem dX12_goesOnTest_179 : decode cX12_goesOnTest 179 = .ok (.iadd, 1) := by decide +kernel
theorem dX12_goesOnTest_180 : decode cX12_goesOnTest 180 = .ok (.putfield 277, 3) := by decide +kernel
theorem dX12_goesOnTest_183 : decode cX12_goesOnTest 183 = .ok (.iconst 1, 1) := by decide +kernel
theorem dX12_goesOnTest_184 : decode cX12_goesOnTest 184 = .ok (.ireturn, 1) := by decide +kernel
theorem dX12_goesOnTest_185 : decode cX12_goesOnTest 185 = .ok (.aload_n 0, 1) := by decide +kernel
theorem dX12_goesOnTest_186 : decode cX12_goesOnTest 186 = .ok (.getfield 173, 3) := by decide +kernel
theorem dX12_goesOnTest_189 : decode cX12_goesOnTest 189 = .ok (.ifCond .ne 19, 3) := by decide +kernel
theorem dX12_goesOnTest_192 : decode cX12_goesOnTest 192 = .ok (.aload_n 0, 1) := by decide +kernel
theorem dX12_goesOnTest_193 : decode cX12_goesOnTest 193 = .ok (.invokevirtual 331, 3) := by decide +kernel
theorem dX12_goesOnTest_196 : decode cX12_goesOnTest 196 = .ok (.ifCond .eq 12, 3) := by decide +kernel
theorem dX12_goesOnTest_199 : decode cX12_goesOnTest 199 = .ok (.aload_n 0, 1) := by decide +kernel
theorem dX12_goesOnTest_200 : decode cX12_goesOnTest 200 = .ok (.iconst 1, 1) := by decide +kernel
theorem dX12_goesOnTest_201 : decode cX12_goesOnTest 201 = .ok (.aload_n 0, 1) := by decide +kernel
theorem dX12_goesOnTest_202 : decode cX12_goesOnTest 202 = .ok (.getfield 179, 3) := by decide +kernel
theorem dX12_goesOnTest_205 : decode cX12_goesOnTest 205 = .ok (.invokevirtual 203, 3) := by decide +kernel
theorem dX12_goesOnTest_208 : decode cX12_goesOnTest 208 = .ok (.iconst 0, 1) := by decide +kernel
theorem dX12_goesOnTest_209 : decode cX12_goesOnTest 209 = .ok (.ireturn, 1) := by decide +kernel
theorem dX12_testTold_0 : decode cX12_testTold 0 = .ok (.bipush 24, 2) := by decide +kernel
theorem dX12_testTold_2 : decode cX12_testTold 2 = .ok (.bipush 12, 2) := by decide +kernel
theorem dX12_testTold_4 : decode cX12_testTold 4 = .ok (.iload_n 1, 1) := by decide +kernel
theorem dX12_testTold_5 : decode cX12_testTold 5 = .ok (.imul, 1) := by decide +kernel
theorem dX12_testTold_6 : decode cX12_testTold 6 = .ok (.iadd, 1) := by decide +kernel
theorem dX12_testTold_7 : decode cX12_testTold 7 = .ok (.aload_n 0, 1) := by decide +kernel
theorem dX12_testTold_8 : decode cX12_testTold 8 = .ok (.getfield 114, 3) := by decide +kernel
theorem dX12_testTold_11 : decode cX12_testTold 11 = .ok (.iconst 2, 1) := by decide +kernel
theorem dX12_testTold_12 : decode cX12_testTold 12 = .ok (.iload_n 1, 1) := by decide +kernel
theorem dX12_testTold_13 : decode cX12_testTold 13 = .ok (.iadd, 1) := by decide +kernel
theorem dX12_testTold_14 : decode cX12_testTold 14 = .ok (.iaload, 1) := by decide +kernel
theorem dX12_testTold_15 : decode cX12_testTold 15 = .ok (.iadd, 1) := by decide +kernel
theorem dX12_testTold_16 : decode cX12_testTold 16 = .ok (.istore_n 2, 1) := by decide +kernel
theorem dX12_testTold_17 : decode cX12_testTold 17 = .ok (.aload_n 0, 1) := by decide +kernel
theorem dX12_testTold_18 : decode cX12_testTold 18 = .ok (.aload_n 0, 1) := by decide +kernel
theorem dX12_testTold_19 : decode cX12_testTold 19 = .ok (.getfield 36, 3) := by decide +kernel
theorem dX12_testTold_22 : decode cX12_testTold 22 = .ok (.invokevirtual 240, 3) := by decide +kernel
theorem dX12_testTold_25 : decode cX12_testTold 25 = .ok (.aload_n 0, 1) := by decide +kernel
theorem dX12_testTold_26 : decode cX12_testTold 26 = .ok (.iload_n 1, 1) := by decide +kernel
theorem dX12_testTold_27 : decode cX12_testTold 27 = .ok (.iconst 1, 1) := by decide +kernel
theorem dX12_testTold_28 : decode cX12_testTold 28 = .ok (.if_icmp .ne 7, 3) := by decide +kernel
theorem dX12_testTold_31 : decode cX12_testTold 31 = .ok (.iconst 1, 1) := by decide +kernel
theorem dX12_testTold_32 : decode cX12_testTold 32 = .ok (.goto 4, 3) := by decide +kernel
theorem dX12_testTold_35 : decode cX12_testTold 35 = .ok (.iconst 0, 1) := by decide +kernel
theorem dX12_testTold_36 : decode cX12_testTold 36 = .ok (.putfield 295, 3) := by decide +kernel
theorem dX12_testTold_39 : decode cX12_testTold 39 = .ok (.aload_n 0, 1) := by decide +kernel
theorem dX12_testTold_40 : decode cX12_testTold 40 = .ok (.getfield 117, 3) := by decide +kernel
theorem dX12_testTold_43 : decode cX12_testTold 43 = .ok (.iload_n 2, 1) := by decide +kernel
theorem dX12_testTold_44 : decode cX12_testTold 44 = .ok (.aload_n 0, 1) := by decide +kernel
theorem dX12_testTold_45 : decode cX12_testTold 45 = .ok (.getfield 234, 3) := by decide +kernel
theorem dX12_testTold_48 : decode cX12_testTold 48 = .ok (.iastore, 1) := by decide +kernel
theorem dX12_testTold_49 : decode cX12_testTold 49 = .ok (.aload_n 0, 1) := by decide +kernel
theorem dX12_testTold_50 : decode cX12_testTold 50 = .ok (.iconst 0, 1) := by decide +kernel
theorem dX12_testTold_51 : decode cX12_testTold 51 = .ok (.putfield 277, 3) := by decide +kernel
theorem dX12_testTold_54 : decode cX12_testTold 54 = .ok (.aload_n 0, 1) := by decide +kernel
theorem dX12_testTold_55 : decode cX12_testTold 55 = .ok (.iconst 0, 1) := by decide +kernel
theorem dX12_testTold_56 : decode cX12_testTold 56 = .ok (.putfield 274, 3) := by decide +kernel
theorem dX12_testTold_59 : decode cX12_testTold 59 = .ok (.aload_n 0, 1) := by decide +kernel
theorem dX12_testTold_60 : decode cX12_testTold 60 = .ok (.iconst 0, 1) := by decide +kernel
theorem dX12_testTold_61 : decode cX12_testTold 61 = .ok (.putfield 283, 3) := by decide +kernel
theorem dX12_testTold_64 : decode cX12_testTold 64 = .ok (.aload_n 0, 1) := by decide +kernel
theorem dX12_testTold_65 : decode cX12_testTold 65 = .ok (.getfield 173, 3) := by decide +kernel
theorem dX12_testTold_68 : decode cX12_testTold 68 = .ok (.ifCond .ne 7, 3) := by decide +kernel
theorem dX12_testTold_71 : decode cX12_testTold 71 = .ok (.aload_n 0, 1) := by decide +kernel
theorem dX12_testTold_72 : decode cX12_testTold 72 = .ok (.invokevirtual 334, 3) := by decide +kernel
theorem dX12_testTold_75 : decode cX12_testTold 75 = .ok (.aload_n 0, 1) := by decide +kernel
theorem dX12_testTold_76 : decode cX12_testTold 76 = .ok (.getfield 120, 3) := by decide +kernel
theorem dX12_testTold_79 : decode cX12_testTold 79 = .ok (.iload_n 2, 1) := by decide +kernel
theorem dX12_testTold_80 : decode cX12_testTold 80 = .ok (.aload_n 0, 1) := by decide +kernel
theorem dX12_testTold_81 : decode cX12_testTold 81 = .ok (.getfield 234, 3) := by decide +kernel
theorem dX12_testTold_84 : decode cX12_testTold 84 = .ok (.iastore, 1) := by decide +kernel
theorem dX12_testTold_85 : decode cX12_testTold 85 = .ok (.aload_n 0, 1) := by decide +kernel
theorem dX12_testTold_86 : decode cX12_testTold 86 = .ok (.getfield 114, 3) := by decide +kernel
theorem dX12_testTold_89 : decode cX12_testTold 89 = .ok (.iconst 2, 1) := by decide +kernel
theorem dX12_testTold_90 : decode cX12_testTold 90 = .ok (.iload_n 1, 1) := by decide +kernel
theorem dX12_testTold_91 : decode cX12_testTold 91 = .ok (.iadd, 1) := by decide +kernel
theorem dX12_testTold_92 : decode cX12_testTold 92 = .ok (.dup2, 1) := by decide +kernel
theorem dX12_testTold_93 : decode cX12_testTold 93 = .ok (.iaload, 1) := by decide +kernel
theorem dX12_testTold_94 : decode cX12_testTold 94 = .ok (.iconst 1, 1) := by decide +kernel
theorem dX12_testTold_95 : decode cX12_testTold 95 = .ok (.iadd, 1) := by decide +kernel
theorem dX12_testTold_96 : decode cX12_testTold 96 = .ok (.iastore, 1) := by decide +kernel
theorem dX12_testTold_97 : decode cX12_testTold 97 = .ok (.return_, 1) := by decide +kernel
theorem dX12_ruleTold_0 : decode cX12_ruleTold 0 = .ok (.aload_n 0, 1) := by decide +kernel
theorem dX12_ruleTold_1 : decode cX12_ruleTold 1 = .ok (.getfield 173, 3) := by decide +kernel
theorem dX12_ruleTold_4 : decode cX12_ruleTold 4 = .ok (.ifCond .ne 20, 3) := by decide +kernel
theorem dX12_ruleTold_7 : decode cX12_ruleTold 7 = .ok (.aload_n 0, 1) := by decide +kernel
theorem dX12_ruleTold_8 : decode cX12_ruleTold 8 = .ok (.getfield 114, 3) := by decide +kernel
theorem dX12_ruleTold_11 : decode cX12_ruleTold 11 = .ok (.iconst 2, 1) := by decide +kernel
theorem dX12_ruleTold_12 : decode cX12_ruleTold 12 = .ok (.iaload, 1) := by decide +kernel
theorem dX12_ruleTold_13 : decode cX12_ruleTold 13 = .ok (.bipush 12, 2) := by decide +kernel
theorem dX12_ruleTold_15 : decode cX12_ruleTold 15 = .ok (.if_icmp .ne 9, 3) := by decide +kernel
theorem dX12_ruleTold_18 : decode cX12_ruleTold 18 = .ok (.aload_n 0, 1) := by decide +kernel
theorem dX12_ruleTold_19 : decode cX12_ruleTold 19 = .ok (.iconst 5, 1) := by decide +kernel
theorem dX12_ruleTold_20 : decode cX12_ruleTold 20 = .ok (.iload_n 1, 1) := by decide +kernel
theorem dX12_ruleTold_21 : decode cX12_ruleTold 21 = .ok (.invokevirtual 203, 3) := by decide +kernel
theorem dX12_ruleTold_24 : decode cX12_ruleTold 24 = .ok (.aload_n 0, 1) := by decide +kernel
theorem dX12_ruleTold_25 : decode cX12_ruleTold 25 = .ok (.getfield 173, 3) := by decide +kernel
theorem dX12_ruleTold_28 : decode cX12_ruleTold 28 = .ok (.ifCond .ne 8, 3) := by decide +kernel
theorem dX12_ruleTold_31 : decode cX12_ruleTold 31 = .ok (.aload_n 0, 1) := by decide +kernel
theorem dX12_ruleTold_32 : decode cX12_ruleTold 32 = .ok (.iconst 0, 1) := by decide +kernel
theorem dX12_ruleTold_33 : decode cX12_ruleTold 33 = .ok (.invokevirtual 337, 3) := by decide +kernel
theorem dX12_ruleTold_36 : decode cX12_ruleTold 36 = .ok (.return_, 1) := by decide +kernel
theorem dX12_mottoTold_0 : decode cX12_mottoTold 0 = .ok (.aload_n 0, 1) := by decide +kernel
theorem dX12_mottoTold_1 : decode cX12_mottoTold 1 = .ok (.getfield 173, 3) := by decide +kernel
theorem dX12_mottoTold_4 : decode cX12_mottoTold 4 = .ok (.ifCond .ne 20, 3) := by decide +kernel
theorem dX12_mottoTold_7 : decode cX12_mottoTold 7 = .ok (.aload_n 0, 1) := by decide +kernel
theorem dX12_mottoTold_8 : decode cX12_mottoTold 8 = .ok (.getfield 114, 3) := by decide +kernel
theorem dX12_mottoTold_11 : decode cX12_mottoTold 11 = .ok (.iconst 3, 1) := by decide +kernel
theorem dX12_mottoTold_12 : decode cX12_mottoTold 12 = .ok (.iaload, 1) := by decide +kernel
theorem dX12_mottoTold_13 : decode cX12_mottoTold 13 = .ok (.bipush 6, 2) := by decide +kernel
theorem dX12_mottoTold_15 : decode cX12_mottoTold 15 = .ok (.if_icmp .ne 9, 3) := by decide +kernel
theorem dX12_mottoTold_18 : decode cX12_mottoTold 18 = .ok (.aload_n 0, 1) := by decide +kernel
theorem dX12_mottoTold_19 : decode cX12_mottoTold 19 = .ok (.iconst 5, 1) := by decide +kernel
theorem dX12_mottoTold_20 : decode cX12_mottoTold 20 = .ok (.iload_n 1, 1) := by decide +kernel
theorem dX12_mottoTold_21 : decode cX12_mottoTold 21 = .ok (.invokevirtual 203, 3) := by decide +kernel
theorem dX12_mottoTold_24 : decode cX12_mottoTold 24 = .ok (.aload_n 0, 1) := by decide +kernel
theorem dX12_mottoTold_25 : decode cX12_mottoTold 25 = .ok (.getfield 173, 3) := by decide +kernel
theorem dX12_mottoTold_28 : decode cX12_mottoTold 28 = .ok (.ifCond .eq 4, 3) := by decide +kernel
theorem dX12_mottoTold_31 : decode cX12_mottoTold 31 = .ok (.return_, 1) := by decide +kernel
theorem dX12_mottoTold_32 : decode cX12_mottoTold 32 = .ok (.aload_n 0, 1) := by decide +kernel
theorem dX12_mottoTold_33 : decode cX12_mottoTold 33 = .ok (.invokevirtual 340, 3) := by decide +kernel
theorem dX12_mottoTold_36 : decode cX12_mottoTold 36 = .ok (.lstore_n 2, 1) := by decide +kernel
theorem dX12_mottoTold_37 : decode cX12_mottoTold 37 = .ok (.iconst 0, 1) := by decide +kernel
theorem dX12_mottoTold_38 : decode cX12_mottoTold 38 = .ok (.istore 4, 2) := by decide +kernel
theorem dX12_mottoTold_40 : decode cX12_mottoTold 40 = .ok (.iload 4, 2) := by decide +kernel
theorem dX12_mottoTold_42 : decode cX12_mottoTold 42 = .ok (.aload_n 0, 1) := by decide +kernel
theorem dX12_mottoTold_43 : decode cX12_mottoTold 43 = .ok (.getfield 114, 3) := by decide +kernel
theorem dX12_mottoTold_46 : decode cX12_mottoTold 46 = .ok (.iconst 3, 1) := by decide +kernel
theorem dX12_mottoTold_47 : decode cX12_mottoTold 47 = .ok (.iaload, 1) := by decide +kernel
theorem dX12_mottoTold_48 : decode cX12_mottoTold 48 = .ok (.if_icmp .ge 40, 3) := by decide +kernel
theorem dX12_mottoTold_51 : decode cX12_mottoTold 51 = .ok (.aload_n 0, 1) := by decide +kernel
theorem dX12_mottoTold_52 : decode cX12_mottoTold 52 = .ok (.getfield 173, 3) := by decide +kernel
theorem dX12_mottoTold_55 : decode cX12_mottoTold 55 = .ok (.ifCond .ne 27, 3) := by decide +kernel
theorem dX12_mottoTold_58 : decode cX12_mottoTold 58 = .ok (.aload_n 0, 1) := by decide +kernel
theorem dX12_mottoTold_59 : decode cX12_mottoTold 59 = .ok (.getfield 123, 3) := by decide +kernel
theorem dX12_mottoTold_62 : decode cX12_mottoTold 62 = .ok (.bipush 6, 2) := by decide +kernel
theorem dX12_mottoTold_64 : decode cX12_mottoTold 64 = .ok (.iload 4, 2) := by decide +kernel
theorem dX12_mottoTold_66 : decode cX12_mottoTold 66 = .ok (.iadd, 1) := by decide +kernel
theorem dX12_mottoTold_67 : decode cX12_mottoTold 67 = .ok (.laload, 1) := by decide +kernel
theorem dX12_mottoTold_68 : decode cX12_mottoTold 68 = .ok (.lload_n 2, 1) := by decide +kernel
theorem dX12_mottoTold_69 : decode cX12_mottoTold 69 = .ok (.lcmp, 1) := by decide +kernel
theorem dX12_mottoTold_70 : decode cX12_mottoTold 70 = .ok (.ifCond .ne 12, 3) := by decide +kernel
theorem dX12_mottoTold_73 : decode cX12_mottoTold 73 = .ok (.aload_n 0, 1) := by decide +kernel
theorem dX12_mottoTold_74 : decode cX12_mottoTold 74 = .ok (.iconst 3, 1) := by decide +kernel
theorem dX12_mottoTold_75 : decode cX12_mottoTold 75 = .ok (.aload_n 0, 1) := by decide +kernel
theorem dX12_mottoTold_76 : decode cX12_mottoTold 76 = .ok (.getfield 224, 3) := by decide +kernel
theorem dX12_mottoTold_79 : decode cX12_mottoTold 79 = .ok (.invokevirtual 203, 3) := by decide +kernel
theorem dX12_mottoTold_82 : decode cX12_mottoTold 82 = .ok (.iinc 4 1, 3) := by decide +kernel
theorem dX12_mottoTold_85 : decode cX12_mottoTold 85 = .ok (.goto (-45), 3) := by decide +kernel
theorem dX12_mottoTold_88 : decode cX12_mottoTold 88 = .ok (.aload_n 0, 1) := by decide +kernel
theorem dX12_mottoTold_89 : decode cX12_mottoTold 89 = .ok (.getfield 123, 3) := by decide +kernel
theorem dX12_mottoTold_92 : decode cX12_mottoTold 92 = .ok (.bipush 6, 2) := by decide +kernel
theorem dX12_mottoTold_94 : decode cX12_mottoTold 94 = .ok (.aload_n 0, 1) := by decide +kernel
theorem dX12_mottoTold_95 : decode cX12_mottoTold 95 = .ok (.getfield 114, 3) := by decide +kernel
theorem dX12_mottoTold_98 : decode cX12_mottoTold 98 = .ok (.iconst 3, 1) := by decide +kernel
theorem dX12_mottoTold_99 : decode cX12_mottoTold 99 = .ok (.iaload, 1) := by decide +kernel
theorem dX12_mottoTold_100 : decode cX12_mottoTold 100 = .ok (.iadd, 1) := by decide +kernel
theorem dX12_mottoTold_101 : decode cX12_mottoTold 101 = .ok (.lload_n 2, 1) := by decide +kernel
theorem dX12_mottoTold_102 : decode cX12_mottoTold 102 = .ok (.lastore, 1) := by decide +kernel
theorem dX12_mottoTold_103 : decode cX12_mottoTold 103 = .ok (.aload_n 0, 1) := by decide +kernel
theorem dX12_mottoTold_104 : decode cX12_mottoTold 104 = .ok (.getfield 173, 3) := by decide +kernel
theorem dX12_mottoTold_107 : decode cX12_mottoTold 107 = .ok (.ifCond .ne 8, 3) := by decide +kernel
theorem dX12_mottoTold_110 : decode cX12_mottoTold 110 = .ok (.aload_n 0, 1) := by decide +kernel
theorem dX12_mottoTold_111 : decode cX12_mottoTold 111 = .ok (.iconst 1, 1) := by decide +kernel
theorem dX12_mottoTold_112 : decode cX12_mottoTold 112 = .ok (.invokevirtual 337, 3) := by decide +kernel
theorem dX12_mottoTold_115 : decode cX12_mottoTold 115 = .ok (.return_, 1) := by decide +kernel
theorem dX12_bookTold_0 : decode cX12_bookTold 0 = .ok (.aload_n 0, 1) := by decide +kernel
theorem dX12_bookTold_1 : decode cX12_bookTold 1 = .ok (.getfield 179, 3) := by decide +kernel
theorem dX12_bookTold_4 : decode cX12_bookTold 4 = .ok (.istore_n 1, 1) := by decide +kernel
theorem dX12_bookTold_5 : decode cX12_bookTold 5 = .ok (.aload_n 0, 1) := by decide +kernel
theorem dX12_bookTold_6 : decode cX12_bookTold 6 = .ok (.getfield 231, 3) := by decide +kernel
theorem dX12_bookTold_9 : decode cX12_bookTold 9 = .ok (.bipush 60, 2) := by decide +kernel
theorem dX12_bookTold_11 : decode cX12_bookTold 11 = .ok (.if_icmp .ne 10, 3) := by decide +kernel
theorem dX12_bookTold_14 : decode cX12_bookTold 14 = .ok (.aload_n 0, 1) := by decide +kernel
theorem dX12_bookTold_15 : decode cX12_bookTold 15 = .ok (.iconst 5, 1) := by decide +kernel
theorem dX12_bookTold_16 : decode cX12_bookTold 16 = .ok (.iload_n 1, 1) := by decide +kernel
theorem dX12_bookTold_17 : decode cX12_bookTold 17 = .ok (.invokevirtual 203, 3) := by decide +kernel
theorem dX12_bookTold_20 : decode cX12_bookTold 20 = .ok (.return_, 1) := by decide +kernel
theorem dX12_bookTold_21 : decode cX12_bookTold 21 = .ok (.aload_n 0, 1) := by decide +kernel
theorem dX12_bookTold_22 : decode cX12_bookTold 22 = .ok (.aload_n 0, 1) := by decide +kernel
theorem dX12_bookTold_23 : decode cX12_bookTold 23 = .ok (.getfield 27, 3) := by decide +kernel
theorem dX12_bookTold_26 : decode cX12_bookTold 26 = .ok (.invokevirtual 200, 3) := by decide +kernel
theorem dX12_bookTold_29 : decode cX12_bookTold 29 = .ok (.ifCond .eq 17, 3) := by decide +kernel
theorem dX12_bookTold_32 : decode cX12_bookTold 32 = .ok (.aload_n 0, 1) := by decide +kernel
theorem dX12_bookTold_33 : decode cX12_bookTold 33 = .ok (.aload_n 0, 1) := by decide +kernel
theorem dX12_bookTold_34 : decode cX12_bookTold 34 = .ok (.iconst 2, 1) := by decide +kernel
theorem dX12_bookTold_35 : decode cX12_bookTold 35 = .ok (.bipush 12, 2) := by decide +kernel
theorem dX12_bookTold_37 : decode cX12_bookTold 37 = .ok (.invokevirtual 244, 3) := by decide +kernel
theorem dX12_bookTold_40 : decode cX12_bookTold 40 = .ok (.putfield 344, 3) := by decide +kernel
theorem dX12_bookTold_43 : decode cX12_bookTold 43 = .ok (.goto 42, 3) := by decide +kernel
theorem dX12_bookTold_46 : decode cX12_bookTold 46 = .ok (.aload_n 0, 1) := by decide +kernel
theorem dX12_bookTold_47 : decode cX12_bookTold 47 = .ok (.aload_n 0, 1) := by decide +kernel
theorem dX12_bookTold_48 : decode cX12_bookTold 48 = .ok (.getfield 30, 3) := by decide +kernel
theorem dX12_bookTold_51 : decode cX12_bookTold 51 = .ok (.invokevirtual 200, 3) := by decide +kernel
theorem dX12_bookTold_54 : decode cX12_bookTold 54 = .ok (.ifCond .eq 11, 3) := by decide +kernel
theorem dX12_bookTold_57 : decode cX12_bookTold 57 = .ok (.aload_n 0, 1) := by decide +kernel
theorem dX12_bookTold_58 : decode cX12_bookTold 58 = .ok (.iload_n 1, 1) := by decide +kernel
theorem dX12_bookTold_59 : decode cX12_bookTold 59 = .ok (.invokevirtual 347, 3) := by decide +kernel
theorem dX12_bookTold_62 : decode cX12_bookTold 62 = .ok (.goto 23, 3) := by decide +kernel
theorem dX12_bookTold_65 : decode cX12_bookTold 65 = .ok (.aload_n 0, 1) := by decide +kernel
theorem dX12_bookTold_66 : decode cX12_bookTold 66 = .ok (.aload_n 0, 1) := by decide +kernel
theorem dX12_bookTold_67 : decode cX12_bookTold 67 = .ok (.getfield 33, 3) := by decide +kernel
theorem dX12_bookTold_70 : decode cX12_bookTold 70 = .ok (.invokevirtual 240, 3) := by decide +kernel
theorem dX12_bookTold_73 : decode cX12_bookTold 73 = .ok (.aload_n 0, 1) := by decide +kernel
theorem dX12_bookTold_74 : decode cX12_bookTold 74 = .ok (.getfield 173, 3) := by decide +kernel
theorem dX12_bookTold_77 : decode cX12_bookTold 77 = .ok (.ifCond .ne 8, 3) := by decide +kernel
theorem dX12_bookTold_80 : decode cX12_bookTold 80 = .ok (.aload_n 0, 1) := by decide +kernel
theorem dX12_bookTold_81 : decode cX12_bookTold 81 = .ok (.iload_n 1, 1) := by decide +kernel
theorem dX12_bookTold_82 : decode cX12_bookTold 82 = .ok (.invokevirtual 350, 3) := by decide +kernel
theorem dX12_bookTold_85 : decode cX12_bookTold 85 = .ok (.aload_n 0, 1) := by decide +kernel
theorem dX12_bookTold_86 : decode cX12_bookTold 86 = .ok (.bipush 59, 2) := by decide +kernel
theorem dX12_bookTold_88 : decode cX12_bookTold 88 = .ok (.invokevirtual 248, 3) := by decide +kernel
theorem dX12_bookTold_91 : decode cX12_bookTold 91 = .ok (.aload_n 0, 1) := by decide +kernel
theorem dX12_bookTold_92 : decode cX12_bookTold 92 = .ok (.dup, 1) := by decide +kernel
theorem dX12_bookTold_93 : decode cX12_bookTold 93 = .ok (.getfield 231, 3) := by decide +kernel
