theorem dX12_picks_108 : decode cX12_picks 108 = .ok (.iadd, 1) := by decide +kernel
theorem dX12_picks_109 : decode cX12_picks 109 = .ok (.ireturn, 1) := by decide +kernel
theorem dX12_picks_110 : decode cX12_picks 110 = .ok (.iinc 3 1, 3) := by decide +kernel
theorem dX12_picks_113 : decode cX12_picks 113 = .ok (.goto 95, 3) := by decide +kernel
theorem dX12_picks_116 : decode cX12_picks 116 = .ok (.iload 5, 2) := by decide +kernel
theorem dX12_picks_118 : decode cX12_picks 118 = .ok (.iconst 1, 1) := by decide +kernel
theorem dX12_picks_119 : decode cX12_picks 119 = .ok (.iadd, 1) := by decide +kernel
theorem dX12_picks_120 : decode cX12_picks 120 = .ok (.istore 6, 2) := by decide +kernel
theorem dX12_picks_122 : decode cX12_picks 122 = .ok (.iload 6, 2) := by decide +kernel
theorem dX12_picks_124 : decode cX12_picks 124 = .ok (.aload_n 0, 1) := by decide +kernel
theorem dX12_picks_125 : decode cX12_picks 125 = .ok (.invokevirtual 485, 3) := by decide +kernel
theorem dX12_picks_128 : decode cX12_picks 128 = .ok (.if_icmp .ge 80, 3) := by decide +kernel
theorem dX12_picks_131 : decode cX12_picks 131 = .ok (.aload_n 0, 1) := by decide +kernel
theorem dX12_picks_132 : decode cX12_picks 132 = .ok (.getfield 148, 3) := by decide +kernel
theorem dX12_picks_135 : decode cX12_picks 135 = .ok (.bipush 40, 2) := by decide +kernel
theorem dX12_picks_137 : decode cX12_picks 137 = .ok (.iload 4, 2) := by decide +kernel
theorem dX12_picks_139 : decode cX12_picks 139 = .ok (.imul, 1) := by decide +kernel
theorem dX12_picks_140 : decode cX12_picks 140 = .ok (.iload 6, 2) := by decide +kernel
theorem dX12_picks_142 : decode cX12_picks 142 = .ok (.iadd, 1) := by decide +kernel
theorem dX12_picks_143 : decode cX12_picks 143 = .ok (.baload, 1) := by decide +kernel
theorem dX12_picks_144 : decode cX12_picks 144 = .ok (.ifCond .eq 58, 3) := by decide +kernel
theorem dX12_picks_147 : decode cX12_picks 147 = .ok (.aload_n 0, 1) := by decide +kernel
theorem dX12_picks_148 : decode cX12_picks 148 = .ok (.getfield 148, 3) := by decide +kernel
theorem dX12_picks_151 : decode cX12_picks 151 = .ok (.bipush 40, 2) := by decide +kernel
theorem dX12_picks_153 : decode cX12_picks 153 = .ok (.iload 5, 2) := by decide +kernel
theorem dX12_picks_155 : decode cX12_picks 155 = .ok (.imul, 1) := by decide +kernel
theorem dX12_picks_156 : decode cX12_picks 156 = .ok (.iload 6, 2) := by decide +kernel
theorem dX12_picks_158 : decode cX12_picks 158 = .ok (.iadd, 1) := by decide +kernel
theorem dX12_picks_159 : decode cX12_picks 159 = .ok (.baload, 1) := by decide +kernel
theorem dX12_picks_160 : decode cX12_picks 160 = .ok (.ifCond .ne 6, 3) := by decide +kernel
theorem dX12_picks_163 : decode cX12_picks 163 = .ok (.goto 39, 3) := by decide +kernel
theorem dX12_picks_166 : decode cX12_picks 166 = .ok (.aload_n 0, 1) := by decide +kernel
theorem dX12_picks_167 : decode cX12_picks 167 = .ok (.getfield 152, 3) := by decide +kernel
theorem dX12_picks_170 : decode cX12_picks 170 = .ok (.iconst 0, 1) := by decide +kernel
theorem dX12_picks_171 : decode cX12_picks 171 = .ok (.iload 4, 2) := by decide +kernel
theorem dX12_picks_173 : decode cX12_picks 173 = .ok (.iastore, 1) := by decide +kernel
theorem dX12_picks_174 : decode cX12_picks 174 = .ok (.aload_n 0, 1) := by decide +kernel
theorem dX12_picks_175 : decode cX12_picks 175 = .ok (.getfield 152, 3) := by decide +kernel
theorem dX12_picks_178 : decode cX12_picks 178 = .ok (.iconst 1, 1) := by decide +kernel
theorem dX12_picks_179 : decode cX12_picks 179 = .ok (.iload 5, 2) := by decide +kernel
theorem dX12_picks_181 : decode cX12_picks 181 = .ok (.iastore, 1) := by decide +kernel
theorem dX12_picks_182 : decode cX12_picks 182 = .ok (.aload_n 0, 1) := by decide +kernel
theorem dX12_picks_183 : decode cX12_picks 183 = .ok (.getfield 152, 3) := by decide +kernel
theorem dX12_picks_186 : decode cX12_picks 186 = .ok (.iconst 2, 1) := by decide +kernel
theorem dX12_picks_187 : decode cX12_picks 187 = .ok (.iload 6, 2) := by decide +kernel
theorem dX12_picks_189 : decode cX12_picks 189 = .ok (.iastore, 1) := by decide +kernel
theorem dX12_picks_190 : decode cX12_picks 190 = .ok (.iload_n 3, 1) := by decide +kernel
theorem dX12_picks_191 : decode cX12_picks 191 = .ok (.iload_n 2, 1) := by decide +kernel
theorem dX12_picks_192 : decode cX12_picks 192 = .ok (.if_icmp .ne 7, 3) := by decide +kernel
theorem dX12_picks_195 : decode cX12_picks 195 = .ok (.iload_n 3, 1) := by decide +kernel
theorem dX12_picks_196 : decode cX12_picks 196 = .ok (.iconst 1, 1) := by decide +kernel
theorem dX12_picks_197 : decode cX12_picks 197 = .ok (.iadd, 1) := by decide +kernel
theorem dX12_picks_198 : decode cX12_picks 198 = .ok (.ireturn, 1) := by decide +kernel
theorem dX12_picks_199 : decode cX12_picks 199 = .ok (.iinc 3 1, 3) := by decide +kernel
theorem dX12_picks_202 : decode cX12_picks 202 = .ok (.iinc 6 1, 3) := by decide +kernel
theorem dX12_picks_205 : decode cX12_picks 205 = .ok (.goto (-83), 3) := by decide +kernel
theorem dX12_picks_208 : decode cX12_picks 208 = .ok (.iinc 5 1, 3) := by decide +kernel
theorem dX12_picks_211 : decode cX12_picks 211 = .ok (.goto (-159), 3) := by decide +kernel
theorem dX12_picks_214 : decode cX12_picks 214 = .ok (.iinc 4 1, 3) := by decide +kernel
theorem dX12_picks_217 : decode cX12_picks 217 = .ok (.goto (-180), 3) := by decide +kernel
theorem dX12_picks_220 : decode cX12_picks 220 = .ok (.iload_n 3, 1) := by decide +kernel
theorem dX12_picks_221 : decode cX12_picks 221 = .ok (.ireturn, 1) := by decide +kernel
theorem dX12_ways_0 : decode cX12_ways 0 = .ok (.iload_n 1, 1) := by decide +kernel
theorem dX12_ways_1 : decode cX12_ways 1 = .ok (.i2l, 1) := by decide +kernel
theorem dX12_ways_2 : decode cX12_ways 2 = .ok (.ldc2_w 417, 3) := by decide +kernel
theorem dX12_ways_5 : decode cX12_ways 5 = .ok (.ldc2_w 493, 3) := by decide +kernel
theorem dX12_ways_8 : decode cX12_ways 8 = .ok (.invokestatic 216, 3) := by decide +kernel
theorem dX12_ways_11 : decode cX12_ways 11 = .ok (.ifCond .eq 12, 3) := by decide +kernel
theorem dX12_ways_14 : decode cX12_ways 14 = .ok (.aload_n 0, 1) := by decide +kernel
theorem dX12_ways_15 : decode cX12_ways 15 = .ok (.iload_n 1, 1) := by decide +kernel
theorem dX12_ways_16 : decode cX12_ways 16 = .ok (.iconst (-1), 1) := by decide +kernel
theorem dX12_ways_17 : decode cX12_ways 17 = .ok (.invokevirtual 495, 3) := by decide +kernel
theorem dX12_ways_20 : decode cX12_ways 20 = .ok (.goto 4, 3) := by decide +kernel
theorem dX12_ways_23 : decode cX12_ways 23 = .ok (.iconst (-1), 1) := by decide +kernel
theorem dX12_ways_24 : decode cX12_ways 24 = .ok (.ireturn, 1) := by decide +kernel
theorem dX12_isWayOf_0 : decode cX12_isWayOf 0 = .ok (.iload_n 1, 1) := by decide +kernel
theorem dX12_isWayOf_1 : decode cX12_isWayOf 1 = .ok (.i2l, 1) := by decide +kernel
theorem dX12_isWayOf_2 : decode cX12_isWayOf 2 = .ok (.ldc2_w 417, 3) := by decide +kernel
theorem dX12_isWayOf_5 : decode cX12_isWayOf 5 = .ok (.ldc2_w 493, 3) := by decide +kernel
theorem dX12_isWayOf_8 : decode cX12_isWayOf 8 = .ok (.invokestatic 216, 3) := by decide +kernel
theorem dX12_isWayOf_11 : decode cX12_isWayOf 11 = .ok (.ifCond .eq 7, 3) := by decide +kernel
theorem dX12_isWayOf_14 : decode cX12_isWayOf 14 = .ok (.iload_n 2, 1) := by decide +kernel
theorem dX12_isWayOf_15 : decode cX12_isWayOf 15 = .ok (.ifCond .ge 5, 3) := by decide +kernel
theorem dX12_isWayOf_18 : decode cX12_isWayOf 18 = .ok (.iconst 0, 1) := by decide +kernel
theorem dX12_isWayOf_19 : decode cX12_isWayOf 19 = .ok (.ireturn, 1) := by decide +kernel
theorem dX12_isWayOf_20 : decode cX12_isWayOf 20 = .ok (.aload_n 0, 1) := by decide +kernel
theorem dX12_isWayOf_21 : decode cX12_isWayOf 21 = .ok (.invokevirtual 490, 3) := by decide +kernel
theorem dX12_isWayOf_24 : decode cX12_isWayOf 24 = .ok (.iload_n 1, 1) := by decide +kernel
theorem dX12_isWayOf_25 : decode cX12_isWayOf 25 = .ok (.iconst 2, 1) := by decide +kernel
theorem dX12_isWayOf_26 : decode cX12_isWayOf 26 = .ok (.if_icmp .ne 19, 3) := by decide +kernel
theorem dX12_isWayOf_29 : decode cX12_isWayOf 29 = .ok (.iload_n 2, 1) := by decide +kernel
theorem dX12_isWayOf_30 : decode cX12_isWayOf 30 = .ok (.aload_n 0, 1) := by decide +kernel
theorem dX12_isWayOf_31 : decode cX12_isWayOf 31 = .ok (.getfield 482, 3) := by decide +kernel
theorem dX12_isWayOf_34 : decode cX12_isWayOf 34 = .ok (.if_icmp .ge 7, 3) := by decide +kernel
theorem dX12_isWayOf_37 : decode cX12_isWayOf 37 = .ok (.iconst 1, 1) := by decide +kernel
theorem dX12_isWayOf_38 : decode cX12_isWayOf 38 = .ok (.goto 24, 3) := by decide +kernel
theorem dX12_isWayOf_41 : decode cX12_isWayOf 41 = .ok (.iconst 0, 1) := by decide +kernel
theorem dX12_isWayOf_42 : decode cX12_isWayOf 42 = .ok (.goto 20, 3) := by decide +kernel
theorem dX12_isWayOf_45 : decode cX12_isWayOf 45 = .ok (.aload_n 0, 1) := by decide +kernel
theorem dX12_isWayOf_46 : decode cX12_isWayOf 46 = .ok (.iload_n 1, 1) := by decide +kernel
theorem dX12_isWayOf_47 : decode cX12_isWayOf 47 = .ok (.iload_n 2, 1) := by decide +kernel
theorem dX12_isWayOf_48 : decode cX12_isWayOf 48 = .ok (.invokevirtual 495, 3) := by decide +kernel
theorem dX12_isWayOf_51 : decode cX12_isWayOf 51 = .ok (.iload_n 2, 1) := by decide +kernel
theorem dX12_isWayOf_52 : decode cX12_isWayOf 52 = .ok (.iconst 1, 1) := by decide +kernel
theorem dX12_isWayOf_53 : decode cX12_isWayOf 53 = .ok (.iadd, 1) := by decide +kernel
theorem dX12_isWayOf_54 : decode cX12_isWayOf 54 = .ok (.if_icmp .ne 7, 3) := by decide +kernel
theorem dX12_isWayOf_57 : decode cX12_isWayOf 57 = .ok (.iconst 1, 1) := by decide +kernel
theorem dX12_isWayOf_58 : decode cX12_isWayOf 58 = .ok (.goto 4, 3) := by decide +kernel
theorem dX12_isWayOf_61 : decode cX12_isWayOf 61 = .ok (.iconst 0, 1) := by decide +kernel
theorem dX12_isWayOf_62 : decode cX12_isWayOf 62 = .ok (.ireturn, 1) := by decide +kernel
theorem dX12_way_0 : decode cX12_way 0 = .ok (.aload_n 0, 1) := by decide +kernel
theorem dX12_way_1 : decode cX12_way 1 = .ok (.iload_n 1, 1) := by decide +kernel
theorem dX12_way_2 : decode cX12_way 2 = .ok (.iload_n 2, 1) := by decide +kernel
theorem dX12_way_3 : decode cX12_way 3 = .ok (.invokevirtual 498, 3) := by decide +kernel
theorem dX12_way_6 : decode cX12_way 6 = .ok (.ifCond .eq 16, 3) := by decide +kernel
theorem dX12_way_9 : decode cX12_way 9 = .ok (.iload_n 3, 1) := by decide +kernel
theorem dX12_way_10 : decode cX12_way 10 = .ok (.i2l, 1) := by decide +kernel
theorem dX12_way_11 : decode cX12_way 11 = .ok (.lconst 0, 1) := by decide +kernel
theorem dX12_way_12 : decode cX12_way 12 = .ok (.iload_n 1, 1) := by decide +kernel
theorem dX12_way_13 : decode cX12_way 13 = .ok (.iconst 2, 1) := by decide +kernel
theorem dX12_way_14 : decode cX12_way 14 = .ok (.isub, 1) := by decide +kernel
theorem dX12_way_15 : decode cX12_way 15 = .ok (.i2l, 1) := by decide +kernel
theorem dX12_way_16 : decode cX12_way 16 = .ok (.invokestatic 216, 3) := by decide +kernel
theorem dX12_way_19 : decode cX12_way 19 = .ok (.ifCond .ne 5, 3) := by decide +kernel
theorem dX12_way_22 : decode cX12_way 22 = .ok (.iconst (-1), 1) := by decide +kernel
theorem dX12_way_23 : decode cX12_way 23 = .ok (.ireturn, 1) := by decide +kernel
theorem dX12_way_24 : decode cX12_way 24 = .ok (.aload_n 0, 1) := by decide +kernel
theorem dX12_way_25 : decode cX12_way 25 = .ok (.iload_n 1, 1) := by decide +kernel
theorem dX12_way_26 : decode cX12_way 26 = .ok (.iload_n 2, 1) := by decide +kernel
theorem dX12_way_27 : decode cX12_way 27 = .ok (.invokevirtual 495, 3) := by decide +kernel
theorem dX12_way_30 : decode cX12_way 30 = .ok (.istore 4, 2) := by decide +kernel
theorem dX12_way_32 : decode cX12_way 32 = .ok (.aload_n 0, 1) := by decide +kernel
theorem dX12_way_33 : decode cX12_way 33 = .ok (.getfield 145, 3) := by decide +kernel
theorem dX12_way_36 : decode cX12_way 36 = .ok (.aload_n 0, 1) := by decide +kernel
theorem dX12_way_37 : decode cX12_way 37 = .ok (.getfield 152, 3) := by decide +kernel
theorem dX12_way_40 : decode cX12_way 40 = .ok (.iload_n 3, 1) := by decide +kernel
theorem dX12_way_41 : decode cX12_way 41 = .ok (.iaload, 1) := by decide +kernel
theorem dX12_way_42 : decode cX12_way 42 = .ok (.iaload, 1) := by decide +kernel
theorem dX12_way_43 : decode cX12_way 43 = .ok (.ireturn, 1) := by decide +kernel
theorem dX12_isWay_0 : decode cX12_isWay 0 = .ok (.aload_n 0, 1) := by decide +kernel
theorem dX12_isWay_1 : decode cX12_isWay 1 = .ok (.invokevirtual 490, 3) := by decide +kernel
theorem dX12_isWay_4 : decode cX12_isWay 4 = .ok (.iload_n 1, 1) := by decide +kernel
theorem dX12_isWay_5 : decode cX12_isWay 5 = .ok (.i2l, 1) := by decide +kernel
theorem dX12_isWay_6 : decode cX12_isWay 6 = .ok (.lconst 0, 1) := by decide +kernel
theorem dX12_isWay_7 : decode cX12_isWay 7 = .ok (.aload_n 0, 1) := by decide +kernel
theorem dX12_isWay_8 : decode cX12_isWay 8 = .ok (.getfield 482, 3) := by decide +kernel
theorem dX12_isWay_11 : decode cX12_isWay 11 = .ok (.iconst 1, 1) := by decide +kernel
theorem dX12_isWay_12 : decode cX12_isWay 12 = .ok (.isub, 1) := by decide +kernel
theorem dX12_isWay_13 : decode cX12_isWay 13 = .ok (.i2l, 1) := by decide +kernel
theorem dX12_isWay_14 : decode cX12_isWay 14 = .ok (.invokestatic 216, 3) := by decide +kernel
theorem dX12_isWay_17 : decode cX12_isWay 17 = .ok (.ireturn, 1) := by decide +kernel
theorem dX12_isLike_0 : decode cX12_isLike 0 = .ok (.iload_n 2, 1) := by decide +kernel
theorem dX12_isLike_1 : decode cX12_isLike 1 = .ok (.iconst 2, 1) := by decide +kernel
theorem dX12_isLike_2 : decode cX12_isLike 2 = .ok (.irem, 1) := by decide +kernel
theorem dX12_isLike_3 : decode cX12_isLike 3 = .ok (.iconst 1, 1) := by decide +kernel
theorem dX12_isLike_4 : decode cX12_isLike 4 = .ok (.if_icmp .ne 14, 3) := by decide +kernel
theorem dX12_isLike_7 : decode cX12_isLike 7 = .ok (.iload_n 0, 1) := by decide +kernel
theorem dX12_isLike_8 : decode cX12_isLike 8 = .ok (.invokestatic 389, 3) := by decide +kernel
theorem dX12_isLike_11 : decode cX12_isLike 11 = .ok (.iload_n 1, 1) := by decide +kernel
theorem dX12_isLike_12 : decode cX12_isLike 12 = .ok (.invokestatic 389, 3) := by decide +kernel
theorem dX12_isLike_15 : decode cX12_isLike 15 = .ok (.if_icmp .ne 23, 3) := by decide +kernel
theorem dX12_isLike_18 : decode cX12_isLike 18 = .ok (.iload_n 2, 1) := by decide +kernel
theorem dX12_isLike_19 : decode cX12_isLike 19 = .ok (.iconst 2, 1) := by decide +kernel
theorem dX12_isLike_20 : decode cX12_isLike 20 = .ok (.idiv, 1) := by decide +kernel
theorem dX12_isLike_21 : decode cX12_isLike 21 = .ok (.iconst 2, 1) := by decide +kernel
theorem dX12_isLike_22 : decode cX12_isLike 22 = .ok (.irem, 1) := by decide +kernel
theorem dX12_isLike_23 : decode cX12_isLike 23 = .ok (.iconst 1, 1) := by decide +kernel
theorem dX12_isLike_24 : decode cX12_isLike 24 = .ok (.if_icmp .ne 16, 3) := by decide +kernel
theorem dX12_isLike_27 : decode cX12_isLike 27 = .ok (.iload_n 0, 1) := by decide +kernel
theorem dX12_isLike_28 : decode cX12_isLike 28 = .ok (.invokestatic 402, 3) := by decide +kernel
theorem dX12_isLike_31 : decode cX12_isLike 31 = .ok (.iload_n 1, 1) := by decide +kernel
theorem dX12_isLike_32 : decode cX12_isLike 32 = .ok (.invokestatic 402, 3) := by decide +kernel
theorem dX12_isLike_35 : decode cX12_isLike 35 = .ok (.if_icmp .eq 5, 3) := by decide +kernel
theorem dX12_isLike_38 : decode cX12_isLike 38 = .ok (.iconst 0, 1) := by decide +kernel
theorem dX12_isLike_39 : decode cX12_isLike 39 = .ok (.ireturn, 1) := by decide +kernel
theorem dX12_isLike_40 : decode cX12_isLike 40 = .ok (.iload_n 2, 1) := by decide +kernel
theorem dX12_isLike_41 : decode cX12_isLike 41 = .ok (.iconst 4, 1) := by decide +kernel
theorem dX12_isLike_42 : decode cX12_isLike 42 = .ok (.idiv, 1) := by decide +kernel
theorem dX12_isLike_43 : decode cX12_isLike 43 = .ok (.iconst 2, 1) := by decide +kernel
theorem dX12_isLike_44 : decode cX12_isLike 44 = .ok (.irem, 1) := by decide +kernel
theorem dX12_isLike_45 : decode cX12_isLike 45 = .ok (.iconst 1, 1) := by decide +kernel
theorem dX12_isLike_46 : decode cX12_isLike 46 = .ok (.if_icmp .ne 14, 3) := by decide +kernel
theorem dX12_isLike_49 : decode cX12_isLike 49 = .ok (.iload_n 0, 1) := by decide +kernel
theorem dX12_isLike_50 : decode cX12_isLike 50 = .ok (.invokestatic 399, 3) := by decide +kernel
theorem dX12_isLike_53 : decode cX12_isLike 53 = .ok (.iload_n 1, 1) := by decide +kernel
theorem dX12_isLike_54 : decode cX12_isLike 54 = .ok (.invokestatic 399, 3) := by decide +kernel
theorem dX12_isLike_57 : decode cX12_isLike 57 = .ok (.if_icmp .ne 24, 3) := by decide +kernel
theorem dX12_isLike_60 : decode cX12_isLike 60 = .ok (.iload_n 2, 1) := by decide +kernel
theorem dX12_isLike_61 : decode cX12_isLike 61 = .ok (.bipush 8, 2) := by decide +kernel
theorem dX12_isLike_63 : decode cX12_isLike 63 = .ok (.idiv, 1) := by decide +kernel
theorem dX12_isLike_64 : decode cX12_isLike 64 = .ok (.iconst 2, 1) := by decide +kernel
theorem dX12_isLike_65 : decode cX12_isLike 65 = .ok (.irem, 1) := by decide +kernel
theorem dX12_isLike_66 : decode cX12_isLike 66 = .ok (.iconst 1, 1) := by decide +kernel
theorem dX12_isLike_67 : decode cX12_isLike 67 = .ok (.if_icmp .ne 16, 3) := by decide +kernel
theorem dX12_isLike_70 : decode cX12_isLike 70 = .ok (.iload_n 0, 1) := by decide +kernel
theorem dX12_isLike_71 : decode cX12_isLike 71 = .ok (.invokestatic 395, 3) := by decide +kernel
theorem dX12_isLike_74 : decode cX12_isLike 74 = .ok (.iload_n 1, 1) := by decide +kernel
theorem dX12_isLike_75 : decode cX12_isLike 75 = .ok (.invokestatic 395, 3) := by decide +kernel
theorem dX12_isLike_78 : decode cX12_isLike 78 = .ok (.if_icmp .eq 5, 3) := by decide +kernel
theorem dX12_isLike_81 : decode cX12_isLike 81 = .ok (.iconst 0, 1) := by decide +kernel
theorem dX12_isLike_82 : decode cX12_isLike 82 = .ok (.ireturn, 1) := by decide +kernel
theorem dX12_isLike_83 : decode cX12_isLike 83 = .ok (.iload_n 2, 1) := by decide +kernel
theorem dX12_isLike_84 : decode cX12_isLike 84 = .ok (.bipush 16, 2) := by decide +kernel
theorem dX12_isLike_86 : decode cX12_isLike 86 = .ok (.idiv, 1) := by decide +kernel
theorem dX12_isLike_87 : decode cX12_isLike 87 = .ok (.iconst 2, 1) := by decide +kernel
theorem dX12_isLike_88 : decode cX12_isLike 88 = .ok (.irem, 1) := by decide +kernel
theorem dX12_isLike_89 : decode cX12_isLike 89 = .ok (.ifCond .eq 14, 3) := by decide +kernel
theorem dX12_isLike_92 : decode cX12_isLike 92 = .ok (.iload_n 0, 1) := by decide +kernel
theorem dX12_isLike_93 : decode cX12_isLike 93 = .ok (.invokestatic 385, 3) := by decide +kernel
theorem dX12_isLike_96 : decode cX12_isLike 96 = .ok (.iload_n 1, 1) := by decide +kernel
theorem dX12_isLike_97 : decode cX12_isLike 97 = .ok (.invokestatic 385, 3) := by decide +kernel
theorem dX12_isLike_100 : decode cX12_isLike 100 = .ok (.if_icmp .ne 7, 3) := by decide +kernel
theorem dX12_isLike_103 : decode cX12_isLike 103 = .ok (.iconst 1, 1) := by decide +kernel
theorem dX12_isLike_104 : decode cX12_isLike 104 = .ok (.goto 4, 3) := by decide +kernel
theorem dX12_isLike_107 : decode cX12_isLike 107 = .ok (.iconst 0, 1) := by decide +kernel
theorem dX12_isLike_108 : decode cX12_isLike 108 = .ok (.ireturn, 1) := by decide +kernel
theorem dX12_likeMany_0 : decode cX12_likeMany 0 = .ok (.iconst 0, 1) := by decide +kernel
theorem dX12_likeMany_1 : decode cX12_likeMany 1 = .ok (.istore_n 3, 1) := by decide +kernel
theorem dX12_likeMany_2 : decode cX12_likeMany 2 = .ok (.iconst 0, 1) := by decide +kernel
theorem dX12_likeMany_3 : decode cX12_likeMany 3 = .ok (.istore 4, 2) := by decide +kernel
theorem dX12_likeMany_5 : decode cX12_likeMany 5 = .ok (.iload 4, 2) := by decide +kernel
theorem dX12_likeMany_7 : decode cX12_likeMany 7 = .ok (.aload_n 0, 1) := by decide +kernel
theorem dX12_likeMany_8 : decode cX12_likeMany 8 = .ok (.getfield 482, 3) := by decide +kernel
theorem dX12_likeMany_11 : decode cX12_likeMany 11 = .ok (.if_icmp .ge 32, 3) := by decide +kernel
theorem dX12_likeMany_14 : decode cX12_likeMany 14 = .ok (.aload_n 0, 1) := by decide +kernel
theorem dX12_likeMany_15 : decode cX12_likeMany 15 = .ok (.getfield 145, 3) := by decide +kernel
theorem dX12_likeMany_18 : decode cX12_likeMany 18 = .ok (.iload 4, 2) := by decide +kernel
theorem dX12_likeMany_20 : decode cX12_likeMany 20 = .ok (.iaload, 1) := by decide +kernel
theorem dX12_likeMany_21 : decode cX12_likeMany 21 = .ok (.aload_n 0, 1) := by decide +kernel
theorem dX12_likeMany_22 : decode cX12_likeMany 22 = .ok (.getfield 145, 3) := by decide +kernel
theorem dX12_likeMany_25 : decode cX12_likeMany 25 = .ok (.iload_n 1, 1) := by decide +kernel
theorem dX12_likeMany_26 : decode cX12_likeMany 26 = .ok (.iaload, 1) := by decide +kernel
theorem dX12_likeMany_27 : decode cX12_likeMany 27 = .ok (.iload_n 2, 1) := by decide +kernel
theorem dX12_likeMany_28 : decode cX12_likeMany 28 = .ok (.invokestatic 501, 3) := by decide +kernel
theorem dX12_likeMany_31 : decode cX12_likeMany 31 = .ok (.ifCond .eq 6, 3) := by decide +kernel
theorem dX12_likeMany_34 : decode cX12_likeMany 34 = .ok (.iinc 3 1, 3) := by decide +kernel
theorem dX12_likeMany_37 : decode cX12_likeMany 37 = .ok (.iinc 4 1, 3) := by decide +kernel
theorem dX12_likeMany_40 : decode cX12_likeMany 40 = .ok (.goto (-35), 3) := by decide +kernel
theorem dX12_likeMany_43 : decode cX12_likeMany 43 = .ok (.iload_n 3, 1) := by decide +kernel
theorem dX12_likeMany_44 : decode cX12_likeMany 44 = .ok (.ireturn, 1) := by decide +kernel
theorem dX12_bits_0 : decode cX12_bits 0 = .ok (.iconst 0, 1) := by decide +kernel
theorem dX12_bits_1 : decode cX12_bits 1 = .ok (.istore_n 1, 1) := by decide +kernel
theorem dX12_bits_2 : decode cX12_bits 2 = .ok (.iload_n 0, 1) := by decide +kernel
theorem dX12_bits_3 : decode cX12_bits 3 = .ok (.istore_n 2, 1) := by decide +kernel
theorem dX12_bits_4 : decode cX12_bits 4 = .ok (.iload_n 2, 1) := by decide +kernel
theorem dX12_bits_5 : decode cX12_bits 5 = .ok (.ifCond .eq 15, 3) := by decide +kernel
theorem dX12_bits_8 : decode cX12_bits 8 = .ok (.iinc 1 1, 3) := by decide +kernel
theorem dX12_bits_11 : decode cX12_bits 11 = .ok (.iload_n 2, 1) := by decide +kernel
theorem dX12_bits_12 : decode cX12_bits 12 = .ok (.iload_n 2, 1) := by decide +kernel
theorem dX12_bits_13 : decode cX12_bits 13 = .ok (.iconst 1, 1) := by decide +kernel
theorem dX12_bits_14 : decode cX12_bits 14 = .ok (.isub, 1) := by decide +kernel
theorem dX12_bits_15 : decode cX12_bits 15 = .ok (.iand, 1) := by decide +kernel
theorem dX12_bits_16 : decode cX12_bits 16 = .ok (.istore_n 2, 1) := by decide +kernel
theorem dX12_bits_17 : decode cX12_bits 17 = .ok (.goto (-13), 3) := by decide +kernel
theorem dX12_bits_20 : decode cX12_bits 20 = .ok (.iload_n 1, 1) := by decide +kernel
theorem dX12_bits_21 : decode cX12_bits 21 = .ok (.ireturn, 1) := by decide +kernel
theorem dX12_signs_0 : decode cX12_signs 0 = .ok (.aload_n 0, 1) := by decide +kernel
theorem dX12_signs_1 : decode cX12_signs 1 = .ok (.iload_n 1, 1) := by decide +kernel
theorem dX12_signs_2 : decode cX12_signs 2 = .ok (.invokevirtual 505, 3) := by decide +kernel
theorem dX12_signs_5 : decode cX12_signs 5 = .ok (.ifCond .ne 5, 3) := by decide +kernel
theorem dX12_signs_8 : decode cX12_signs 8 = .ok (.iconst (-1), 1) := by decide +kernel
theorem dX12_signs_9 : decode cX12_signs 9 = .ok (.ireturn, 1) := by decide +kernel
theorem dX12_signs_10 : decode cX12_signs 10 = .ok (.bipush 31, 2) := by decide +kernel
theorem dX12_signs_12 : decode cX12_signs 12 = .ok (.istore_n 2, 1) := by decide +kernel
theorem dX12_signs_13 : decode cX12_signs 13 = .ok (.iconst 0, 1) := by decide +kernel
theorem dX12_signs_14 : decode cX12_signs 14 = .ok (.istore_n 3, 1) := by decide +kernel
theorem dX12_signs_15 : decode cX12_signs 15 = .ok (.iload_n 3, 1) := by decide +kernel
theorem dX12_signs_16 : decode cX12_signs 16 = .ok (.bipush 32, 2) := by decide +kernel
theorem dX12_signs_18 : decode cX12_signs 18 = .ok (.if_icmp .ge 32, 3) := by decide +kernel
theorem dX12_signs_21 : decode cX12_signs 21 = .ok (.iload_n 3, 1) := by decide +kernel
theorem dX12_signs_22 : decode cX12_signs 22 = .ok (.invokestatic 508, 3) := by decide +kernel
theorem dX12_signs_25 : decode cX12_signs 25 = .ok (.iload_n 2, 1) := by decide +kernel
theorem dX12_signs_26 : decode cX12_signs 26 = .ok (.invokestatic 508, 3) := by decide +kernel
theorem dX12_signs_29 : decode cX12_signs 29 = .ok (.if_icmp .ge 15, 3) := by decide +kernel
theorem dX12_signs_32 : decode cX12_signs 32 = .ok (.aload_n 0, 1) := by decide +kernel
theorem dX12_signs_33 : decode cX12_signs 33 = .ok (.iload_n 1, 1) := by decide +kernel
theorem dX12_signs_34 : decode cX12_signs 34 = .ok (.iload_n 3, 1) := by decide +kernel
theorem dX12_signs_35 : decode cX12_signs 35 = .ok (.invokevirtual 511, 3) := by decide +kernel
theorem dX12_signs_38 : decode cX12_signs 38 = .ok (.iconst 1, 1) := by decide +kernel
theorem dX12_signs_39 : decode cX12_signs 39 = .ok (.if_icmp .ne 5, 3) := by decide +kernel
theorem dX12_signs_42 : decode cX12_signs 42 = .ok (.iload_n 3, 1) := by decide +kernel
theorem dX12_signs_43 : decode cX12_signs 43 = .ok (.istore_n 2, 1) := by decide +kernel
theorem dX12_signs_44 : decode cX12_signs 44 = .ok (.iinc 3 1, 3) := by decide +kernel
theorem dX12_signs_47 : decode cX12_signs 47 = .ok (.goto (-32), 3) := by decide +kernel
theorem dX12_signs_50 : decode cX12_signs 50 = .ok (.iload_n 2, 1) := by decide +kernel
theorem dX12_signs_51 : decode cX12_signs 51 = .ok (.ireturn, 1) := by decide +kernel
theorem dX12_like_0 : decode cX12_like 0 = .ok (.aload_n 0, 1) := by decide +kernel
theorem dX12_like_1 : decode cX12_like 1 = .ok (.iload_n 1, 1) := by decide +kernel
theorem dX12_like_2 : decode cX12_like 2 = .ok (.invokevirtual 505, 3) := by decide +kernel
theorem dX12_like_5 : decode cX12_like 5 = .ok (.ifCond .eq 24, 3) := by decide +kernel
theorem dX12_like_8 : decode cX12_like 8 = .ok (.iload_n 2, 1) := by decide +kernel
theorem dX12_like_9 : decode cX12_like 9 = .ok (.i2l, 1) := by decide +kernel
theorem dX12_like_10 : decode cX12_like 10 = .ok (.lconst 0, 1) := by decide +kernel
theorem dX12_like_11 : decode cX12_like 11 = .ok (.ldc2_w 514, 3) := by decide +kernel
theorem dX12_like_14 : decode cX12_like 14 = .ok (.invokestatic 216, 3) := by decide +kernel
theorem dX12_like_17 : decode cX12_like 17 = .ok (.ifCond .eq 12, 3) := by decide +kernel
theorem dX12_like_20 : decode cX12_like 20 = .ok (.aload_n 0, 1) := by decide +kernel
theorem dX12_like_21 : decode cX12_like 21 = .ok (.iload_n 1, 1) := by decide +kernel
theorem dX12_like_22 : decode cX12_like 22 = .ok (.iload_n 2, 1) := by decide +kernel
theorem dX12_like_23 : decode cX12_like 23 = .ok (.invokevirtual 511, 3) := by decide +kernel
theorem dX12_like_26 : decode cX12_like 26 = .ok (.goto 4, 3) := by decide +kernel
theorem dX12_like_29 : decode cX12_like 29 = .ok (.iconst (-1), 1) := by decide +kernel
theorem dX12_like_30 : decode cX12_like 30 = .ok (.ireturn, 1) := by decide +kernel
theorem dX12_isMeant_0 : decode cX12_isMeant 0 = .ok (.aload_n 0, 1) := by decide +kernel
theorem dX12_isMeant_1 : decode cX12_isMeant 1 = .ok (.getfield 133, 3) := by decide +kernel
theorem dX12_isMeant_4 : decode cX12_isMeant 4 = .ok (.iconst 0, 1) := by decide +kernel
theorem dX12_isMeant_5 : decode cX12_isMeant 5 = .ok (.iload_n 2, 1) := by decide +kernel
theorem dX12_isMeant_6 : decode cX12_isMeant 6 = .ok (.invokestatic 389, 3) := by decide +kernel
theorem dX12_isMeant_9 : decode cX12_isMeant 9 = .ok (.iastore, 1) := by decide +kernel
theorem dX12_isMeant_10 : decode cX12_isMeant 10 = .ok (.aload_n 0, 1) := by decide +kernel
theorem dX12_isMeant_11 : decode cX12_isMeant 11 = .ok (.getfield 133, 3) := by decide +kernel
theorem dX12_isMeant_14 : decode cX12_isMeant 14 = .ok (.iconst 1, 1) := by decide +kernel
theorem dX12_isMeant_15 : decode cX12_isMeant 15 = .ok (.iload_n 2, 1) := by decide +kernel
theorem dX12_isMeant_16 : decode cX12_isMeant 16 = .ok (.invokestatic 402, 3) := by decide +kernel
theorem dX12_isMeant_19 : decode cX12_isMeant 19 = .ok (.iastore, 1) := by decide +kernel
theorem dX12_isMeant_20 : decode cX12_isMeant 20 = .ok (.aload_n 0, 1) := by decide +kernel
theorem dX12_isMeant_21 : decode cX12_isMeant 21 = .ok (.getfield 133, 3) := by decide +kernel
theorem dX12_isMeant_24 : decode cX12_isMeant 24 = .ok (.iconst 2, 1) := by decide +kernel
theorem dX12_isMeant_25 : decode cX12_isMeant 25 = .ok (.iload_n 2, 1) := by decide +kernel
theorem dX12_isMeant_26 : decode cX12_isMeant 26 = .ok (.invokestatic 399, 3) := by decide +kernel
theorem dX12_isMeant_29 : decode cX12_isMeant 29 = .ok (.iastore, 1) := by decide +kernel
theorem dX12_isMeant_30 : decode cX12_isMeant 30 = .ok (.aload_n 0, 1) := by decide +kernel
theorem dX12_isMeant_31 : decode cX12_isMeant 31 = .ok (.getfield 133, 3) := by decide +kernel
theorem dX12_isMeant_34 : decode cX12_isMeant 34 = .ok (.iconst 3, 1) := by decide +kernel
theorem dX12_isMeant_35 : decode cX12_isMeant 35 = .ok (.iload_n 2, 1) := by decide +kernel
theorem dX12_isMeant_36 : decode cX12_isMeant 36 = .ok (.invokestatic 395, 3) := by decide +kernel
theorem dX12_isMeant_39 : decode cX12_isMeant 39 = .ok (.iastore, 1) := by decide +kernel
theorem dX12_isMeant_40 : decode cX12_isMeant 40 = .ok (.aload_n 0, 1) := by decide +kernel
theorem dX12_isMeant_41 : decode cX12_isMeant 41 = .ok (.getfield 133, 3) := by decide +kernel
theorem dX12_isMeant_44 : decode cX12_isMeant 44 = .ok (.iconst 4, 1) := by decide +kernel
theorem dX12_isMeant_45 : decode cX12_isMeant 45 = .ok (.iload_n 2, 1) := by decide +kernel
theorem dX12_isMeant_46 : decode cX12_isMeant 46 = .ok (.invokestatic 385, 3) := by decide +kernel
theorem dX12_isMeant_49 : decode cX12_isMeant 49 = .ok (.iastore, 1) := by decide +kernel
theorem dX12_isMeant_50 : decode cX12_isMeant 50 = .ok (.aload_n 0, 1) := by decide +kernel
theorem dX12_isMeant_51 : decode cX12_isMeant 51 = .ok (.iconst 1, 1) := by decide +kernel
theorem dX12_isMeant_52 : decode cX12_isMeant 52 = .ok (.iload_n 1, 1) := by decide +kernel
theorem dX12_isMeant_53 : decode cX12_isMeant 53 = .ok (.invokevirtual 449, 3) := by decide +kernel
theorem dX12_isMeant_56 : decode cX12_isMeant 56 = .ok (.ireturn, 1) := by decide +kernel
theorem dX12_isOfMottos_0 : decode cX12_isOfMottos 0 = .ok (.iload_n 1, 1) := by decide +kernel
theorem dX12_isOfMottos_1 : decode cX12_isOfMottos 1 = .ok (.i2l, 1) := by decide +kernel
theorem dX12_isOfMottos_2 : decode cX12_isOfMottos 2 = .ok (.lconst 0, 1) := by decide +kernel
theorem dX12_isOfMottos_3 : decode cX12_isOfMottos 3 = .ok (.aload_n 0, 1) := by decide +kernel
theorem dX12_isOfMottos_4 : decode cX12_isOfMottos 4 = .ok (.getfield 114, 3) := by decide +kernel
theorem dX12_isOfMottos_7 : decode cX12_isOfMottos 7 = .ok (.iconst 1, 1) := by decide +kernel
theorem dX12_isOfMottos_8 : decode cX12_isOfMottos 8 = .ok (.iaload, 1) := by decide +kernel
theorem dX12_isOfMottos_9 : decode cX12_isOfMottos 9 = .ok (.iconst 1, 1) := by decide +kernel
theorem dX12_isOfMottos_10 : decode cX12_isOfMottos 10 = .ok (.isub, 1) := by decide +kernel
theorem dX12_isOfMottos_11 : decode cX12_isOfMottos 11 = .ok (.i2l, 1) := by decide +kernel
theorem dX12_isOfMottos_12 : decode cX12_isOfMottos 12 = .ok (.invokestatic 216, 3) := by decide +kernel
theorem dX12_isOfMottos_15 : decode cX12_isOfMottos 15 = .ok (.ireturn, 1) := by decide +kernel
theorem dX12_means_0 : decode cX12_means 0 = .ok (.aload_n 0, 1) := by decide +kernel
theorem dX12_means_1 : decode cX12_means 1 = .ok (.iload_n 1, 1) := by decide +kernel
theorem dX12_means_2 : decode cX12_means 2 = .ok (.invokevirtual 516, 3) := by decide +kernel
theorem dX12_means_5 : decode cX12_means 5 = .ok (.ifCond .eq 8, 3) := by decide +kernel
theorem dX12_means_8 : decode cX12_means 8 = .ok (.iload_n 2, 1) := by decide +kernel
theorem dX12_means_9 : decode cX12_means 9 = .ok (.iconst (-1), 1) := by decide +kernel
theorem dX12_means_10 : decode cX12_means 10 = .ok (.if_icmp .ge 5, 3) := by decide +kernel
theorem dX12_means_13 : decode cX12_means 13 = .ok (.iconst (-1), 1) := by decide +kernel
theorem dX12_means_14 : decode cX12_means 14 = .ok (.ireturn, 1) := by decide +kernel
theorem dX12_means_15 : decode cX12_means 15 = .ok (.aload_n 0, 1) := by decide +kernel
theorem dX12_means_16 : decode cX12_means 16 = .ok (.invokevirtual 490, 3) := by decide +kernel
theorem dX12_means_19 : decode cX12_means 19 = .ok (.iconst 0, 1) := by decide +kernel
theorem dX12_means_20 : decode cX12_means 20 = .ok (.istore_n 3, 1) := by decide +kernel
theorem dX12_means_21 : decode cX12_means 21 = .ok (.iconst 0, 1) := by decide +kernel
theorem dX12_means_22 : decode cX12_means 22 = .ok (.istore 4, 2) := by decide +kernel
theorem dX12_means_24 : decode cX12_means 24 = .ok (.iload 4, 2) := by decide +kernel
theorem dX12_means_26 : decode cX12_means 26 = .ok (.aload_n 0, 1) := by decide +kernel
theorem dX12_means_27 : decode cX12_means 27 = .ok (.getfield 482, 3) := by decide +kernel
theorem dX12_means_30 : decode cX12_means 30 = .ok (.if_icmp .ge 38, 3) := by decide +kernel
theorem dX12_means_33 : decode cX12_means 33 = .ok (.aload_n 0, 1) := by decide +kernel
theorem dX12_means_34 : decode cX12_means 34 = .ok (.iload_n 1, 1) := by decide +kernel
theorem dX12_means_35 : decode cX12_means 35 = .ok (.aload_n 0, 1) := by decide +kernel
theorem dX12_means_36 : decode cX12_means 36 = .ok (.getfield 145, 3) := by decide +kernel
theorem dX12_means_39 : decode cX12_means 39 = .ok (.iload 4, 2) := by decide +kernel
theorem dX12_means_41 : decode cX12_means 41 = .ok (.iaload, 1) := by decide +kernel
theorem dX12_means_42 : decode cX12_means 42 = .ok (.invokevirtual 519, 3) := by decide +kernel
theorem dX12_means_45 : decode cX12_means 45 = .ok (.ifCond .ne 6, 3) := by decide +kernel
theorem dX12_means_48 : decode cX12_means 48 = .ok (.goto 14, 3) := by decide +kernel
theorem dX12_means_51 : decode cX12_means 51 = .ok (.iload_n 3, 1) := by decide +kernel
theorem dX12_means_52 : decode cX12_means 52 = .ok (.iload_n 2, 1) := by decide +kernel
theorem dX12_means_53 : decode cX12_means 53 = .ok (.if_icmp .ne 6, 3) := by decide +kernel
theorem dX12_means_56 : decode cX12_means 56 = .ok (.iload 4, 2) := by decide +kernel
theorem dX12_means_58 : decode cX12_means 58 = .ok (.ireturn, 1) := by decide +kernel
theorem dX12_means_59 : decode cX12_means 59 = .ok (.iinc 3 1, 3) := by decide +kernel
theorem dX12_means_62 : decode cX12_means 62 = .ok (.iinc 4 1, 3) := by decide +kernel
theorem dX12_means_65 : decode cX12_means 65 = .ok (.goto (-41), 3) := by decide +kernel
theorem dX12_means_68 : decode cX12_means 68 = .ok (.iload_n 2, 1) := by decide +kernel
theorem dX12_means_69 : decode cX12_means 69 = .ok (.iconst (-1), 1) := by decide +kernel
theorem dX12_means_70 : decode cX12_means 70 = .ok (.if_icmp .ne 7, 3) := by decide +kernel
theorem dX12_means_73 : decode cX12_means 73 = .ok (.iload_n 3, 1) := by decide +kernel
theorem dX12_means_74 : decode cX12_means 74 = .ok (.goto 4, 3) := by decide +kernel
theorem dX12_means_77 : decode cX12_means 77 = .ok (.iconst (-1), 1) := by decide +kernel
theorem dX12_means_78 : decode cX12_means 78 = .ok (.ireturn, 1) := by decide +kernel
theorem dX12_isMeantByAll_0 : decode cX12_isMeantByAll 0 = .ok (.iconst 0, 1) := by decide +kernel
theorem dX12_isMeantByAll_1 : decode cX12_isMeantByAll 1 = .ok (.istore_n 3, 1) := by decide +kernel
theorem dX12_isMeantByAll_2 : decode cX12_isMeantByAll 2 = .ok (.iload_n 3, 1) := by decide +kernel
theorem dX12_isMeantByAll_3 : decode cX12_isMeantByAll 3 = .ok (.aload_n 0, 1) := by decide +kernel
theorem dX12_isMeantByAll_4 : decode cX12_isMeantByAll 4 = .ok (.getfield 114, 3) := by decide +kernel
theorem dX12_isMeantByAll_7 : decode cX12_isMeantByAll 7 = .ok (.iconst 1, 1) := by decide +kernel
theorem dX12_isMeantByAll_8 : decode cX12_isMeantByAll 8 = .ok (.iaload, 1) := by decide +kernel
theorem dX12_isMeantByAll_9 : decode cX12_isMeantByAll 9 = .ok (.if_icmp .ge 29, 3) := by decide +kernel
theorem dX12_isMeantByAll_12 : decode cX12_isMeantByAll 12 = .ok (.iload_n 1, 1) := by decide +kernel
theorem dX12_isMeantByAll_13 : decode cX12_isMeantByAll 13 = .ok (.iload_n 3, 1) := by decide +kernel
theorem dX12_isMeantByAll_14 : decode cX12_isMeantByAll 14 = .ok (.ishr, 1) := by decide +kernel
theorem dX12_isMeantByAll_15 : decode cX12_isMeantByAll 15 = .ok (.iconst 1, 1) := by decide +kernel
theorem dX12_isMeantByAll_16 : decode cX12_isMeantByAll 16 = .ok (.iand, 1) := by decide +kernel
theorem dX12_isMeantByAll_17 : decode cX12_isMeantByAll 17 = .ok (.iconst 1, 1) := by decide +kernel
theorem dX12_isMeantByAll_18 : decode cX12_isMeantByAll 18 = .ok (.if_icmp .ne 14, 3) := by decide +kernel
theorem dX12_isMeantByAll_21 : decode cX12_isMeantByAll 21 = .ok (.aload_n 0, 1) := by decide +kernel
theorem dX12_isMeantByAll_22 : decode cX12_isMeantByAll 22 = .ok (.iload_n 3, 1) := by decide +kernel
theorem dX12_isMeantByAll_23 : decode cX12_isMeantByAll 23 = .ok (.iload_n 2, 1) := by decide +kernel
theorem dX12_isMeantByAll_24 : decode cX12_isMeantByAll 24 = .ok (.invokevirtual 519, 3) := by decide +kernel
theorem dX12_isMeantByAll_27 : decode cX12_isMeantByAll 27 = .ok (.ifCond .ne 5, 3) := by decide +kernel
theorem dX12_isMeantByAll_30 : decode cX12_isMeantByAll 30 = .ok (.iconst 0, 1) := by decide +kernel
theorem dX12_isMeantByAll_31 : decode cX12_isMeantByAll 31 = .ok (.ireturn, 1) := by decide +kernel
theorem dX12_isMeantByAll_32 : decode cX12_isMeantByAll 32 = .ok (.iinc 3 1, 3) := by decide +kernel
theorem dX12_isMeantByAll_35 : decode cX12_isMeantByAll 35 = .ok (.goto (-33), 3) := by decide +kernel
theorem dX12_isMeantByAll_38 : decode cX12_isMeantByAll 38 = .ok (.iconst 1, 1) := by decide +kernel
theorem dX12_isMeantByAll_39 : decode cX12_isMeantByAll 39 = .ok (.ireturn, 1) := by decide +kernel
theorem dX12_meanMany_0 : decode cX12_meanMany 0 = .ok (.iconst 0, 1) := by decide +kernel
theorem dX12_meanMany_1 : decode cX12_meanMany 1 = .ok (.istore_n 2, 1) := by decide +kernel
theorem dX12_meanMany_2 : decode cX12_meanMany 2 = .ok (.iconst 0, 1) := by decide +kernel
theorem dX12_meanMany_3 : decode cX12_meanMany 3 = .ok (.istore_n 3, 1) := by decide +kernel
theorem dX12_meanMany_4 : decode cX12_meanMany 4 = .ok (.iload_n 3, 1) := by decide +kernel
theorem dX12_meanMany_5 : decode cX12_meanMany 5 = .ok (.aload_n 0, 1) := by decide +kernel
theorem dX12_meanMany_6 : decode cX12_meanMany 6 = .ok (.getfield 482, 3) := by decide +kernel
theorem dX12_meanMany_9 : decode cX12_meanMany 9 = .ok (.if_icmp .ge 26, 3) := by decide +kernel
theorem dX12_meanMany_12 : decode cX12_meanMany 12 = .ok (.aload_n 0, 1) := by decide +kernel
theorem dX12_meanMany_13 : decode cX12_meanMany 13 = .ok (.iload_n 1, 1) := by decide +kernel
theorem dX12_meanMany_14 : decode cX12_meanMany 14 = .ok (.aload_n 0, 1) := by decide +kernel
theorem dX12_meanMany_15 : decode cX12_meanMany 15 = .ok (.getfield 145, 3) := by decide +kernel
theorem dX12_meanMany_18 : decode cX12_meanMany 18 = .ok (.iload_n 3, 1) := by decide +kernel
theorem dX12_meanMany_19 : decode cX12_meanMany 19 = .ok (.iaload, 1) := by decide +kernel
theorem dX12_meanMany_20 : decode cX12_meanMany 20 = .ok (.invokevirtual 522, 3) := by decide +kernel
theorem dX12_meanMany_23 : decode cX12_meanMany 23 = .ok (.ifCond .eq 6, 3) := by decide +kernel
theorem dX12_meanMany_26 : decode cX12_meanMany 26 = .ok (.iinc 2 1, 3) := by decide +kernel
theorem dX12_meanMany_29 : decode cX12_meanMany 29 = .ok (.iinc 3 1, 3) := by decide +kernel
theorem dX12_meanMany_32 : decode cX12_meanMany 32 = .ok (.goto (-28), 3) := by decide +kernel
theorem dX12_meanMany_35 : decode cX12_meanMany 35 = .ok (.iload_n 2, 1) := by decide +kernel
theorem dX12_meanMany_36 : decode cX12_meanMany 36 = .ok (.ireturn, 1) := by decide +kernel
theorem dX12_mean_0 : decode cX12_mean 0 = .ok (.iload_n 1, 1) := by decide +kernel
theorem dX12_mean_1 : decode cX12_mean 1 = .ok (.i2l, 1) := by decide +kernel
theorem dX12_mean_2 : decode cX12_mean 2 = .ok (.lconst 0, 1) := by decide +kernel
theorem dX12_mean_3 : decode cX12_mean 3 = .ok (.iconst 1, 1) := by decide +kernel
theorem dX12_mean_4 : decode cX12_mean 4 = .ok (.aload_n 0, 1) := by decide +kernel
theorem dX12_mean_5 : decode cX12_mean 5 = .ok (.getfield 114, 3) := by decide +kernel
theorem dX12_mean_8 : decode cX12_mean 8 = .ok (.iconst 1, 1) := by decide +kernel
theorem dX12_mean_9 : decode cX12_mean 9 = .ok (.iaload, 1) := by decide +kernel
theorem dX12_mean_10 : decode cX12_mean 10 = .ok (.ishl, 1) := by decide +kernel
theorem dX12_mean_11 : decode cX12_mean 11 = .ok (.iconst 1, 1) := by decide +kernel
theorem dX12_mean_12 : decode cX12_mean 12 = .ok (.isub, 1) := by decide +kernel
theorem dX12_mean_13 : decode cX12_mean 13 = .ok (.i2l, 1) := by decide +kernel
theorem dX12_mean_14 : decode cX12_mean 14 = .ok (.invokestatic 216, 3) := by decide +kernel
theorem dX12_mean_17 : decode cX12_mean 17 = .ok (.ifCond .ne 5, 3) := by decide +kernel
theorem dX12_mean_20 : decode cX12_mean 20 = .ok (.iconst (-1), 1) := by decide +kernel
theorem dX12_mean_21 : decode cX12_mean 21 = .ok (.ireturn, 1) := by decide +kernel
theorem dX12_mean_22 : decode cX12_mean 22 = .ok (.aload_n 0, 1) := by decide +kernel
theorem dX12_mean_23 : decode cX12_mean 23 = .ok (.invokevirtual 490, 3) := by decide +kernel
theorem dX12_mean_26 : decode cX12_mean 26 = .ok (.aload_n 0, 1) := by decide +kernel
theorem dX12_mean_27 : decode cX12_mean 27 = .ok (.iload_n 1, 1) := by decide +kernel
theorem dX12_mean_28 : decode cX12_mean 28 = .ok (.invokevirtual 525, 3) := by decide +kernel
theorem dX12_mean_31 : decode cX12_mean 31 = .ok (.ireturn, 1) := by decide +kernel
theorem dX12_mottos_0 : decode cX12_mottos 0 = .ok (.aload_n 0, 1) := by decide +kernel
theorem dX12_mottos_1 : decode cX12_mottos 1 = .ok (.iload_n 1, 1) := by decide +kernel
theorem dX12_mottos_2 : decode cX12_mottos 2 = .ok (.invokevirtual 505, 3) := by decide +kernel
theorem dX12_mottos_5 : decode cX12_mottos 5 = .ok (.ifCond .ne 5, 3) := by decide +kernel
theorem dX12_mottos_8 : decode cX12_mottos 8 = .ok (.iconst (-1), 1) := by decide +kernel
theorem dX12_mottos_9 : decode cX12_mottos 9 = .ok (.ireturn, 1) := by decide +kernel
theorem dX12_mottos_10 : decode cX12_mottos 10 = .ok (.iconst (-1), 1) := by decide +kernel
theorem dX12_mottos_11 : decode cX12_mottos 11 = .ok (.istore_n 2, 1) := by decide +kernel
theorem dX12_mottos_12 : decode cX12_mottos 12 = .ok (.iconst 0, 1) := by decide +kernel
theorem dX12_mottos_13 : decode cX12_mottos 13 = .ok (.istore_n 3, 1) := by decide +kernel
theorem dX12_mottos_14 : decode cX12_mottos 14 = .ok (.iload_n 3, 1) := by decide +kernel
theorem dX12_mottos_15 : decode cX12_mottos 15 = .ok (.iconst 1, 1) := by decide +kernel
theorem dX12_mottos_16 : decode cX12_mottos 16 = .ok (.aload_n 0, 1) := by decide +kernel
theorem dX12_mottos_17 : decode cX12_mottos 17 = .ok (.getfield 114, 3) := by decide +kernel
theorem dX12_mottos_20 : decode cX12_mottos 20 = .ok (.iconst 1, 1) := by decide +kernel
theorem dX12_mottos_21 : decode cX12_mottos 21 = .ok (.iaload, 1) := by decide +kernel
theorem dX12_mottos_22 : decode cX12_mottos 22 = .ok (.ishl, 1) := by decide +kernel
theorem dX12_mottos_23 : decode cX12_mottos 23 = .ok (.if_icmp .ge 53, 3) := by decide +kernel
theorem dX12_mottos_26 : decode cX12_mottos 26 = .ok (.iload_n 2, 1) := by decide +kernel
theorem dX12_mottos_27 : decode cX12_mottos 27 = .ok (.iconst (-1), 1) := by decide +kernel
theorem dX12_mottos_28 : decode cX12_mottos 28 = .ok (.if_icmp .eq 14, 3) := by decide +kernel
theorem dX12_mottos_31 : decode cX12_mottos 31 = .ok (.iload_n 3, 1) := by decide +kernel
theorem dX12_mottos_32 : decode cX12_mottos 32 = .ok (.invokestatic 508, 3) := by decide +kernel
theorem dX12_mottos_35 : decode cX12_mottos 35 = .ok (.iload_n 2, 1) := by decide +kernel
theorem dX12_mottos_36 : decode cX12_mottos 36 = .ok (.invokestatic 508, 3) := by decide +kernel
theorem dX12_mottos_39 : decode cX12_mottos 39 = .ok (.if_icmp .ge 31, 3) := by decide +kernel
theorem dX12_mottos_42 : decode cX12_mottos 42 = .ok (.aload_n 0, 1) := by decide +kernel
theorem dX12_mottos_43 : decode cX12_mottos 43 = .ok (.iload_n 3, 1) := by decide +kernel
theorem dX12_mottos_44 : decode cX12_mottos 44 = .ok (.aload_n 0, 1) := by decide +kernel
theorem dX12_mottos_45 : decode cX12_mottos 45 = .ok (.getfield 145, 3) := by decide +kernel
theorem dX12_mottos_48 : decode cX12_mottos 48 = .ok (.iload_n 1, 1) := by decide +kernel
theorem dX12_mottos_49 : decode cX12_mottos 49 = .ok (.iaload, 1) := by decide +kernel
theorem dX12_mottos_50 : decode cX12_mottos 50 = .ok (.invokevirtual 522, 3) := by decide +kernel
theorem dX12_mottos_53 : decode cX12_mottos 53 = .ok (.ifCond .eq 17, 3) := by decide +kernel
theorem dX12_mottos_56 : decode cX12_mottos 56 = .ok (.aload_n 0, 1) := by decide +kernel
theorem dX12_mottos_57 : decode cX12_mottos 57 = .ok (.iload_n 3, 1) := by decide +kernel
theorem dX12_mottos_58 : decode cX12_mottos 58 = .ok (.invokevirtual 525, 3) := by decide +kernel
theorem dX12_mottos_61 : decode cX12_mottos 61 = .ok (.iconst 1, 1) := by decide +kernel
theorem dX12_mottos_62 : decode cX12_mottos 62 = .ok (.if_icmp .eq 6, 3) := by decide +kernel
theorem dX12_mottos_65 : decode cX12_mottos 65 = .ok (.goto 5, 3) := by decide +kernel
theorem dX12_mottos_68 : decode cX12_mottos 68 = .ok (.iload_n 3, 1) := by decide +kernel
theorem dX12_mottos_69 : decode cX12_mottos 69 = .ok (.istore_n 2, 1) := by decide +kernel
theorem dX12_mottos_70 : decode cX12_mottos 70 = .ok (.iinc 3 1, 3) := by decide +kernel
theorem dX12_mottos_73 : decode cX12_mottos 73 = .ok (.goto (-59), 3) := by decide +kernel
theorem dX12_mottos_76 : decode cX12_mottos 76 = .ok (.iload_n 2, 1) := by decide +kernel
theorem dX12_mottos_77 : decode cX12_mottos 77 = .ok (.ireturn, 1) := by decide +kernel
theorem dX12_common_0 : decode cX12_common 0 = .ok (.aload_n 0, 1) := by decide +kernel
theorem dX12_common_1 : decode cX12_common 1 = .ok (.invokevirtual 490, 3) := by decide +kernel
theorem dX12_common_4 : decode cX12_common 4 = .ok (.iload_n 1, 1) := by decide +kernel
theorem dX12_common_5 : decode cX12_common 5 = .ok (.i2l, 1) := by decide +kernel
theorem dX12_common_6 : decode cX12_common 6 = .ok (.lconst 0, 1) := by decide +kernel
theorem dX12_common_7 : decode cX12_common 7 = .ok (.ldc2_w 528, 3) := by decide +kernel
theorem dX12_common_10 : decode cX12_common 10 = .ok (.invokestatic 216, 3) := by decide +kernel
theorem dX12_common_13 : decode cX12_common 13 = .ok (.ifCond .eq 10, 3) := by decide +kernel
theorem dX12_common_16 : decode cX12_common 16 = .ok (.aload_n 0, 1) := by decide +kernel
theorem dX12_common_17 : decode cX12_common 17 = .ok (.getfield 482, 3) := by decide +kernel
theorem dX12_common_20 : decode cX12_common 20 = .ok (.ifCond .ne 7, 3) := by decide +kernel
theorem dX12_common_23 : decode cX12_common 23 = .ok (.ldc_w 398, 3) := by decide +kernel
theorem dX12_common_26 : decode cX12_common 26 = .ok (.ireturn, 1) := by decide +kernel
theorem dX12_common_27 : decode cX12_common 27 = .ok (.iload_n 1, 1) := by decide +kernel
theorem dX12_common_28 : decode cX12_common 28 = .ok (.iconst 2, 1) := by decide +kernel
theorem dX12_common_29 : decode cX12_common 29 = .ok (.irem, 1) := by decide +kernel
theorem dX12_common_30 : decode cX12_common 30 = .ok (.ifCond .ne 7, 3) := by decide +kernel
theorem dX12_common_33 : decode cX12_common 33 = .ok (.iconst 1, 1) := by decide +kernel
theorem dX12_common_34 : decode cX12_common 34 = .ok (.goto 4, 3) := by decide +kernel
theorem dX12_common_37 : decode cX12_common 37 = .ok (.iconst 0, 1) := by decide +kernel
theorem dX12_common_38 : decode cX12_common 38 = .ok (.istore_n 2, 1) := by decide +kernel
theorem dX12_common_39 : decode cX12_common 39 = .ok (.iconst 0, 1) := by decide +kernel
theorem dX12_common_40 : decode cX12_common 40 = .ok (.istore_n 3, 1) := by decide +kernel
theorem dX12_common_41 : decode cX12_common 41 = .ok (.iload_n 3, 1) := by decide +kernel
theorem dX12_common_42 : decode cX12_common 42 = .ok (.bipush 30, 2) := by decide +kernel
theorem dX12_common_44 : decode cX12_common 44 = .ok (.if_icmp .ge 16, 3) := by decide +kernel
theorem dX12_common_47 : decode cX12_common 47 = .ok (.aload_n 0, 1) := by decide +kernel
theorem dX12_common_48 : decode cX12_common 48 = .ok (.getfield 155, 3) := by decide +kernel
theorem dX12_common_51 : decode cX12_common 51 = .ok (.iload_n 3, 1) := by decide +kernel
theorem dX12_common_52 : decode cX12_common 52 = .ok (.iconst 0, 1) := by decide +kernel
theorem dX12_common_53 : decode cX12_common 53 = .ok (.iastore, 1) := by decide +kernel
theorem dX12_common_54 : decode cX12_common 54 = .ok (.iinc 3 1, 3) := by decide +kernel
theorem dX12_common_57 : decode cX12_common 57 = .ok (.goto (-16), 3) := by decide +kernel
theorem dX12_common_60 : decode cX12_common 60 = .ok (.iconst 0, 1) := by decide +kernel
theorem dX12_common_61 : decode cX12_common 61 = .ok (.istore_n 3, 1) := by decide +kernel
theorem dX12_common_62 : decode cX12_common 62 = .ok (.iload_n 3, 1) := by decide +kernel
theorem dX12_common_63 : decode cX12_common 63 = .ok (.aload_n 0, 1) := by decide +kernel
theorem dX12_common_64 : decode cX12_common 64 = .ok (.getfield 482, 3) := by decide +kernel
theorem dX12_common_67 : decode cX12_common 67 = .ok (.if_icmp .ge 46, 3) := by decide +kernel
theorem dX12_common_70 : decode cX12_common 70 = .ok (.aload_n 0, 1) := by decide +kernel
theorem dX12_common_71 : decode cX12_common 71 = .ok (.getfield 155, 3) := by decide +kernel
theorem dX12_common_74 : decode cX12_common 74 = .ok (.iload_n 2, 1) := by decide +kernel
theorem dX12_common_75 : decode cX12_common 75 = .ok (.ifCond .eq 15, 3) := by decide +kernel
theorem dX12_common_78 : decode cX12_common 78 = .ok (.aload_n 0, 1) := by decide +kernel
theorem dX12_common_79 : decode cX12_common 79 = .ok (.getfield 145, 3) := by decide +kernel
theorem dX12_common_82 : decode cX12_common 82 = .ok (.iload_n 3, 1) := by decide +kernel
theorem dX12_common_83 : decode cX12_common 83 = .ok (.iaload, 1) := by decide +kernel
theorem dX12_common_84 : decode cX12_common 84 = .ok (.invokestatic 389, 3) := by decide +kernel
theorem dX12_common_87 : decode cX12_common 87 = .ok (.goto 15, 3) := by decide +kernel
theorem dX12_common_90 : decode cX12_common 90 = .ok (.aload_n 0, 1) := by decide +kernel
theorem dX12_common_91 : decode cX12_common 91 = .ok (.getfield 145, 3) := by decide +kernel
theorem dX12_common_94 : decode cX12_common 94 = .ok (.iload_n 3, 1) := by decide +kernel
theorem dX12_common_95 : decode cX12_common 95 = .ok (.iaload, 1) := by decide +kernel
theorem dX12_common_96 : decode cX12_common 96 = .ok (.invokestatic 402, 3) := by decide +kernel
theorem dX12_common_99 : decode cX12_common 99 = .ok (.bipush 7, 2) := by decide +kernel
theorem dX12_common_101 : decode cX12_common 101 = .ok (.iadd, 1) := by decide +kernel
theorem dX12_common_102 : decode cX12_common 102 = .ok (.dup2, 1) := by decide +kernel
theorem dX12_common_103 : decode cX12_common 103 = .ok (.iaload, 1) := by decide +kernel
theorem dX12_common_104 : decode cX12_common 104 = .ok (.iconst 1, 1) := by decide +kernel
theorem dX12_common_105 : decode cX12_common 105 = .ok (.iadd, 1) := by decide +kernel
theorem dX12_common_106 : decode cX12_common 106 = .ok (.iastore, 1) := by decide +kernel
theorem dX12_common_107 : decode cX12_common 107 = .ok (.iinc 3 1, 3) := by decide +kernel
theorem dX12_common_110 : decode cX12_common 110 = .ok (.goto (-48), 3) := by decide +kernel
theorem dX12_common_113 : decode cX12_common 113 = .ok (.iconst 0, 1) := by decide +kernel
theorem dX12_common_114 : decode cX12_common 114 = .ok (.istore_n 3, 1) := by decide +kernel
theorem dX12_common_115 : decode cX12_common 115 = .ok (.iconst 1, 1) := by decide +kernel
theorem dX12_common_116 : decode cX12_common 116 = .ok (.istore 4, 2) := by decide +kernel
theorem dX12_common_118 : decode cX12_common 118 = .ok (.iload 4, 2) := by decide +kernel
theorem dX12_common_120 : decode cX12_common 120 = .ok (.bipush 30, 2) := by decide +kernel
theorem dX12_common_122 : decode cX12_common 122 = .ok (.if_icmp .ge 28, 3) := by decide +kernel
theorem dX12_common_125 : decode cX12_common 125 = .ok (.aload_n 0, 1) := by decide +kernel
theorem dX12_common_126 : decode cX12_common 126 = .ok (.getfield 155, 3) := by decide +kernel
theorem dX12_common_129 : decode cX12_common 129 = .ok (.iload 4, 2) := by decide +kernel
theorem dX12_common_131 : decode cX12_common 131 = .ok (.iaload, 1) := by decide +kernel
theorem dX12_common_132 : decode cX12_common 132 = .ok (.aload_n 0, 1) := by decide +kernel
theorem dX12_common_133 : decode cX12_common 133 = .ok (.getfield 155, 3) := by decide +kernel
theorem dX12_common_136 : decode cX12_common 136 = .ok (.iload_n 3, 1) := by decide +kernel
theorem dX12_common_137 : decode cX12_common 137 = .ok (.iaload, 1) := by decide +kernel
theorem dX12_common_138 : decode cX12_common 138 = .ok (.if_icmp .le 6, 3) := by decide +kernel
theorem dX12_common_141 : decode cX12_common 141 = .ok (.iload 4, 2) := by decide +kernel
theorem dX12_common_143 : decode cX12_common 143 = .ok (.istore_n 3, 1) := by decide +kernel
theorem dX12_common_144 : decode cX12_common 144 = .ok (.iinc 4 1, 3) := by decide +kernel
theorem dX12_common_147 : decode cX12_common 147 = .ok (.goto (-29), 3) := by decide +kernel
theorem dX12_common_150 : decode cX12_common 150 = .ok (.iload_n 1, 1) := by decide +kernel
theorem dX12_common_151 : decode cX12_common 151 = .ok (.iconst 1, 1) := by decide +kernel
theorem dX12_common_152 : decode cX12_common 152 = .ok (.if_icmp .le 12, 3) := by decide +kernel
theorem dX12_common_155 : decode cX12_common 155 = .ok (.aload_n 0, 1) := by decide +kernel
theorem dX12_common_156 : decode cX12_common 156 = .ok (.getfield 155, 3) := by decide +kernel
theorem dX12_common_159 : decode cX12_common 159 = .ok (.iload_n 3, 1) := by decide +kernel
theorem dX12_common_160 : decode cX12_common 160 = .ok (.iaload, 1) := by decide +kernel
theorem dX12_common_161 : decode cX12_common 161 = .ok (.goto 15, 3) := by decide +kernel
theorem dX12_common_164 : decode cX12_common 164 = .ok (.iload_n 2, 1) := by decide +kernel
theorem dX12_common_165 : decode cX12_common 165 = .ok (.ifCond .eq 7, 3) := by decide +kernel
theorem dX12_common_168 : decode cX12_common 168 = .ok (.iload_n 3, 1) := by decide +kernel
theorem dX12_common_169 : decode cX12_common 169 = .ok (.goto 7, 3) := by decide +kernel
theorem dX12_common_172 : decode cX12_common 172 = .ok (.iload_n 3, 1) := by decide +kernel
theorem dX12_common_173 : decode cX12_common 173 = .ok (.bipush 7, 2) := by decide +kernel
theorem dX12_common_175 : decode cX12_common 175 = .ok (.isub, 1) := by decide +kernel
theorem dX12_common_176 : decode cX12_common 176 = .ok (.ireturn, 1) := by decide +kernel
theorem dX12_over_0 : decode cX12_over 0 = .ok (.aload_n 0, 1) := by decide +kernel
theorem dX12_over_1 : decode cX12_over 1 = .ok (.iload_n 1, 1) := by decide +kernel
theorem dX12_over_2 : decode cX12_over 2 = .ok (.iload_n 2, 1) := by decide +kernel
theorem dX12_over_3 : decode cX12_over 3 = .ok (.invokevirtual 498, 3) := by decide +kernel
theorem dX12_over_6 : decode cX12_over 6 = .ok (.ifCond .ne 5, 3) := by decide +kernel
theorem dX12_over_9 : decode cX12_over 9 = .ok (.iconst (-1), 1) := by decide +kernel
theorem dX12_over_10 : decode cX12_over 10 = .ok (.ireturn, 1) := by decide +kernel
theorem dX12_over_11 : decode cX12_over 11 = .ok (.aload_n 0, 1) := by decide +kernel
theorem dX12_over_12 : decode cX12_over 12 = .ok (.iload_n 1, 1) := by decide +kernel
theorem dX12_over_13 : decode cX12_over 13 = .ok (.iload_n 2, 1) := by decide +kernel
theorem dX12_over_14 : decode cX12_over 14 = .ok (.invokevirtual 495, 3) := by decide +kernel
theorem dX12_over_17 : decode cX12_over 17 = .ok (.istore_n 3, 1) := by decide +kernel
theorem dX12_over_18 : decode cX12_over 18 = .ok (.aload_n 0, 1) := by decide +kernel
theorem dX12_over_19 : decode cX12_over 19 = .ok (.getfield 267, 3) := by decide +kernel
theorem dX12_over_22 : decode cX12_over 22 = .ok (.istore 4, 2) := by decide +kernel
theorem dX12_over_24 : decode cX12_over 24 = .ok (.iconst 0, 1) := by decide +kernel
theorem dX12_over_25 : decode cX12_over 25 = .ok (.istore 5, 2) := by decide +kernel
theorem dX12_over_27 : decode cX12_over 27 = .ok (.iload 5, 2) := by decide +kernel
theorem dX12_over_29 : decode cX12_over 29 = .ok (.iload_n 1, 1) := by decide +kernel
theorem dX12_over_30 : decode cX12_over 30 = .ok (.iconst 1, 1) := by decide +kernel
theorem dX12_over_31 : decode cX12_over 31 = .ok (.isub, 1) := by decide +kernel
theorem dX12_over_32 : decode cX12_over 32 = .ok (.if_icmp .ge 43, 3) := by decide +kernel
theorem dX12_over_35 : decode cX12_over 35 = .ok (.aload_n 0, 1) := by decide +kernel
theorem dX12_over_36 : decode cX12_over 36 = .ok (.aload_n 0, 1) := by decide +kernel
theorem dX12_over_37 : decode cX12_over 37 = .ok (.getfield 145, 3) := by decide +kernel
theorem dX12_over_40 : decode cX12_over 40 = .ok (.aload_n 0, 1) := by decide +kernel
theorem dX12_over_41 : decode cX12_over 41 = .ok (.getfield 152, 3) := by decide +kernel
theorem dX12_over_44 : decode cX12_over 44 = .ok (.iload 5, 2) := by decide +kernel
theorem dX12_over_46 : decode cX12_over 46 = .ok (.iaload, 1) := by decide +kernel
theorem dX12_over_47 : decode cX12_over 47 = .ok (.iaload, 1) := by decide +kernel
theorem dX12_over_48 : decode cX12_over 48 = .ok (.invokevirtual 392, 3) := by decide +kernel
theorem dX12_over_51 : decode cX12_over 51 = .ok (.istore 6, 2) := by decide +kernel
theorem dX12_over_53 : decode cX12_over 53 = .ok (.iload 6, 2) := by decide +kernel
theorem dX12_over_55 : decode cX12_over 55 = .ok (.iload 4, 2) := by decide +kernel
theorem dX12_over_57 : decode cX12_over 57 = .ok (.if_icmp .le 8, 3) := by decide +kernel
theorem dX12_over_60 : decode cX12_over 60 = .ok (.iload 6, 2) := by decide +kernel
theorem dX12_over_62 : decode cX12_over 62 = .ok (.goto 5, 3) := by decide +kernel
theorem dX12_over_65 : decode cX12_over 65 = .ok (.iload 4, 2) := by decide +kernel
theorem dX12_over_67 : decode cX12_over 67 = .ok (.istore 4, 2) := by decide +kernel
theorem dX12_over_69 : decode cX12_over 69 = .ok (.iinc 5 1, 3) := by decide +kernel
theorem dX12_over_72 : decode cX12_over 72 = .ok (.goto (-45), 3) := by decide +kernel
theorem dX12_over_75 : decode cX12_over 75 = .ok (.iload 4, 2) := by decide +kernel
theorem dX12_over_77 : decode cX12_over 77 = .ok (.ireturn, 1) := by decide +kernel
theorem dX12_areAlike_0 : decode cX12_areAlike 0 = .ok (.aload_n 0, 1) := by decide +kernel
theorem dX12_areAlike_1 : decode cX12_areAlike 1 = .ok (.iload_n 1, 1) := by decide +kernel
theorem dX12_areAlike_2 : decode cX12_areAlike 2 = .ok (.invokevirtual 392, 3) := by decide +kernel
theorem dX12_areAlike_5 : decode cX12_areAlike 5 = .ok (.aload_n 0, 1) := by decide +kernel
theorem dX12_areAlike_6 : decode cX12_areAlike 6 = .ok (.iload_n 2, 1) := by decide +kernel
theorem dX12_areAlike_7 : decode cX12_areAlike 7 = .ok (.invokevirtual 392, 3) := by decide +kernel
theorem dX12_areAlike_10 : decode cX12_areAlike 10 = .ok (.if_icmp .le 11, 3) := by decide +kernel
theorem dX12_areAlike_13 : decode cX12_areAlike 13 = .ok (.aload_n 0, 1) := by decide +kernel
theorem dX12_areAlike_14 : decode cX12_areAlike 14 = .ok (.iload_n 1, 1) := by decide +kernel
theorem dX12_areAlike_15 : decode cX12_areAlike 15 = .ok (.invokevirtual 392, 3) := by decide +kernel
theorem dX12_areAlike_18 : decode cX12_areAlike 18 = .ok (.goto 8, 3) := by decide +kernel
theorem dX12_areAlike_21 : decode cX12_areAlike 21 = .ok (.aload_n 0, 1) := by decide +kernel
theorem dX12_areAlike_22 : decode cX12_areAlike 22 = .ok (.iload_n 2, 1) := by decide +kernel
theorem dX12_areAlike_23 : decode cX12_areAlike 23 = .ok (.invokevirtual 392, 3) := by decide +kernel
theorem dX12_areAlike_26 : decode cX12_areAlike 26 = .ok (.istore_n 3, 1) := by decide +kernel
theorem dX12_areAlike_27 : decode cX12_areAlike 27 = .ok (.iconst 0, 1) := by decide +kernel
theorem dX12_areAlike_28 : decode cX12_areAlike 28 = .ok (.istore 4, 2) := by decide +kernel
theorem dX12_areAlike_30 : decode cX12_areAlike 30 = .ok (.iload 4, 2) := by decide +kernel
theorem dX12_areAlike_32 : decode cX12_areAlike 32 = .ok (.iload_n 3, 1) := by decide +kernel
theorem dX12_areAlike_33 : decode cX12_areAlike 33 = .ok (.if_icmp .ge 28, 3) := by decide +kernel
theorem dX12_areAlike_36 : decode cX12_areAlike 36 = .ok (.aload_n 0, 1) := by decide +kernel
theorem dX12_areAlike_37 : decode cX12_areAlike 37 = .ok (.iload_n 1, 1) := by decide +kernel
theorem dX12_areAlike_38 : decode cX12_areAlike 38 = .ok (.iload 4, 2) := by decide +kernel
theorem dX12_areAlike_40 : decode cX12_areAlike 40 = .ok (.invokevirtual 431, 3) := by decide +kernel
theorem dX12_areAlike_43 : decode cX12_areAlike 43 = .ok (.aload_n 0, 1) := by decide +kernel
theorem dX12_areAlike_44 : decode cX12_areAlike 44 = .ok (.iload_n 2, 1) := by decide +kernel
theorem dX12_areAlike_45 : decode cX12_areAlike 45 = .ok (.iload 4, 2) := by decide +kernel
theorem dX12_areAlike_47 : decode cX12_areAlike 47 = .ok (.invokevirtual 431, 3) := by decide +kernel
theorem dX12_areAlike_50 : decode cX12_areAlike 50 = .ok (.if_icmp .eq 5, 3) := by decide +kernel
theorem dX12_areAlike_53 : decode cX12_areAlike 53 = .ok (.iconst 0, 1) := by decide +kernel
theorem dX12_areAlike_54 : decode cX12_areAlike 54 = .ok (.ireturn, 1) := by decide +kernel
theorem dX12_areAlike_55 : decode cX12_areAlike 55 = .ok (.iinc 4 1, 3) := by decide +kernel
theorem dX12_areAlike_58 : decode cX12_areAlike 58 = .ok (.goto (-28), 3) := by decide +kernel
theorem dX12_areAlike_61 : decode cX12_areAlike 61 = .ok (.iconst 1, 1) := by decide +kernel
theorem dX12_areAlike_62 : decode cX12_areAlike 62 = .ok (.ireturn, 1) := by decide +kernel
theorem dX12_alikeTo_0 : decode cX12_alikeTo 0 = .ok (.iconst 0, 1) := by decide +kernel
theorem dX12_alikeTo_1 : decode cX12_alikeTo 1 = .ok (.istore_n 2, 1) := by decide +kernel
theorem dX12_alikeTo_2 : decode cX12_alikeTo 2 = .ok (.aload_n 0, 1) := by decide +kernel
theorem dX12_alikeTo_3 : decode cX12_alikeTo 3 = .ok (.aload_n 0, 1) := by decide +kernel
theorem dX12_alikeTo_4 : decode cX12_alikeTo 4 = .ok (.getfield 145, 3) := by decide +kernel
theorem dX12_alikeTo_7 : decode cX12_alikeTo 7 = .ok (.iload_n 2, 1) := by decide +kernel
theorem dX12_alikeTo_8 : decode cX12_alikeTo 8 = .ok (.iaload, 1) := by decide +kernel
theorem dX12_alikeTo_9 : decode cX12_alikeTo 9 = .ok (.aload_n 0, 1) := by decide +kernel
theorem dX12_alikeTo_10 : decode cX12_alikeTo 10 = .ok (.getfield 145, 3) := by decide +kernel
theorem dX12_alikeTo_13 : decode cX12_alikeTo 13 = .ok (.iload_n 1, 1) := by decide +kernel
theorem dX12_alikeTo_14 : decode cX12_alikeTo 14 = .ok (.iaload, 1) := by decide +kernel
theorem dX12_alikeTo_15 : decode cX12_alikeTo 15 = .ok (.invokevirtual 530, 3) := by decide +kernel
theorem dX12_alikeTo_18 : decode cX12_alikeTo 18 = .ok (.ifCond .ne 9, 3) := by decide +kernel
theorem dX12_alikeTo_21 : decode cX12_alikeTo 21 = .ok (.iinc 2 1, 3) := by decide +kernel
theorem dX12_alikeTo_24 : decode cX12_alikeTo 24 = .ok (.goto (-22), 3) := by decide +kernel
theorem dX12_alikeTo_27 : decode cX12_alikeTo 27 = .ok (.iload_n 2, 1) := by decide +kernel
theorem dX12_alikeTo_28 : decode cX12_alikeTo 28 = .ok (.ireturn, 1) := by decide +kernel
theorem dX12_alike_0 : decode cX12_alike 0 = .ok (.aload_n 0, 1) := by decide +kernel
theorem dX12_alike_1 : decode cX12_alike 1 = .ok (.iload_n 1, 1) := by decide +kernel
theorem dX12_alike_2 : decode cX12_alike 2 = .ok (.invokevirtual 505, 3) := by decide +kernel
theorem dX12_alike_5 : decode cX12_alike 5 = .ok (.ifCond .eq 11, 3) := by decide +kernel
theorem dX12_alike_8 : decode cX12_alike 8 = .ok (.aload_n 0, 1) := by decide +kernel
theorem dX12_alike_9 : decode cX12_alike 9 = .ok (.iload_n 1, 1) := by decide +kernel
theorem dX12_alike_10 : decode cX12_alike 10 = .ok (.invokevirtual 533, 3) := by decide +kernel
theorem dX12_alike_13 : decode cX12_alike 13 = .ok (.goto 4, 3) := by decide +kernel
theorem dX12_alike_16 : decode cX12_alike 16 = .ok (.iconst (-1), 1) := by decide +kernel
theorem dX12_alike_17 : decode cX12_alike 17 = .ok (.ireturn, 1) := by decide +kernel
theorem dX12_unlike_0 : decode cX12_unlike 0 = .ok (.aload_n 0, 1) := by decide +kernel
theorem dX12_unlike_1 : decode cX12_unlike 1 = .ok (.invokevirtual 490, 3) := by decide +kernel
theorem dX12_unlike_4 : decode cX12_unlike 4 = .ok (.iconst 0, 1) := by decide +kernel
theorem dX12_unlike_5 : decode cX12_unlike 5 = .ok (.istore_n 1, 1) := by decide +kernel
theorem dX12_unlike_6 : decode cX12_unlike 6 = .ok (.iconst 0, 1) := by decide +kernel
theorem dX12_unlike_7 : decode cX12_unlike 7 = .ok (.istore_n 2, 1) := by decide +kernel
theorem dX12_unlike_8 : decode cX12_unlike 8 = .ok (.iload_n 2, 1) := by decide +kernel
theorem dX12_unlike_9 : decode cX12_unlike 9 = .ok (.aload_n 0, 1) := by decide +kernel
theorem dX12_unlike_10 : decode cX12_unlike 10 = .ok (.getfield 482, 3) := by decide +kernel
theorem dX12_unlike_13 : decode cX12_unlike 13 = .ok (.if_icmp .ge 21, 3) := by decide +kernel
theorem dX12_unlike_16 : decode cX12_unlike 16 = .ok (.aload_n 0, 1) := by decide +kernel
theorem dX12_unlike_17 : decode cX12_unlike 17 = .ok (.iload_n 2, 1) := by decide +kernel
theorem dX12_unlike_18 : decode cX12_unlike 18 = .ok (.invokevirtual 533, 3) := by decide +kernel
theorem dX12_unlike_21 : decode cX12_unlike 21 = .ok (.iload_n 2, 1) := by decide +kernel
theorem dX12_unlike_22 : decode cX12_unlike 22 = .ok (.if_icmp .ne 6, 3) := by decide +kernel
theorem dX12_unlike_25 : decode cX12_unlike 25 = .ok (.iinc 1 1, 3) := by decide +kernel
theorem dX12_unlike_28 : decode cX12_unlike 28 = .ok (.iinc 2 1, 3) := by decide +kernel
theorem dX12_unlike_31 : decode cX12_unlike 31 = .ok (.goto (-23), 3) := by decide +kernel
theorem dX12_unlike_34 : decode cX12_unlike 34 = .ok (.iload_n 1, 1) := by decide +kernel
theorem dX12_unlike_35 : decode cX12_unlike 35 = .ok (.ireturn, 1) := by decide +kernel
theorem dX12_rule_0 : decode cX12_rule 0 = .ok (.iload_n 1, 1) := by decide +kernel
theorem dX12_rule_1 : decode cX12_rule 1 = .ok (.i2l, 1) := by decide +kernel
theorem dX12_rule_2 : decode cX12_rule 2 = .ok (.lconst 0, 1) := by decide +kernel
theorem dX12_rule_3 : decode cX12_rule 3 = .ok (.aload_n 0, 1) := by decide +kernel
theorem dX12_rule_4 : decode cX12_rule 4 = .ok (.getfield 114, 3) := by decide +kernel
theorem dX12_rule_7 : decode cX12_rule 7 = .ok (.iconst 0, 1) := by decide +kernel
theorem dX12_rule_8 : decode cX12_rule 8 = .ok (.iaload, 1) := by decide +kernel
theorem dX12_rule_9 : decode cX12_rule 9 = .ok (.iconst 1, 1) := by decide +kernel
theorem dX12_rule_10 : decode cX12_rule 10 = .ok (.isub, 1) := by decide +kernel
theorem dX12_rule_11 : decode cX12_rule 11 = .ok (.i2l, 1) := by decide +kernel
theorem dX12_rule_12 : decode cX12_rule 12 = .ok (.invokestatic 216, 3) := by decide +kernel
theorem dX12_rule_15 : decode cX12_rule 15 = .ok (.ifCond .ne 5, 3) := by decide +kernel
theorem dX12_rule_18 : decode cX12_rule 18 = .ok (.iconst (-1), 1) := by decide +kernel
theorem dX12_rule_19 : decode cX12_rule 19 = .ok (.ireturn, 1) := by decide +kernel
theorem dX12_rule_20 : decode cX12_rule 20 = .ok (.iconst 0, 1) := by decide +kernel
theorem dX12_rule_21 : decode cX12_rule 21 = .ok (.istore_n 3, 1) := by decide +kernel
theorem dX12_rule_22 : decode cX12_rule 22 = .ok (.aload_n 0, 1) := by decide +kernel
theorem dX12_rule_23 : decode cX12_rule 23 = .ok (.iload_n 2, 1) := by decide +kernel
theorem dX12_rule_24 : decode cX12_rule 24 = .ok (.ifCond .eq 7, 3) := by decide +kernel
theorem dX12_rule_27 : decode cX12_rule 27 = .ok (.iload_n 1, 1) := by decide +kernel
theorem dX12_rule_28 : decode cX12_rule 28 = .ok (.goto 4, 3) := by decide +kernel
theorem dX12_rule_31 : decode cX12_rule 31 = .ok (.iconst (-1), 1) := by decide +kernel
theorem dX12_rule_32 : decode cX12_rule 32 = .ok (.putfield 136, 3) := by decide +kernel
theorem dX12_rule_35 : decode cX12_rule 35 = .ok (.iconst 0, 1) := by decide +kernel
theorem dX12_rule_36 : decode cX12_rule 36 = .ok (.istore 4, 2) := by decide +kernel
theorem dX12_rule_38 : decode cX12_rule 38 = .ok (.iload 4, 2) := by decide +kernel
theorem dX12_rule_40 : decode cX12_rule 40 = .ok (.sipush 4500, 3) := by decide +kernel
theorem dX12_rule_43 : decode cX12_rule 43 = .ok (.if_icmp .ge 70, 3) := by decide +kernel
theorem dX12_rule_46 : decode cX12_rule 46 = .ok (.aload_n 0, 1) := by decide +kernel
theorem dX12_rule_47 : decode cX12_rule 47 = .ok (.iload 4, 2) := by decide +kernel
theorem dX12_rule_49 : decode cX12_rule 49 = .ok (.invokevirtual 476, 3) := by decide +kernel
theorem dX12_rule_52 : decode cX12_rule 52 = .ok (.ifCond .eq 55, 3) := by decide +kernel
theorem dX12_rule_55 : decode cX12_rule 55 = .ok (.aload_n 0, 1) := by decide +kernel
theorem dX12_rule_56 : decode cX12_rule 56 = .ok (.iload 4, 2) := by decide +kernel
theorem dX12_rule_58 : decode cX12_rule 58 = .ok (.invokevirtual 426, 3) := by decide +kernel
theorem dX12_rule_61 : decode cX12_rule 61 = .ok (.ifCond .ne 6, 3) := by decide +kernel
theorem dX12_rule_64 : decode cX12_rule 64 = .ok (.goto 43, 3) := by decide +kernel
theorem dX12_rule_67 : decode cX12_rule 67 = .ok (.aload_n 0, 1) := by decide +kernel
theorem dX12_rule_68 : decode cX12_rule 68 = .ok (.bipush 84, 2) := by decide +kernel
theorem dX12_rule_70 : decode cX12_rule 70 = .ok (.iload 4, 2) := by decide +kernel
theorem dX12_rule_72 : decode cX12_rule 72 = .ok (.invokevirtual 473, 3) := by decide +kernel
theorem dX12_rule_75 : decode cX12_rule 75 = .ok (.istore 5, 2) := by decide +kernel
theorem dX12_rule_77 : decode cX12_rule 77 = .ok (.iload_n 2, 1) := by decide +kernel
theorem dX12_rule_78 : decode cX12_rule 78 = .ok (.ifCond .eq 12, 3) := by decide +kernel
theorem dX12_rule_81 : decode cX12_rule 81 = .ok (.iload 5, 2) := by decide +kernel
theorem dX12_rule_83 : decode cX12_rule 83 = .ok (.iconst (-1), 1) := by decide +kernel
theorem dX12_rule_84 : decode cX12_rule 84 = .ok (.if_icmp .ne 23, 3) := by decide +kernel
theorem dX12_rule_87 : decode cX12_rule 87 = .ok (.goto 17, 3) := by decide +kernel
theorem dX12_rule_90 : decode cX12_rule 90 = .ok (.iload 5, 2) := by decide +kernel
theorem dX12_rule_92 : decode cX12_rule 92 = .ok (.iconst (-1), 1) := by decide +kernel
theorem dX12_rule_93 : decode cX12_rule 93 = .ok (.if_icmp .eq 14, 3) := by decide +kernel
theorem dX12_rule_96 : decode cX12_rule 96 = .ok (.aload_n 0, 1) := by decide +kernel
theorem dX12_rule_97 : decode cX12_rule 97 = .ok (.getfield 463, 3) := by decide +kernel
theorem dX12_rule_100 : decode cX12_rule 100 = .ok (.iload_n 1, 1) := by decide +kernel
theorem dX12_rule_101 : decode cX12_rule 101 = .ok (.if_icmp .ne 6, 3) := by decide +kernel
theorem dX12_rule_104 : decode cX12_rule 104 = .ok (.iinc 3 1, 3) := by decide +kernel
theorem dX12_rule_107 : decode cX12_rule 107 = .ok (.iinc 4 1, 3) := by decide +kernel
theorem dX12_rule_110 : decode cX12_rule 110 = .ok (.goto (-72), 3) := by decide +kernel
theorem dX12_rule_113 : decode cX12_rule 113 = .ok (.aload_n 0, 1) := by decide +kernel
theorem dX12_rule_114 : decode cX12_rule 114 = .ok (.iconst (-1), 1) := by decide +kernel
theorem dX12_rule_115 : decode cX12_rule 115 = .ok (.putfield 136, 3) := by decide +kernel
theorem dX12_rule_118 : decode cX12_rule 118 = .ok (.iload_n 3, 1) := by decide +kernel
theorem dX12_rule_119 : decode cX12_rule 119 = .ok (.ireturn, 1) := by decide +kernel
theorem dX12_meant_0 : decode cX12_meant 0 = .ok (.iload_n 1, 1) := by decide +kernel
theorem dX12_meant_1 : decode cX12_meant 1 = .ok (.i2l, 1) := by decide +kernel
theorem dX12_meant_2 : decode cX12_meant 2 = .ok (.ldc2_w 417, 3) := by decide +kernel
theorem dX12_meant_5 : decode cX12_meant 5 = .ok (.ldc2_w 493, 3) := by decide +kernel
theorem dX12_meant_8 : decode cX12_meant 8 = .ok (.invokestatic 216, 3) := by decide +kernel
theorem dX12_meant_11 : decode cX12_meant 11 = .ok (.ifCond .eq 11, 3) := by decide +kernel
theorem dX12_meant_14 : decode cX12_meant 14 = .ok (.aload_n 0, 1) := by decide +kernel
theorem dX12_meant_15 : decode cX12_meant 15 = .ok (.iload_n 2, 1) := by decide +kernel
theorem dX12_meant_16 : decode cX12_meant 16 = .ok (.invokevirtual 516, 3) := by decide +kernel
theorem dX12_meant_19 : decode cX12_meant 19 = .ok (.ifCond .ne 5, 3) := by decide +kernel
theorem dX12_meant_22 : decode cX12_meant 22 = .ok (.iconst (-1), 1) := by decide +kernel
theorem dX12_meant_23 : decode cX12_meant 23 = .ok (.ireturn, 1) := by decide +kernel
theorem dX12_meant_24 : decode cX12_meant 24 = .ok (.iload_n 1, 1) := by decide +kernel
theorem dX12_meant_25 : decode cX12_meant 25 = .ok (.iconst 2, 1) := by decide +kernel
theorem dX12_meant_26 : decode cX12_meant 26 = .ok (.if_icmp .ne 10, 3) := by decide +kernel
theorem dX12_meant_29 : decode cX12_meant 29 = .ok (.aload_n 0, 1) := by decide +kernel
theorem dX12_meant_30 : decode cX12_meant 30 = .ok (.iload_n 2, 1) := by decide +kernel
theorem dX12_meant_31 : decode cX12_meant 31 = .ok (.iconst (-1), 1) := by decide +kernel
theorem dX12_meant_32 : decode cX12_meant 32 = .ok (.invokevirtual 536, 3) := by decide +kernel
theorem dX12_meant_35 : decode cX12_meant 35 = .ok (.ireturn, 1) := by decide +kernel
theorem dX12_meant_36 : decode cX12_meant 36 = .ok (.aload_n 0, 1) := by decide +kernel
theorem dX12_meant_37 : decode cX12_meant 37 = .ok (.invokevirtual 490, 3) := by decide +kernel
theorem dX12_meant_40 : decode cX12_meant 40 = .ok (.iconst 0, 1) := by decide +kernel
theorem dX12_meant_41 : decode cX12_meant 41 = .ok (.istore_n 3, 1) := by decide +kernel
theorem dX12_meant_42 : decode cX12_meant 42 = .ok (.iconst 0, 1) := by decide +kernel
theorem dX12_meant_43 : decode cX12_meant 43 = .ok (.istore 4, 2) := by decide +kernel
theorem dX12_meant_45 : decode cX12_meant 45 = .ok (.iload 4, 2) := by decide +kernel
theorem dX12_meant_47 : decode cX12_meant 47 = .ok (.aload_n 0, 1) := by decide +kernel
theorem dX12_meant_48 : decode cX12_meant 48 = .ok (.invokevirtual 485, 3) := by decide +kernel
theorem dX12_meant_51 : decode cX12_meant 51 = .ok (.if_icmp .ge 166, 3) := by decide +kernel
theorem dX12_meant_54 : decode cX12_meant 54 = .ok (.aload_n 0, 1) := by decide +kernel
theorem dX12_meant_55 : decode cX12_meant 55 = .ok (.iload_n 2, 1) := by decide +kernel
theorem dX12_meant_56 : decode cX12_meant 56 = .ok (.aload_n 0, 1) := by decide +kernel
theorem dX12_meant_57 : decode cX12_meant 57 = .ok (.getfield 145, 3) := by decide +kernel
theorem dX12_meant_60 : decode cX12_meant 60 = .ok (.iload 4, 2) := by decide +kernel
theorem dX12_meant_62 : decode cX12_meant 62 = .ok (.iaload, 1) := by decide +kernel
theorem dX12_meant_63 : decode cX12_meant 63 = .ok (.invokevirtual 519, 3) := by decide +kernel
theorem dX12_meant_66 : decode cX12_meant 66 = .ok (.ifCond .ne 6, 3) := by decide +kernel
theorem dX12_meant_69 : decode cX12_meant 69 = .ok (.goto 142, 3) := by decide +kernel
theorem dX12_meant_72 : decode cX12_meant 72 = .ok (.iload 4, 2) := by decide +kernel
theorem dX12_meant_74 : decode cX12_meant 74 = .ok (.iconst 1, 1) := by decide +kernel
theorem dX12_meant_75 : decode cX12_meant 75 = .ok (.iadd, 1) := by decide +kernel
theorem dX12_meant_76 : decode cX12_meant 76 = .ok (.istore 5, 2) := by decide +kernel
theorem dX12_meant_78 : decode cX12_meant 78 = .ok (.iload 5, 2) := by decide +kernel
theorem dX12_meant_80 : decode cX12_meant 80 = .ok (.aload_n 0, 1) := by decide +kernel
theorem dX12_meant_81 : decode cX12_meant 81 = .ok (.invokevirtual 485, 3) := by decide +kernel
theorem dX12_meant_84 : decode cX12_meant 84 = .ok (.if_icmp .ge 127, 3) := by decide +kernel
theorem dX12_meant_87 : decode cX12_meant 87 = .ok (.aload_n 0, 1) := by decide +kernel
theorem dX12_meant_88 : decode cX12_meant 88 = .ok (.getfield 148, 3) := by decide +kernel
theorem dX12_meant_91 : decode cX12_meant 91 = .ok (.bipush 40, 2) := by decide +kernel
theorem dX12_meant_93 : decode cX12_meant 93 = .ok (.iload 4, 2) := by decide +kernel
theorem dX12_meant_95 : decode cX12_meant 95 = .ok (.imul, 1) := by decide +kernel
theorem dX12_meant_96 : decode cX12_meant 96 = .ok (.iload 5, 2) := by decide +kernel
theorem dX12_meant_98 : decode cX12_meant 98 = .ok (.iadd, 1) := by decide +kernel
theorem dX12_meant_99 : decode cX12_meant 99 = .ok (.baload, 1) := by decide +kernel
theorem dX12_meant_100 : decode cX12_meant 100 = .ok (.ifCond .eq 105, 3) := by decide +kernel
theorem dX12_meant_103 : decode cX12_meant 103 = .ok (.aload_n 0, 1) := by decide +kernel
theorem dX12_meant_104 : decode cX12_meant 104 = .ok (.iload_n 2, 1) := by decide +kernel
theorem dX12_meant_105 : decode cX12_meant 105 = .ok (.aload_n 0, 1) := by decide +kernel
theorem dX12_meant_106 : decode cX12_meant 106 = .ok (.getfield 145, 3) := by decide +kernel
theorem dX12_meant_109 : decode cX12_meant 109 = .ok (.iload 5, 2) := by decide +kernel
theorem dX12_meant_111 : decode cX12_meant 111 = .ok (.iaload, 1) := by decide +kernel
theorem dX12_meant_112 : decode cX12_meant 112 = .ok (.invokevirtual 519, 3) := by decide +kernel
theorem dX12_meant_115 : decode cX12_meant 115 = .ok (.ifCond .ne 6, 3) := by decide +kernel
theorem dX12_meant_118 : decode cX12_meant 118 = .ok (.goto 87, 3) := by decide +kernel
theorem dX12_meant_121 : decode cX12_meant 121 = .ok (.iload_n 1, 1) := by decide +kernel
theorem dX12_meant_122 : decode cX12_meant 122 = .ok (.iconst 3, 1) := by decide +kernel
theorem dX12_meant_123 : decode cX12_meant 123 = .ok (.if_icmp .ne 6, 3) := by decide +kernel
theorem dX12_meant_126 : decode cX12_meant 126 = .ok (.iinc 3 1, 3) := by decide +kernel
theorem dX12_meant_129 : decode cX12_meant 129 = .ok (.iload 5, 2) := by decide +kernel
theorem dX12_meant_131 : decode cX12_meant 131 = .ok (.iconst 1, 1) := by decide +kernel
theorem dX12_meant_132 : decode cX12_meant 132 = .ok (.iadd, 1) := by decide +kernel
theorem dX12_meant_133 : decode cX12_meant 133 = .ok (.istore 6, 2) := by decide +kernel
theorem dX12_meant_135 : decode cX12_meant 135 = .ok (.iload 6, 2) := by decide +kernel
theorem dX12_meant_137 : decode cX12_meant 137 = .ok (.aload_n 0, 1) := by decide +kernel
theorem dX12_meant_138 : decode cX12_meant 138 = .ok (.invokevirtual 485, 3) := by decide +kernel
theorem dX12_meant_141 : decode cX12_meant 141 = .ok (.if_icmp .ge 64, 3) := by decide +kernel
theorem dX12_meant_144 : decode cX12_meant 144 = .ok (.iload_n 1, 1) := by decide +kernel
theorem dX12_meant_145 : decode cX12_meant 145 = .ok (.iconst 4, 1) := by decide +kernel
theorem dX12_meant_146 : decode cX12_meant 146 = .ok (.if_icmp .ne 59, 3) := by decide +kernel
theorem dX12_meant_149 : decode cX12_meant 149 = .ok (.aload_n 0, 1) := by decide +kernel
theorem dX12_meant_150 : decode cX12_meant 150 = .ok (.getfield 148, 3) := by decide +kernel
theorem dX12_meant_153 : decode cX12_meant 153 = .ok (.bipush 40, 2) := by decide +kernel
theorem dX12_meant_155 : decode cX12_meant 155 = .ok (.iload 4, 2) := by decide +kernel
theorem dX12_meant_157 : decode cX12_meant 157 = .ok (.imul, 1) := by decide +kernel
theorem dX12_meant_158 : decode cX12_meant 158 = .ok (.iload 6, 2) := by decide +kernel
theorem dX12_meant_160 : decode cX12_meant 160 = .ok (.iadd, 1) := by decide +kernel
theorem dX12_meant_161 : decode cX12_meant 161 = .ok (.baload, 1) := by decide +kernel
theorem dX12_meant_162 : decode cX12_meant 162 = .ok (.ifCond .eq 37, 3) := by decide +kernel
theorem dX12_meant_165 : decode cX12_meant 165 = .ok (.aload_n 0, 1) := by decide +kernel
theorem dX12_meant_166 : decode cX12_meant 166 = .ok (.getfield 148, 3) := by decide +kernel
theorem dX12_meant_169 : decode cX12_meant 169 = .ok (.bipush 40, 2) := by decide +kernel
theorem dX12_meant_171 : decode cX12_meant 171 = .ok (.iload 5, 2) := by decide +kernel
theorem dX12_meant_173 : decode cX12_meant 173 = .ok (.imul, 1) := by decide +kernel
theorem dX12_meant_174 : decode cX12_meant 174 = .ok (.iload 6, 2) := by decide +kernel
theorem dX12_meant_176 : decode cX12_meant 176 = .ok (.iadd, 1) := by decide +kernel
theorem dX12_meant_177 : decode cX12_meant 177 = .ok (.baload, 1) := by decide +kernel
theorem dX12_meant_178 : decode cX12_meant 178 = .ok (.ifCond .eq 21, 3) := by decide +kernel
theorem dX12_meant_181 : decode cX12_meant 181 = .ok (.aload_n 0, 1) := by decide +kernel
theorem dX12_meant_182 : decode cX12_meant 182 = .ok (.iload_n 2, 1) := by decide +kernel
theorem dX12_meant_183 : decode cX12_meant 183 = .ok (.aload_n 0, 1) := by decide +kernel
theorem dX12_meant_184 : decode cX12_meant 184 = .ok (.getfield 145, 3) := by decide +kernel
theorem dX12_meant_187 : decode cX12_meant 187 = .ok (.iload 6, 2) := by decide +kernel
theorem dX12_meant_189 : decode cX12_meant 189 = .ok (.iaload, 1) := by decide +kernel
theorem dX12_meant_190 : decode cX12_meant 190 = .ok (.invokevirtual 519, 3) := by decide +kernel
theorem dX12_meant_193 : decode cX12_meant 193 = .ok (.ifCond .eq 6, 3) := by decide +kernel
theorem dX12_meant_196 : decode cX12_meant 196 = .ok (.iinc 3 1, 3) := by decide +kernel
theorem dX12_meant_199 : decode cX12_meant 199 = .ok (.iinc 6 1, 3) := by decide +kernel
theorem dX12_meant_202 : decode cX12_meant 202 = .ok (.goto (-67), 3) := by decide +kernel
theorem dX12_meant_205 : decode cX12_meant 205 = .ok (.iinc 5 1, 3) := by decide +kernel
theorem dX12_meant_208 : decode cX12_meant 208 = .ok (.goto (-130), 3) := by decide +kernel
theorem dX12_meant_211 : decode cX12_meant 211 = .ok (.iinc 4 1, 3) := by decide +kernel
theorem dX12_meant_214 : decode cX12_meant 214 = .ok (.goto (-169), 3) := by decide +kernel
theorem dX12_meant_217 : decode cX12_meant 217 = .ok (.iload_n 3, 1) := by decide +kernel
theorem dX12_meant_218 : decode cX12_meant 218 = .ok (.ireturn, 1) := by decide +kernel
theorem dX12_within_0 : decode cX12_within 0 = .ok (.iload_n 0, 1) := by decide +kernel
theorem dX12_within_1 : decode cX12_within 1 = .ok (.iload_n 1, 1) := by decide +kernel
theorem dX12_within_2 : decode cX12_within 2 = .ok (.irem, 1) := by decide +kernel
theorem dX12_within_3 : decode cX12_within 3 = .ok (.iload_n 1, 1) := by decide +kernel
theorem dX12_within_4 : decode cX12_within 4 = .ok (.iadd, 1) := by decide +kernel
theorem dX12_within_5 : decode cX12_within 5 = .ok (.iload_n 1, 1) := by decide +kernel
theorem dX12_within_6 : decode cX12_within 6 = .ok (.irem, 1) := by decide +kernel
theorem dX12_within_7 : decode cX12_within 7 = .ok (.ireturn, 1) := by decide +kernel
theorem dX12_roundNote_0 : decode cX12_roundNote 0 = .ok (.iload_n 2, 1) := by decide +kernel
theorem dX12_roundNote_1 : decode cX12_roundNote 1 = .ok (.iload_n 1, 1) := by decide +kernel
theorem dX12_roundNote_2 : decode cX12_roundNote 2 = .ok (.invokestatic 389, 3) := by decide +kernel
theorem dX12_roundNote_5 : decode cX12_roundNote 5 = .ok (.isub, 1) := by decide +kernel
theorem dX12_roundNote_6 : decode cX12_roundNote 6 = .ok (.aload_n 0, 1) := by decide +kernel
theorem dX12_roundNote_7 : decode cX12_roundNote 7 = .ok (.getfield 267, 3) := by decide +kernel
theorem dX12_roundNote_10 : decode cX12_roundNote 10 = .ok (.invokestatic 539, 3) := by decide +kernel
theorem dX12_roundNote_13 : decode cX12_roundNote 13 = .ok (.istore_n 3, 1) := by decide +kernel
theorem dX12_roundNote_14 : decode cX12_roundNote 14 = .ok (.aload_n 0, 1) := by decide +kernel
theorem dX12_roundNote_15 : decode cX12_roundNote 15 = .ok (.getfield 102, 3) := by decide +kernel
theorem dX12_roundNote_18 : decode cX12_roundNote 18 = .ok (.iload_n 1, 1) := by decide +kernel
theorem dX12_roundNote_19 : decode cX12_roundNote 19 = .ok (.invokestatic 395, 3) := by decide +kernel
theorem dX12_roundNote_22 : decode cX12_roundNote 22 = .ok (.iconst 1, 1) := by decide +kernel
theorem dX12_roundNote_23 : decode cX12_roundNote 23 = .ok (.if_icmp .ne 14, 3) := by decide +kernel
theorem dX12_roundNote_26 : decode cX12_roundNote 26 = .ok (.aload_n 0, 1) := by decide +kernel
theorem dX12_roundNote_27 : decode cX12_roundNote 27 = .ok (.getfield 267, 3) := by decide +kernel
theorem dX12_roundNote_30 : decode cX12_roundNote 30 = .ok (.iconst 1, 1) := by decide +kernel
theorem dX12_roundNote_31 : decode cX12_roundNote 31 = .ok (.isub, 1) := by decide +kernel
theorem dX12_roundNote_32 : decode cX12_roundNote 32 = .ok (.iload_n 3, 1) := by decide +kernel
theorem dX12_roundNote_33 : decode cX12_roundNote 33 = .ok (.isub, 1) := by decide +kernel
theorem dX12_roundNote_34 : decode cX12_roundNote 34 = .ok (.goto 4, 3) := by decide +kernel
theorem dX12_roundNote_37 : decode cX12_roundNote 37 = .ok (.iload_n 3, 1) := by decide +kernel
theorem dX12_roundNote_38 : decode cX12_roundNote 38 = .ok (.iaload, 1) := by decide +kernel
theorem dX12_roundNote_39 : decode cX12_roundNote 39 = .ok (.ireturn, 1) := by decide +kernel
theorem dX12_round_0 : decode cX12_round 0 = .ok (.iload_n 1, 1) := by decide +kernel
theorem dX12_round_1 : decode cX12_round 1 = .ok (.invokestatic 423, 3) := by decide +kernel
theorem dX12_round_4 : decode cX12_round 4 = .ok (.ifCond .eq 23, 3) := by decide +kernel
theorem dX12_round_7 : decode cX12_round 7 = .ok (.iload_n 1, 1) := by decide +kernel
theorem dX12_round_8 : decode cX12_round 8 = .ok (.bipush 84, 2) := by decide +kernel
theorem dX12_round_10 : decode cX12_round 10 = .ok (.if_icmp .eq 17, 3) := by decide +kernel
theorem dX12_round_13 : decode cX12_round 13 = .ok (.iload_n 1, 1) := by decide +kernel
theorem dX12_round_14 : decode cX12_round 14 = .ok (.invokestatic 385, 3) := by decide +kernel
theorem dX12_round_17 : decode cX12_round 17 = .ok (.ifCond .ne 10, 3) := by decide +kernel
theorem dX12_round_20 : decode cX12_round 20 = .ok (.aload_n 0, 1) := by decide +kernel
theorem dX12_round_21 : decode cX12_round 21 = .ok (.getfield 261, 3) := by decide +kernel
theorem dX12_round_24 : decode cX12_round 24 = .ok (.ifCond .ne 5, 3) := by decide +kernel
theorem dX12_round_27 : decode cX12_round 27 = .ok (.iconst (-1), 1) := by decide +kernel
theorem dX12_round_28 : decode cX12_round 28 = .ok (.ireturn, 1) := by decide +kernel
theorem dX12_round_29 : decode cX12_round 29 = .ok (.iload_n 1, 1) := by decide +kernel
theorem dX12_round_30 : decode cX12_round 30 = .ok (.invokestatic 389, 3) := by decide +kernel
theorem dX12_round_33 : decode cX12_round 33 = .ok (.istore_n 2, 1) := by decide +kernel
theorem dX12_round_34 : decode cX12_round 34 = .ok (.iload_n 2, 1) := by decide +kernel
theorem dX12_round_35 : decode cX12_round 35 = .ok (.iload_n 1, 1) := by decide +kernel
theorem dX12_round_36 : decode cX12_round 36 = .ok (.invokestatic 389, 3) := by decide +kernel
theorem dX12_round_39 : decode cX12_round 39 = .ok (.aload_n 0, 1) := by decide +kernel
theorem dX12_round_40 : decode cX12_round 40 = .ok (.getfield 267, 3) := by decide +kernel
theorem dX12_round_43 : decode cX12_round 43 = .ok (.iadd, 1) := by decide +kernel
theorem dX12_round_44 : decode cX12_round 44 = .ok (.if_icmp .ge 143, 3) := by decide +kernel
theorem dX12_round_47 : decode cX12_round 47 = .ok (.aload_n 0, 1) := by decide +kernel
theorem dX12_round_48 : decode cX12_round 48 = .ok (.bipush 84, 2) := by decide +kernel
theorem dX12_round_50 : decode cX12_round 50 = .ok (.iload_n 2, 1) := by decide +kernel
theorem dX12_round_51 : decode cX12_round 51 = .ok (.invokevirtual 542, 3) := by decide +kernel
theorem dX12_round_54 : decode cX12_round 54 = .ok (.istore_n 3, 1) := by decide +kernel
theorem dX12_round_55 : decode cX12_round 55 = .ok (.aload_n 0, 1) := by decide +kernel
theorem dX12_round_56 : decode cX12_round 56 = .ok (.iload_n 1, 1) := by decide +kernel
theorem dX12_round_57 : decode cX12_round 57 = .ok (.iload_n 2, 1) := by decide +kernel
theorem dX12_round_58 : decode cX12_round 58 = .ok (.invokevirtual 542, 3) := by decide +kernel
theorem dX12_round_61 : decode cX12_round 61 = .ok (.istore 4, 2) := by decide +kernel
theorem dX12_round_63 : decode cX12_round 63 = .ok (.aload_n 0, 1) := by decide +kernel
theorem dX12_round_64 : decode cX12_round 64 = .ok (.bipush 84, 2) := by decide +kernel
theorem dX12_round_66 : decode cX12_round 66 = .ok (.iload_n 2, 1) := by decide +kernel
theorem dX12_round_67 : decode cX12_round 67 = .ok (.iconst 1, 1) := by decide +kernel
theorem dX12_round_68 : decode cX12_round 68 = .ok (.isub, 1) := by decide +kernel
theorem dX12_round_69 : decode cX12_round 69 = .ok (.invokevirtual 542, 3) := by decide +kernel
theorem dX12_round_72 : decode cX12_round 72 = .ok (.istore 5, 2) := by decide +kernel
theorem dX12_round_74 : decode cX12_round 74 = .ok (.aload_n 0, 1) := by decide +kernel
theorem dX12_round_75 : decode cX12_round 75 = .ok (.iload_n 1, 1) := by decide +kernel
theorem dX12_round_76 : decode cX12_round 76 = .ok (.iload_n 2, 1) := by decide +kernel
theorem dX12_round_77 : decode cX12_round 77 = .ok (.iconst 1, 1) := by decide +kernel
theorem dX12_round_78 : decode cX12_round 78 = .ok (.isub, 1) := by decide +kernel
theorem dX12_round_79 : decode cX12_round 79 = .ok (.invokevirtual 542, 3) := by decide +kernel
theorem dX12_round_82 : decode cX12_round 82 = .ok (.istore 6, 2) := by decide +kernel
theorem dX12_round_84 : decode cX12_round 84 = .ok (.aload_n 0, 1) := by decide +kernel
theorem dX12_round_85 : decode cX12_round 85 = .ok (.aload_n 0, 1) := by decide +kernel
theorem dX12_round_86 : decode cX12_round 86 = .ok (.bipush 84, 2) := by decide +kernel
theorem dX12_round_88 : decode cX12_round 88 = .ok (.iload_n 3, 1) := by decide +kernel
theorem dX12_round_89 : decode cX12_round 89 = .ok (.invokevirtual 408, 3) := by decide +kernel
theorem dX12_round_92 : decode cX12_round 92 = .ok (.putfield 434, 3) := by decide +kernel
theorem dX12_round_95 : decode cX12_round 95 = .ok (.aload_n 0, 1) := by decide +kernel
theorem dX12_round_96 : decode cX12_round 96 = .ok (.aload_n 0, 1) := by decide +kernel
theorem dX12_round_97 : decode cX12_round 97 = .ok (.iload_n 1, 1) := by decide +kernel
theorem dX12_round_98 : decode cX12_round 98 = .ok (.iload 4, 2) := by decide +kernel
theorem dX12_round_100 : decode cX12_round 100 = .ok (.invokevirtual 408, 3) := by decide +kernel
theorem dX12_round_103 : decode cX12_round 103 = .ok (.putfield 437, 3) := by decide +kernel
theorem dX12_round_106 : decode cX12_round 106 = .ok (.aload_n 0, 1) := by decide +kernel
theorem dX12_round_107 : decode cX12_round 107 = .ok (.aload_n 0, 1) := by decide +kernel
theorem dX12_round_108 : decode cX12_round 108 = .ok (.bipush 84, 2) := by decide +kernel
theorem dX12_round_110 : decode cX12_round 110 = .ok (.iload 5, 2) := by decide +kernel
theorem dX12_round_112 : decode cX12_round 112 = .ok (.invokevirtual 408, 3) := by decide +kernel
theorem dX12_round_115 : decode cX12_round 115 = .ok (.putfield 443, 3) := by decide +kernel
theorem dX12_round_118 : decode cX12_round 118 = .ok (.aload_n 0, 1) := by decide +kernel
theorem dX12_round_119 : decode cX12_round 119 = .ok (.aload_n 0, 1) := by decide +kernel
theorem dX12_round_120 : decode cX12_round 120 = .ok (.iload_n 1, 1) := by decide +kernel
theorem dX12_round_121 : decode cX12_round 121 = .ok (.iload 6, 2) := by decide +kernel
theorem dX12_round_123 : decode cX12_round 123 = .ok (.invokevirtual 408, 3) := by decide +kernel
theorem dX12_round_126 : decode cX12_round 126 = .ok (.putfield 446, 3) := by decide +kernel
theorem dX12_round_129 : decode cX12_round 129 = .ok (.aload_n 0, 1) := by decide +kernel
theorem dX12_round_130 : decode cX12_round 130 = .ok (.getfield 434, 3) := by decide +kernel
theorem dX12_round_133 : decode cX12_round 133 = .ok (.ldc_w 398, 3) := by decide +kernel
theorem dX12_round_136 : decode cX12_round 136 = .ok (.if_icmp .eq 45, 3) := by decide +kernel
theorem dX12_round_139 : decode cX12_round 139 = .ok (.aload_n 0, 1) := by decide +kernel
theorem dX12_round_140 : decode cX12_round 140 = .ok (.getfield 437, 3) := by decide +kernel
theorem dX12_round_143 : decode cX12_round 143 = .ok (.ldc_w 398, 3) := by decide +kernel
theorem dX12_round_146 : decode cX12_round 146 = .ok (.if_icmp .eq 35, 3) := by decide +kernel
theorem dX12_round_149 : decode cX12_round 149 = .ok (.iload_n 3, 1) := by decide +kernel
theorem dX12_round_150 : decode cX12_round 150 = .ok (.iload 5, 2) := by decide +kernel
theorem dX12_round_152 : decode cX12_round 152 = .ok (.if_icmp .ne 13, 3) := by decide +kernel
theorem dX12_round_155 : decode cX12_round 155 = .ok (.iload 4, 2) := by decide +kernel
theorem dX12_round_157 : decode cX12_round 157 = .ok (.iload 6, 2) := by decide +kernel
theorem dX12_round_159 : decode cX12_round 159 = .ok (.if_icmp .ne 6, 3) := by decide +kernel
theorem dX12_round_162 : decode cX12_round 162 = .ok (.goto 19, 3) := by decide +kernel
theorem dX12_round_165 : decode cX12_round 165 = .ok (.aload_n 0, 1) := by decide +kernel
theorem dX12_round_166 : decode cX12_round 166 = .ok (.iload_n 2, 1) := by decide +kernel
theorem dX12_round_167 : decode cX12_round 167 = .ok (.iconst 0, 1) := by decide +kernel
theorem dX12_round_168 : decode cX12_round 168 = .ok (.invokevirtual 453, 3) := by decide +kernel
theorem dX12_round_171 : decode cX12_round 171 = .ok (.aload_n 0, 1) := by decide +kernel
theorem dX12_round_172 : decode cX12_round 172 = .ok (.invokevirtual 457, 3) := by decide +kernel
theorem dX12_round_175 : decode cX12_round 175 = .ok (.iconst (-1), 1) := by decide +kernel
theorem dX12_round_176 : decode cX12_round 176 = .ok (.if_icmp .eq 5, 3) := by decide +kernel
theorem dX12_round_179 : decode cX12_round 179 = .ok (.iload_n 2, 1) := by decide +kernel
theorem dX12_round_180 : decode cX12_round 180 = .ok (.ireturn, 1) := by decide +kernel
theorem dX12_round_181 : decode cX12_round 181 = .ok (.iinc 2 1, 3) := by decide +kernel
theorem dX12_round_184 : decode cX12_round 184 = .ok (.goto (-150), 3) := by decide +kernel
theorem dX12_round_187 : decode cX12_round 187 = .ok (.iconst (-1), 1) := by decide +kernel
theorem dX12_round_188 : decode cX12_round 188 = .ok (.ireturn, 1) := by decide +kernel
theorem dX12_putsAside_0 : decode cX12_putsAside 0 = .ok (.aload_n 0, 1) := by decide +kernel
theorem dX12_putsAside_1 : decode cX12_putsAside 1 = .ok (.aload_n 0, 1) := by decide +kernel
theorem dX12_putsAside_2 : decode cX12_putsAside 2 = .ok (.getfield 261, 3) := by decide +kernel
theorem dX12_putsAside_5 : decode cX12_putsAside 5 = .ok (.putfield 545, 3) := by decide +kernel
theorem dX12_putsAside_8 : decode cX12_putsAside 8 = .ok (.iconst 0, 1) := by decide +kernel
theorem dX12_putsAside_9 : decode cX12_putsAside 9 = .ok (.istore_n 1, 1) := by decide +kernel
theorem dX12_putsAside_10 : decode cX12_putsAside 10 = .ok (.iload_n 1, 1) := by decide +kernel
theorem dX12_putsAside_11 : decode cX12_putsAside 11 = .ok (.aload_n 0, 1) := by decide +kernel
theorem dX12_putsAside_12 : decode cX12_putsAside 12 = .ok (.getfield 261, 3) := by decide +kernel
theorem dX12_putsAside_15 : decode cX12_putsAside 15 = .ok (.if_icmp .ge 33, 3) := by decide +kernel
theorem dX12_putsAside_18 : decode cX12_putsAside 18 = .ok (.aload_n 0, 1) := by decide +kernel
theorem dX12_putsAside_19 : decode cX12_putsAside 19 = .ok (.getfield 158, 3) := by decide +kernel
theorem dX12_putsAside_22 : decode cX12_putsAside 22 = .ok (.iload_n 1, 1) := by decide +kernel
theorem dX12_putsAside_23 : decode cX12_putsAside 23 = .ok (.aload_n 0, 1) := by decide +kernel
theorem dX12_putsAside_24 : decode cX12_putsAside 24 = .ok (.getfield 96, 3) := by decide +kernel
theorem dX12_putsAside_27 : decode cX12_putsAside 27 = .ok (.iload_n 1, 1) := by decide +kernel
theorem dX12_putsAside_28 : decode cX12_putsAside 28 = .ok (.iaload, 1) := by decide +kernel
theorem dX12_putsAside_29 : decode cX12_putsAside 29 = .ok (.iastore, 1) := by decide +kernel
theorem dX12_putsAside_30 : decode cX12_putsAside 30 = .ok (.aload_n 0, 1) := by decide +kernel
theorem dX12_putsAside_31 : decode cX12_putsAside 31 = .ok (.getfield 161, 3) := by decide +kernel
theorem dX12_putsAside_34 : decode cX12_putsAside 34 = .ok (.iload_n 1, 1) := by decide +kernel
theorem dX12_putsAside_35 : decode cX12_putsAside 35 = .ok (.aload_n 0, 1) := by decide +kernel
theorem dX12_putsAside_36 : decode cX12_putsAside 36 = .ok (.getfield 99, 3) := by decide +kernel
theorem dX12_putsAside_39 : decode cX12_putsAside 39 = .ok (.iload_n 1, 1) := by decide +kernel
theorem dX12_putsAside_40 : decode cX12_putsAside 40 = .ok (.iaload, 1) := by decide +kernel
theorem dX12_putsAside_41 : decode cX12_putsAside 41 = .ok (.iastore, 1) := by decide +kernel
theorem dX12_putsAside_42 : decode cX12_putsAside 42 = .ok (.iinc 1 1, 3) := by decide +kernel
theorem dX12_putsAside_45 : decode cX12_putsAside 45 = .ok (.goto (-35), 3) := by decide +kernel
theorem dX12_putsAside_48 : decode cX12_putsAside 48 = .ok (.return_, 1) := by decide +kernel
theorem dX12_takesBack_0 : decode cX12_takesBack 0 = .ok (.aload_n 0, 1) := by decide +kernel
theorem dX12_takesBack_1 : decode cX12_takesBack 1 = .ok (.aload_n 0, 1) := by decide +kernel
theorem dX12_takesBack_2 : decode cX12_takesBack 2 = .ok (.getfield 545, 3) := by decide +kernel
theorem dX12_takesBack_5 : decode cX12_takesBack 5 = .ok (.putfield 261, 3) := by decide +kernel
theorem dX12_takesBack_8 : decode cX12_takesBack 8 = .ok (.iconst 0, 1) := by decide +kernel
theorem dX12_takesBack_9 : decode cX12_takesBack 9 = .ok (.istore_n 1, 1) := by decide +kernel
theorem dX12_takesBack_10 : decode cX12_takesBack 10 = .ok (.iload_n 1, 1) := by decide +kernel
theorem dX12_takesBack_11 : decode cX12_takesBack 11 = .ok (.aload_n 0, 1) := by decide +kernel
theorem dX12_takesBack_12 : decode cX12_takesBack 12 = .ok (.getfield 261, 3) := by decide +kernel
theorem dX12_takesBack_15 : decode cX12_takesBack 15 = .ok (.if_icmp .ge 33, 3) := by decide +kernel
theorem dX12_takesBack_18 : decode cX12_takesBack 18 = .ok (.aload_n 0, 1) := by decide +kernel
theorem dX12_takesBack_19 : decode cX12_takesBack 19 = .ok (.getfield 96, 3) := by decide +kernel
theorem dX12_takesBack_22 : decode cX12_takesBack 22 = .ok (.iload_n 1, 1) := by decide +kernel
theorem dX12_takesBack_23 : decode cX12_takesBack 23 = .ok (.aload_n 0, 1) := by decide +kernel
theorem dX12_takesBack_24 : decode cX12_takesBack 24 = .ok (.getfield 158, 3) := by decide +kernel
theorem dX12_takesBack_27 : decode cX12_takesBack 27 = .ok (.iload_n 1, 1) := by decide +kernel
theorem dX12_takesBack_28 : decode cX12_takesBack 28 = .ok (.iaload, 1) := by decide +kernel
theorem dX12_takesBack_29 : decode cX12_takesBack 29 = .ok (.iastore, 1) := by decide +kernel
theorem dX12_takesBack_30 : decode cX12_takesBack 30 = .ok (.aload_n 0, 1) := by decide +kernel
theorem dX12_takesBack_31 : decode cX12_takesBack 31 = .ok (.getfield 99, 3) := by decide +kernel
theorem dX12_takesBack_34 : decode cX12_takesBack 34 = .ok (.iload_n 1, 1) := by decide +kernel
theorem dX12_takesBack_35 : decode cX12_takesBack 35 = .ok (.aload_n 0, 1) := by decide +kernel
theorem dX12_takesBack_36 : decode cX12_takesBack 36 = .ok (.getfield 161, 3) := by decide +kernel
theorem dX12_takesBack_39 : decode cX12_takesBack 39 = .ok (.iload_n 1, 1) := by decide +kernel
theorem dX12_takesBack_40 : decode cX12_takesBack 40 = .ok (.iaload, 1) := by decide +kernel
theorem dX12_takesBack_41 : decode cX12_takesBack 41 = .ok (.iastore, 1) := by decide +kernel
theorem dX12_takesBack_42 : decode cX12_takesBack 42 = .ok (.iinc 1 1, 3) := by decide +kernel
theorem dX12_takesBack_45 : decode cX12_takesBack 45 = .ok (.goto (-35), 3) := by decide +kernel
theorem dX12_takesBack_48 : decode cX12_takesBack 48 = .ok (.aload_n 0, 1) := by decide +kernel
theorem dX12_takesBack_49 : decode cX12_takesBack 49 = .ok (.invokevirtual 264, 3) := by decide +kernel
theorem dX12_takesBack_52 : decode cX12_takesBack 52 = .ok (.return_, 1) := by decide +kernel
theorem dX12_firstLine_0 : decode cX12_firstLine 0 = .ok (.aload_n 0, 1) := by decide +kernel
theorem dX12_firstLine_1 : decode cX12_firstLine 1 = .ok (.iload_n 1, 1) := by decide +kernel
theorem dX12_firstLine_2 : decode cX12_firstLine 2 = .ok (.putfield 261, 3) := by decide +kernel
theorem dX12_firstLine_5 : decode cX12_firstLine 5 = .ok (.iconst 0, 1) := by decide +kernel
theorem dX12_firstLine_6 : decode cX12_firstLine 6 = .ok (.istore_n 3, 1) := by decide +kernel
theorem dX12_firstLine_7 : decode cX12_firstLine 7 = .ok (.iload_n 3, 1) := by decide +kernel
theorem dX12_firstLine_8 : decode cX12_firstLine 8 = .ok (.iload_n 1, 1) := by decide +kernel
theorem dX12_firstLine_9 : decode cX12_firstLine 9 = .ok (.if_icmp .ge 25, 3) := by decide +kernel
theorem dX12_firstLine_12 : decode cX12_firstLine 12 = .ok (.aload_n 0, 1) := by decide +kernel
theorem dX12_firstLine_13 : decode cX12_firstLine 13 = .ok (.getfield 96, 3) := by decide +kernel
theorem dX12_firstLine_16 : decode cX12_firstLine 16 = .ok (.iload_n 3, 1) := by decide +kernel
theorem dX12_firstLine_17 : decode cX12_firstLine 17 = .ok (.iload_n 3, 1) := by decide +kernel
theorem dX12_firstLine_18 : decode cX12_firstLine 18 = .ok (.iconst 2, 1) := by decide +kernel
theorem dX12_firstLine_19 : decode cX12_firstLine 19 = .ok (.irem, 1) := by decide +kernel
theorem dX12_firstLine_20 : decode cX12_firstLine 20 = .ok (.iastore, 1) := by decide +kernel
theorem dX12_firstLine_21 : decode cX12_firstLine 21 = .ok (.aload_n 0, 1) := by decide +kernel
theorem dX12_firstLine_22 : decode cX12_firstLine 22 = .ok (.getfield 99, 3) := by decide +kernel
theorem dX12_firstLine_25 : decode cX12_firstLine 25 = .ok (.iload_n 3, 1) := by decide +kernel
theorem dX12_firstLine_26 : decode cX12_firstLine 26 = .ok (.iconst 2, 1) := by decide +kernel
theorem dX12_firstLine_27 : decode cX12_firstLine 27 = .ok (.iastore, 1) := by decide +kernel
theorem dX12_firstLine_28 : decode cX12_firstLine 28 = .ok (.iinc 3 1, 3) := by decide +kernel
theorem dX12_firstLine_31 : decode cX12_firstLine 31 = .ok (.goto (-24), 3) := by decide +kernel
theorem dX12_firstLine_34 : decode cX12_firstLine 34 = .ok (.aload_n 0, 1) := by decide +kernel
theorem dX12_firstLine_35 : decode cX12_firstLine 35 = .ok (.invokevirtual 264, 3) := by decide +kernel
theorem dX12_firstLine_38 : decode cX12_firstLine 38 = .ok (.iload_n 1, 1) := by decide +kernel
theorem dX12_firstLine_39 : decode cX12_firstLine 39 = .ok (.iconst 1, 1) := by decide +kernel
theorem dX12_firstLine_40 : decode cX12_firstLine 40 = .ok (.if_icmp .eq 7, 3) := by decide +kernel
theorem dX12_firstLine_43 : decode cX12_firstLine 43 = .ok (.iload_n 2, 1) := by decide +kernel
theorem dX12_firstLine_44 : decode cX12_firstLine 44 = .ok (.ifCond .le 7, 3) := by decide +kernel
theorem dX12_firstLine_47 : decode cX12_firstLine 47 = .ok (.iconst 1, 1) := by decide +kernel
theorem dX12_firstLine_48 : decode cX12_firstLine 48 = .ok (.goto 4, 3) := by decide +kernel
theorem dX12_firstLine_51 : decode cX12_firstLine 51 = .ok (.iconst 0, 1) := by decide +kernel
theorem dX12_firstLine_52 : decode cX12_firstLine 52 = .ok (.ireturn, 1) := by decide +kernel
theorem dX12_nextLine_0 : decode cX12_nextLine 0 = .ok (.aload_n 0, 1) := by decide +kernel
theorem dX12_nextLine_1 : decode cX12_nextLine 1 = .ok (.getfield 261, 3) := by decide +kernel
theorem dX12_nextLine_4 : decode cX12_nextLine 4 = .ok (.iconst 1, 1) := by decide +kernel
theorem dX12_nextLine_5 : decode cX12_nextLine 5 = .ok (.isub, 1) := by decide +kernel
theorem dX12_nextLine_6 : decode cX12_nextLine 6 = .ok (.istore_n 2, 1) := by decide +kernel
theorem dX12_nextLine_7 : decode cX12_nextLine 7 = .ok (.iload_n 2, 1) := by decide +kernel
theorem dX12_nextLine_8 : decode cX12_nextLine 8 = .ok (.ifCond .lt 63, 3) := by decide +kernel
theorem dX12_nextLine_11 : decode cX12_nextLine 11 = .ok (.aload_n 0, 1) := by decide +kernel
theorem dX12_nextLine_12 : decode cX12_nextLine 12 = .ok (.getfield 96, 3) := by decide +kernel
theorem dX12_nextLine_15 : decode cX12_nextLine 15 = .ok (.iload_n 2, 1) := by decide +kernel
theorem dX12_nextLine_16 : decode cX12_nextLine 16 = .ok (.dup2, 1) := by decide +kernel
theorem dX12_nextLine_17 : decode cX12_nextLine 17 = .ok (.iaload, 1) := by decide +kernel
theorem dX12_nextLine_18 : decode cX12_nextLine 18 = .ok (.iconst 1, 1) := by decide +kernel
theorem dX12_nextLine_19 : decode cX12_nextLine 19 = .ok (.iadd, 1) := by decide +kernel
theorem dX12_nextLine_20 : decode cX12_nextLine 20 = .ok (.iastore, 1) := by decide +kernel
theorem dX12_nextLine_21 : decode cX12_nextLine 21 = .ok (.iload_n 2, 1) := by decide +kernel
theorem dX12_nextLine_22 : decode cX12_nextLine 22 = .ok (.ifCond .le 30, 3) := by decide +kernel
theorem dX12_nextLine_25 : decode cX12_nextLine 25 = .ok (.aload_n 0, 1) := by decide +kernel
theorem dX12_nextLine_26 : decode cX12_nextLine 26 = .ok (.getfield 96, 3) := by decide +kernel
theorem dX12_nextLine_29 : decode cX12_nextLine 29 = .ok (.iload_n 2, 1) := by decide +kernel
theorem dX12_nextLine_30 : decode cX12_nextLine 30 = .ok (.iaload, 1) := by decide +kernel
theorem dX12_nextLine_31 : decode cX12_nextLine 31 = .ok (.aload_n 0, 1) := by decide +kernel
theorem dX12_nextLine_32 : decode cX12_nextLine 32 = .ok (.getfield 96, 3) := by decide +kernel
theorem dX12_nextLine_35 : decode cX12_nextLine 35 = .ok (.iload_n 2, 1) := by decide +kernel
theorem dX12_nextLine_36 : decode cX12_nextLine 36 = .ok (.iconst 1, 1) := by decide +kernel
theorem dX12_nextLine_37 : decode cX12_nextLine 37 = .ok (.isub, 1) := by decide +kernel
theorem dX12_nextLine_38 : decode cX12_nextLine 38 = .ok (.iaload, 1) := by decide +kernel
theorem dX12_nextLine_39 : decode cX12_nextLine 39 = .ok (.if_icmp .ne 13, 3) := by decide +kernel
theorem dX12_nextLine_42 : decode cX12_nextLine 42 = .ok (.aload_n 0, 1) := by decide +kernel
theorem dX12_nextLine_43 : decode cX12_nextLine 43 = .ok (.getfield 96, 3) := by decide +kernel
theorem dX12_nextLine_46 : decode cX12_nextLine 46 = .ok (.iload_n 2, 1) := by decide +kernel
theorem dX12_nextLine_47 : decode cX12_nextLine 47 = .ok (.dup2, 1) := by decide +kernel
theorem dX12_nextLine_48 : decode cX12_nextLine 48 = .ok (.iaload, 1) := by decide +kernel
theorem dX12_nextLine_49 : decode cX12_nextLine 49 = .ok (.iconst 1, 1) := by decide +kernel
theorem dX12_nextLine_50 : decode cX12_nextLine 50 = .ok (.iadd, 1) := by decide +kernel
theorem dX12_nextLine_51 : decode cX12_nextLine 51 = .ok (.iastore, 1) := by decide +kernel
theorem dX12_nextLine_52 : decode cX12_nextLine 52 = .ok (.aload_n 0, 1) := by decide +kernel
theorem dX12_nextLine_53 : decode cX12_nextLine 53 = .ok (.getfield 96, 3) := by decide +kernel
theorem dX12_nextLine_56 : decode cX12_nextLine 56 = .ok (.iload_n 2, 1) := by decide +kernel
theorem dX12_nextLine_57 : decode cX12_nextLine 57 = .ok (.iaload, 1) := by decide +kernel
theorem dX12_nextLine_58 : decode cX12_nextLine 58 = .ok (.iload_n 1, 1) := by decide +kernel
theorem dX12_nextLine_59 : decode cX12_nextLine 59 = .ok (.if_icmp .gt 6, 3) := by decide +kernel
theorem dX12_nextLine_62 : decode cX12_nextLine 62 = .ok (.goto 9, 3) := by decide +kernel
theorem dX12_nextLine_65 : decode cX12_nextLine 65 = .ok (.iinc 2 (-1), 3) := by decide +kernel
theorem dX12_nextLine_68 : decode cX12_nextLine 68 = .ok (.goto (-61), 3) := by decide +kernel
theorem dX12_nextLine_71 : decode cX12_nextLine 71 = .ok (.iload_n 2, 1) := by decide +kernel
theorem dX12_nextLine_72 : decode cX12_nextLine 72 = .ok (.ifCond .ge 5, 3) := by decide +kernel
theorem dX12_nextLine_75 : decode cX12_nextLine 75 = .ok (.iconst 0, 1) := by decide +kernel
theorem dX12_nextLine_76 : decode cX12_nextLine 76 = .ok (.ireturn, 1) := by decide +kernel
theorem dX12_nextLine_77 : decode cX12_nextLine 77 = .ok (.iload_n 2, 1) := by decide +kernel
theorem dX12_nextLine_78 : decode cX12_nextLine 78 = .ok (.iconst 1, 1) := by decide +kernel
theorem dX12_nextLine_79 : decode cX12_nextLine 79 = .ok (.iadd, 1) := by decide +kernel
theorem dX12_nextLine_80 : decode cX12_nextLine 80 = .ok (.istore_n 3, 1) := by decide +kernel
theorem dX12_nextLine_81 : decode cX12_nextLine 81 = .ok (.iload_n 3, 1) := by decide +kernel
theorem dX12_nextLine_82 : decode cX12_nextLine 82 = .ok (.aload_n 0, 1) := by decide +kernel
theorem dX12_nextLine_83 : decode cX12_nextLine 83 = .ok (.getfield 261, 3) := by decide +kernel
theorem dX12_nextLine_86 : decode cX12_nextLine 86 = .ok (.if_icmp .ge 31, 3) := by decide +kernel
theorem dX12_nextLine_89 : decode cX12_nextLine 89 = .ok (.aload_n 0, 1) := by decide +kernel
theorem dX12_nextLine_90 : decode cX12_nextLine 90 = .ok (.getfield 96, 3) := by decide +kernel
theorem dX12_nextLine_93 : decode cX12_nextLine 93 = .ok (.iload_n 3, 1) := by decide +kernel
theorem dX12_nextLine_94 : decode cX12_nextLine 94 = .ok (.aload_n 0, 1) := by decide +kernel
theorem dX12_nextLine_95 : decode cX12_nextLine 95 = .ok (.getfield 96, 3) := by decide +kernel
theorem dX12_nextLine_98 : decode cX12_nextLine 98 = .ok (.iload_n 3, 1) := by decide +kernel
theorem dX12_nextLine_99 : decode cX12_nextLine 99 = .ok (.iconst 1, 1) := by decide +kernel
theorem dX12_nextLine_100 : decode cX12_nextLine 100 = .ok (.isub, 1) := by decide +kernel
theorem dX12_nextLine_101 : decode cX12_nextLine 101 = .ok (.iaload, 1) := by decide +kernel
theorem dX12_nextLine_102 : decode cX12_nextLine 102 = .ok (.ifCond .ne 7, 3) := by decide +kernel
theorem dX12_nextLine_105 : decode cX12_nextLine 105 = .ok (.iconst 1, 1) := by decide +kernel
theorem dX12_nextLine_106 : decode cX12_nextLine 106 = .ok (.goto 4, 3) := by decide +kernel
theorem dX12_nextLine_109 : decode cX12_nextLine 109 = .ok (.iconst 0, 1) := by decide +kernel
theorem dX12_nextLine_110 : decode cX12_nextLine 110 = .ok (.iastore, 1) := by decide +kernel
theorem dX12_nextLine_111 : decode cX12_nextLine 111 = .ok (.iinc 3 1, 3) := by decide +kernel
theorem dX12_nextLine_114 : decode cX12_nextLine 114 = .ok (.goto (-33), 3) := by decide +kernel
theorem dX12_nextLine_117 : decode cX12_nextLine 117 = .ok (.aload_n 0, 1) := by decide +kernel
theorem dX12_nextLine_118 : decode cX12_nextLine 118 = .ok (.invokevirtual 264, 3) := by decide +kernel
theorem dX12_nextLine_121 : decode cX12_nextLine 121 = .ok (.iconst 1, 1) := by decide +kernel
theorem dX12_nextLine_122 : decode cX12_nextLine 122 = .ok (.ireturn, 1) := by decide +kernel
theorem dX12_makes_0 : decode cX12_makes 0 = .ok (.aload_n 0, 1) := by decide +kernel
theorem dX12_makes_1 : decode cX12_makes 1 = .ok (.iload_n 2, 1) := by decide +kernel
theorem dX12_makes_2 : decode cX12_makes 2 = .ok (.iload_n 3, 1) := by decide +kernel
theorem dX12_makes_3 : decode cX12_makes 3 = .ok (.invokevirtual 548, 3) := by decide +kernel
theorem dX12_makes_6 : decode cX12_makes 6 = .ok (.istore 4, 2) := by decide +kernel
theorem dX12_makes_8 : decode cX12_makes 8 = .ok (.iload 4, 2) := by decide +kernel
theorem dX12_makes_10 : decode cX12_makes 10 = .ok (.ifCond .eq 26, 3) := by decide +kernel
theorem dX12_makes_13 : decode cX12_makes 13 = .ok (.aload_n 0, 1) := by decide +kernel
theorem dX12_makes_14 : decode cX12_makes 14 = .ok (.bipush 84, 2) := by decide +kernel
theorem dX12_makes_16 : decode cX12_makes 16 = .ok (.iload_n 1, 1) := by decide +kernel
theorem dX12_makes_17 : decode cX12_makes 17 = .ok (.invokevirtual 473, 3) := by decide +kernel
theorem dX12_makes_20 : decode cX12_makes 20 = .ok (.iconst (-1), 1) := by decide +kernel
theorem dX12_makes_21 : decode cX12_makes 21 = .ok (.if_icmp .ne 5, 3) := by decide +kernel
theorem dX12_makes_24 : decode cX12_makes 24 = .ok (.iconst 1, 1) := by decide +kernel
theorem dX12_makes_25 : decode cX12_makes 25 = .ok (.ireturn, 1) := by decide +kernel
theorem dX12_makes_26 : decode cX12_makes 26 = .ok (.aload_n 0, 1) := by decide +kernel
theorem dX12_makes_27 : decode cX12_makes 27 = .ok (.iload_n 3, 1) := by decide +kernel
theorem dX12_makes_28 : decode cX12_makes 28 = .ok (.invokevirtual 551, 3) := by decide +kernel
theorem dX12_makes_31 : decode cX12_makes 31 = .ok (.istore 4, 2) := by decide +kernel
theorem dX12_makes_33 : decode cX12_makes 33 = .ok (.goto (-25), 3) := by decide +kernel
theorem dX12_makes_36 : decode cX12_makes 36 = .ok (.iconst 0, 1) := by decide +kernel
theorem dX12_makes_37 : decode cX12_makes 37 = .ok (.ireturn, 1) := by decide +kernel
theorem dX12_isFollower_0 : decode cX12_isFollower 0 = .ok (.iload_n 0, 1) := by decide +kernel
theorem dX12_isFollower_1 : decode cX12_isFollower 1 = .ok (.invokestatic 423, 3) := by decide +kernel
theorem dX12_isFollower_4 : decode cX12_isFollower 4 = .ok (.ifCond .eq 13, 3) := by decide +kernel
theorem dX12_isFollower_7 : decode cX12_isFollower 7 = .ok (.iload_n 0, 1) := by decide +kernel
theorem dX12_isFollower_8 : decode cX12_isFollower 8 = .ok (.bipush 84, 2) := by decide +kernel
theorem dX12_isFollower_10 : decode cX12_isFollower 10 = .ok (.if_icmp .eq 7, 3) := by decide +kernel
theorem dX12_isFollower_13 : decode cX12_isFollower 13 = .ok (.iconst 1, 1) := by decide +kernel
theorem dX12_isFollower_14 : decode cX12_isFollower 14 = .ok (.goto 4, 3) := by decide +kernel
theorem dX12_isFollower_17 : decode cX12_isFollower 17 = .ok (.iconst 0, 1) := by decide +kernel
theorem dX12_isFollower_18 : decode cX12_isFollower 18 = .ok (.ireturn, 1) := by decide +kernel
theorem dX12_make_0 : decode cX12_make 0 = .ok (.iload_n 1, 1) := by decide +kernel
theorem dX12_make_1 : decode cX12_make 1 = .ok (.invokestatic 554, 3) := by decide +kernel
theorem dX12_make_4 : decode cX12_make 4 = .ok (.ifCond .eq 27, 3) := by decide +kernel
theorem dX12_make_7 : decode cX12_make 7 = .ok (.iload_n 2, 1) := by decide +kernel
theorem dX12_make_8 : decode cX12_make 8 = .ok (.i2l, 1) := by decide +kernel
theorem dX12_make_9 : decode cX12_make 9 = .ok (.lconst 1, 1) := by decide +kernel
theorem dX12_make_10 : decode cX12_make 10 = .ok (.ldc2_w 557, 3) := by decide +kernel
theorem dX12_make_13 : decode cX12_make 13 = .ok (.invokestatic 216, 3) := by decide +kernel
theorem dX12_make_16 : decode cX12_make 16 = .ok (.ifCond .eq 15, 3) := by decide +kernel
theorem dX12_make_19 : decode cX12_make 19 = .ok (.iload_n 3, 1) := by decide +kernel
theorem dX12_make_20 : decode cX12_make 20 = .ok (.i2l, 1) := by decide +kernel
theorem dX12_make_21 : decode cX12_make 21 = .ok (.lconst 0, 1) := by decide +kernel
theorem dX12_make_22 : decode cX12_make 22 = .ok (.ldc2_w 493, 3) := by decide +kernel
theorem dX12_make_25 : decode cX12_make 25 = .ok (.invokestatic 216, 3) := by decide +kernel
theorem dX12_make_28 : decode cX12_make 28 = .ok (.ifCond .ne 5, 3) := by decide +kernel
theorem dX12_make_31 : decode cX12_make 31 = .ok (.iconst (-1), 1) := by decide +kernel
theorem dX12_make_32 : decode cX12_make 32 = .ok (.ireturn, 1) := by decide +kernel
theorem dX12_make_33 : decode cX12_make 33 = .ok (.aload_n 0, 1) := by decide +kernel
theorem dX12_make_34 : decode cX12_make 34 = .ok (.invokevirtual 559, 3) := by decide +kernel
theorem dX12_make_37 : decode cX12_make 37 = .ok (.aload_n 0, 1) := by decide +kernel
theorem dX12_make_38 : decode cX12_make 38 = .ok (.iload_n 1, 1) := by decide +kernel
theorem dX12_make_39 : decode cX12_make 39 = .ok (.iload_n 2, 1) := by decide +kernel
theorem dX12_make_40 : decode cX12_make 40 = .ok (.iload_n 3, 1) := by decide +kernel
theorem dX12_make_41 : decode cX12_make 41 = .ok (.invokevirtual 562, 3) := by decide +kernel
theorem dX12_make_44 : decode cX12_make 44 = .ok (.ifCond .eq 5, 3) := by decide +kernel
theorem dX12_make_47 : decode cX12_make 47 = .ok (.iconst 1, 1) := by decide +kernel
theorem dX12_make_48 : decode cX12_make 48 = .ok (.ireturn, 1) := by decide +kernel
theorem dX12_make_49 : decode cX12_make 49 = .ok (.aload_n 0, 1) := by decide +kernel
theorem dX12_make_50 : decode cX12_make 50 = .ok (.invokevirtual 565, 3) := by decide +kernel
theorem dX12_make_53 : decode cX12_make 53 = .ok (.iconst 0, 1) := by decide +kernel
theorem dX12_make_54 : decode cX12_make 54 = .ok (.ireturn, 1) := by decide +kernel
theorem dX12_shortest_0 : decode cX12_shortest 0 = .ok (.iload_n 1, 1) := by decide +kernel
theorem dX12_shortest_1 : decode cX12_shortest 1 = .ok (.invokestatic 554, 3) := by decide +kernel
theorem dX12_shortest_4 : decode cX12_shortest 4 = .ok (.ifCond .eq 15, 3) := by decide +kernel
theorem dX12_shortest_7 : decode cX12_shortest 7 = .ok (.iload_n 2, 1) := by decide +kernel
theorem dX12_shortest_8 : decode cX12_shortest 8 = .ok (.i2l, 1) := by decide +kernel
theorem dX12_shortest_9 : decode cX12_shortest 9 = .ok (.lconst 0, 1) := by decide +kernel
theorem dX12_shortest_10 : decode cX12_shortest 10 = .ok (.ldc2_w 493, 3) := by decide +kernel
theorem dX12_shortest_13 : decode cX12_shortest 13 = .ok (.invokestatic 216, 3) := by decide +kernel
theorem dX12_shortest_16 : decode cX12_shortest 16 = .ok (.ifCond .ne 5, 3) := by decide +kernel
theorem dX12_shortest_19 : decode cX12_shortest 19 = .ok (.iconst (-1), 1) := by decide +kernel
theorem dX12_shortest_20 : decode cX12_shortest 20 = .ok (.ireturn, 1) := by decide +kernel
theorem dX12_shortest_21 : decode cX12_shortest 21 = .ok (.aload_n 0, 1) := by decide +kernel
theorem dX12_shortest_22 : decode cX12_shortest 22 = .ok (.invokevirtual 559, 3) := by decide +kernel
theorem dX12_shortest_25 : decode cX12_shortest 25 = .ok (.iconst (-1), 1) := by decide +kernel
theorem dX12_shortest_26 : decode cX12_shortest 26 = .ok (.istore_n 3, 1) := by decide +kernel
theorem dX12_shortest_27 : decode cX12_shortest 27 = .ok (.iconst 2, 1) := by decide +kernel
theorem dX12_shortest_28 : decode cX12_shortest 28 = .ok (.istore 4, 2) := by decide +kernel
theorem dX12_shortest_30 : decode cX12_shortest 30 = .ok (.iload 4, 2) := by decide +kernel
theorem dX12_shortest_32 : decode cX12_shortest 32 = .ok (.bipush 7, 2) := by decide +kernel
theorem dX12_shortest_34 : decode cX12_shortest 34 = .ok (.if_icmp .ge 28, 3) := by decide +kernel
theorem dX12_shortest_37 : decode cX12_shortest 37 = .ok (.iload_n 3, 1) := by decide +kernel
theorem dX12_shortest_38 : decode cX12_shortest 38 = .ok (.iconst (-1), 1) := by decide +kernel
theorem dX12_shortest_39 : decode cX12_shortest 39 = .ok (.if_icmp .ne 23, 3) := by decide +kernel
theorem dX12_shortest_42 : decode cX12_shortest 42 = .ok (.aload_n 0, 1) := by decide +kernel
theorem dX12_shortest_43 : decode cX12_shortest 43 = .ok (.iload_n 1, 1) := by decide +kernel
theorem dX12_shortest_44 : decode cX12_shortest 44 = .ok (.iload 4, 2) := by decide +kernel
theorem dX12_shortest_46 : decode cX12_shortest 46 = .ok (.iload_n 2, 1) := by decide +kernel
theorem dX12_shortest_47 : decode cX12_shortest 47 = .ok (.invokevirtual 562, 3) := by decide +kernel
theorem dX12_shortest_50 : decode cX12_shortest 50 = .ok (.ifCond .eq 6, 3) := by decide +kernel
theorem dX12_shortest_53 : decode cX12_shortest 53 = .ok (.iload 4, 2) := by decide +kernel
theorem dX12_shortest_55 : decode cX12_shortest 55 = .ok (.istore_n 3, 1) := by decide +kernel
theorem dX12_shortest_56 : decode cX12_shortest 56 = .ok (.iinc 4 1, 3) := by decide +kernel
theorem dX12_shortest_59 : decode cX12_shortest 59 = .ok (.goto (-29), 3) := by decide +kernel
theorem dX12_shortest_62 : decode cX12_shortest 62 = .ok (.aload_n 0, 1) := by decide +kernel
theorem dX12_shortest_63 : decode cX12_shortest 63 = .ok (.invokevirtual 565, 3) := by decide +kernel
theorem dX12_shortest_66 : decode cX12_shortest 66 = .ok (.iload_n 3, 1) := by decide +kernel
theorem dX12_shortest_67 : decode cX12_shortest 67 = .ok (.ireturn, 1) := by decide +kernel
theorem dX12_richest_0 : decode cX12_richest 0 = .ok (.iload_n 1, 1) := by decide +kernel
theorem dX12_richest_1 : decode cX12_richest 1 = .ok (.i2l, 1) := by decide +kernel
theorem dX12_richest_2 : decode cX12_richest 2 = .ok (.lconst 1, 1) := by decide +kernel
theorem dX12_richest_3 : decode cX12_richest 3 = .ok (.ldc2_w 493, 3) := by decide +kernel
theorem dX12_richest_6 : decode cX12_richest 6 = .ok (.invokestatic 216, 3) := by decide +kernel
theorem dX12_richest_9 : decode cX12_richest 9 = .ok (.ifCond .eq 25, 3) := by decide +kernel
theorem dX12_richest_12 : decode cX12_richest 12 = .ok (.iload_n 2, 1) := by decide +kernel
theorem dX12_richest_13 : decode cX12_richest 13 = .ok (.i2l, 1) := by decide +kernel
theorem dX12_richest_14 : decode cX12_richest 14 = .ok (.lconst 0, 1) := by decide +kernel
theorem dX12_richest_15 : decode cX12_richest 15 = .ok (.ldc2_w 417, 3) := by decide +kernel
theorem dX12_richest_18 : decode cX12_richest 18 = .ok (.invokestatic 216, 3) := by decide +kernel
theorem dX12_richest_21 : decode cX12_richest 21 = .ok (.ifCond .eq 13, 3) := by decide +kernel
theorem dX12_richest_24 : decode cX12_richest 24 = .ok (.iload_n 3, 1) := by decide +kernel
theorem dX12_richest_25 : decode cX12_richest 25 = .ok (.i2l, 1) := by decide +kernel
theorem dX12_richest_26 : decode cX12_richest 26 = .ok (.lconst 0, 1) := by decide +kernel
theorem dX12_richest_27 : decode cX12_richest 27 = .ok (.lconst 1, 1) := by decide +kernel
theorem dX12_richest_28 : decode cX12_richest 28 = .ok (.invokestatic 216, 3) := by decide +kernel
theorem dX12_richest_31 : decode cX12_richest 31 = .ok (.ifCond .ne 5, 3) := by decide +kernel
theorem dX12_richest_34 : decode cX12_richest 34 = .ok (.iconst (-1), 1) := by decide +kernel
theorem dX12_richest_35 : decode cX12_richest 35 = .ok (.ireturn, 1) := by decide +kernel
theorem dX12_richest_36 : decode cX12_richest 36 = .ok (.aload_n 0, 1) := by decide +kernel
theorem dX12_richest_37 : decode cX12_richest 37 = .ok (.invokevirtual 559, 3) := by decide +kernel
theorem dX12_richest_40 : decode cX12_richest 40 = .ok (.iconst (-1), 1) := by decide +kernel
theorem dX12_richest_41 : decode cX12_richest 41 = .ok (.istore 4, 2) := by decide +kernel
theorem dX12_richest_43 : decode cX12_richest 43 = .ok (.aload_n 0, 1) := by decide +kernel
theorem dX12_richest_44 : decode cX12_richest 44 = .ok (.iload_n 1, 1) := by decide +kernel
theorem dX12_richest_45 : decode cX12_richest 45 = .ok (.iload_n 2, 1) := by decide +kernel
theorem dX12_richest_46 : decode cX12_richest 46 = .ok (.invokevirtual 548, 3) := by decide +kernel
theorem dX12_richest_49 : decode cX12_richest 49 = .ok (.istore 5, 2) := by decide +kernel
theorem dX12_richest_51 : decode cX12_richest 51 = .ok (.iload 5, 2) := by decide +kernel
theorem dX12_richest_53 : decode cX12_richest 53 = .ok (.ifCond .eq 59, 3) := by decide +kernel
theorem dX12_richest_56 : decode cX12_richest 56 = .ok (.aload_n 0, 1) := by decide +kernel
theorem dX12_richest_57 : decode cX12_richest 57 = .ok (.invokevirtual 479, 3) := by decide +kernel
theorem dX12_richest_60 : decode cX12_richest 60 = .ok (.istore 6, 2) := by decide +kernel
theorem dX12_richest_62 : decode cX12_richest 62 = .ok (.iload 6, 2) := by decide +kernel
theorem dX12_richest_64 : decode cX12_richest 64 = .ok (.iload 4, 2) := by decide +kernel
theorem dX12_richest_66 : decode cX12_richest 66 = .ok (.if_icmp .le 36, 3) := by decide +kernel
theorem dX12_richest_69 : decode cX12_richest 69 = .ok (.iload 6, 2) := by decide +kernel
theorem dX12_richest_71 : decode cX12_richest 71 = .ok (.istore 4, 2) := by decide +kernel
theorem dX12_richest_73 : decode cX12_richest 73 = .ok (.iconst 0, 1) := by decide +kernel
theorem dX12_richest_74 : decode cX12_richest 74 = .ok (.istore 7, 2) := by decide +kernel
theorem dX12_richest_76 : decode cX12_richest 76 = .ok (.iload 7, 2) := by decide +kernel
theorem dX12_richest_78 : decode cX12_richest 78 = .ok (.iload_n 1, 1) := by decide +kernel
theorem dX12_richest_79 : decode cX12_richest 79 = .ok (.if_icmp .ge 23, 3) := by decide +kernel
theorem dX12_richest_82 : decode cX12_richest 82 = .ok (.aload_n 0, 1) := by decide +kernel
theorem dX12_richest_83 : decode cX12_richest 83 = .ok (.getfield 164, 3) := by decide +kernel
theorem dX12_richest_86 : decode cX12_richest 86 = .ok (.iload 7, 2) := by decide +kernel
theorem dX12_richest_88 : decode cX12_richest 88 = .ok (.aload_n 0, 1) := by decide +kernel
theorem dX12_richest_89 : decode cX12_richest 89 = .ok (.getfield 96, 3) := by decide +kernel
theorem dX12_richest_92 : decode cX12_richest 92 = .ok (.iload 7, 2) := by decide +kernel
theorem dX12_richest_94 : decode cX12_richest 94 = .ok (.iaload, 1) := by decide +kernel
theorem dX12_richest_95 : decode cX12_richest 95 = .ok (.iastore, 1) := by decide +kernel
theorem dX12_richest_96 : decode cX12_richest 96 = .ok (.iinc 7 1, 3) := by decide +kernel
theorem dX12_richest_99 : decode cX12_richest 99 = .ok (.goto (-23), 3) := by decide +kernel
theorem dX12_richest_102 : decode cX12_richest 102 = .ok (.aload_n 0, 1) := by decide +kernel
theorem dX12_richest_103 : decode cX12_richest 103 = .ok (.iload_n 2, 1) := by decide +kernel
theorem dX12_richest_104 : decode cX12_richest 104 = .ok (.invokevirtual 551, 3) := by decide +kernel
theorem dX12_richest_107 : decode cX12_richest 107 = .ok (.istore 5, 2) := by decide +kernel
theorem dX12_richest_109 : decode cX12_richest 109 = .ok (.goto (-58), 3) := by decide +kernel
theorem dX12_richest_112 : decode cX12_richest 112 = .ok (.iload 4, 2) := by decide +kernel
theorem dX12_richest_114 : decode cX12_richest 114 = .ok (.iconst (-1), 1) := by decide +kernel
theorem dX12_richest_115 : decode cX12_richest 115 = .ok (.if_icmp .eq 7, 3) := by decide +kernel
theorem dX12_richest_118 : decode cX12_richest 118 = .ok (.iload_n 3, 1) := by decide +kernel
theorem dX12_richest_119 : decode cX12_richest 119 = .ok (.ifCond .ne 10, 3) := by decide +kernel
theorem dX12_richest_122 : decode cX12_richest 122 = .ok (.aload_n 0, 1) := by decide +kernel
theorem dX12_richest_123 : decode cX12_richest 123 = .ok (.invokevirtual 565, 3) := by decide +kernel
theorem dX12_richest_126 : decode cX12_richest 126 = .ok (.iload 4, 2) := by decide +kernel
theorem dX12_richest_128 : decode cX12_richest 128 = .ok (.ireturn, 1) := by decide +kernel
theorem dX12_richest_129 : decode cX12_richest 129 = .ok (.aload_n 0, 1) := by decide +kernel
theorem dX12_richest_130 : decode cX12_richest 130 = .ok (.iload_n 1, 1) := by decide +kernel
theorem dX12_richest_131 : decode cX12_richest 131 = .ok (.putfield 261, 3) := by decide +kernel
theorem dX12_richest_134 : decode cX12_richest 134 = .ok (.iconst 0, 1) := by decide +kernel
theorem dX12_richest_135 : decode cX12_richest 135 = .ok (.istore 6, 2) := by decide +kernel
theorem dX12_richest_137 : decode cX12_richest 137 = .ok (.iload 6, 2) := by decide +kernel
theorem dX12_richest_139 : decode cX12_richest 139 = .ok (.iload_n 1, 1) := by decide +kernel
theorem dX12_richest_140 : decode cX12_richest 140 = .ok (.if_icmp .ge 23, 3) := by decide +kernel
theorem dX12_richest_143 : decode cX12_richest 143 = .ok (.aload_n 0, 1) := by decide +kernel
theorem dX12_richest_144 : decode cX12_richest 144 = .ok (.getfield 96, 3) := by decide +kernel
theorem dX12_richest_147 : decode cX12_richest 147 = .ok (.iload 6, 2) := by decide +kernel
theorem dX12_richest_149 : decode cX12_richest 149 = .ok (.aload_n 0, 1) := by decide +kernel
theorem dX12_richest_150 : decode cX12_richest 150 = .ok (.getfield 164, 3) := by decide +kernel
theorem dX12_richest_153 : decode cX12_richest 153 = .ok (.iload 6, 2) := by decide +kernel
theorem dX12_richest_155 : decode cX12_richest 155 = .ok (.iaload, 1) := by decide +kernel
theorem dX12_richest_156 : decode cX12_richest 156 = .ok (.iastore, 1) := by decide +kernel
theorem dX12_richest_157 : decode cX12_richest 157 = .ok (.iinc 6 1, 3) := by decide +kernel
theorem dX12_richest_160 : decode cX12_richest 160 = .ok (.goto (-23), 3) := by decide +kernel
theorem dX12_richest_163 : decode cX12_richest 163 = .ok (.aload_n 0, 1) := by decide +kernel
theorem dX12_richest_164 : decode cX12_richest 164 = .ok (.invokevirtual 264, 3) := by decide +kernel
theorem dX12_richest_167 : decode cX12_richest 167 = .ok (.iload_n 1, 1) := by decide +kernel
theorem dX12_richest_168 : decode cX12_richest 168 = .ok (.ireturn, 1) := by decide +kernel
theorem dX12_wrong_0 : decode cX12_wrong 0 = .ok (.iload_n 1, 1) := by decide +kernel
theorem dX12_wrong_1 : decode cX12_wrong 1 = .ok (.invokestatic 554, 3) := by decide +kernel
theorem dX12_wrong_4 : decode cX12_wrong 4 = .ok (.ifCond .eq 27, 3) := by decide +kernel
theorem dX12_wrong_7 : decode cX12_wrong 7 = .ok (.aload_n 0, 1) := by decide +kernel
theorem dX12_wrong_8 : decode cX12_wrong 8 = .ok (.iload_n 1, 1) := by decide +kernel
theorem dX12_wrong_9 : decode cX12_wrong 9 = .ok (.invokevirtual 426, 3) := by decide +kernel
theorem dX12_wrong_12 : decode cX12_wrong 12 = .ok (.ifCond .eq 19, 3) := by decide +kernel
theorem dX12_wrong_15 : decode cX12_wrong 15 = .ok (.iload_n 2, 1) := by decide +kernel
theorem dX12_wrong_16 : decode cX12_wrong 16 = .ok (.iconst (-1), 1) := by decide +kernel
theorem dX12_wrong_17 : decode cX12_wrong 17 = .ok (.if_icmp .lt 14, 3) := by decide +kernel
theorem dX12_wrong_20 : decode cX12_wrong 20 = .ok (.aload_n 0, 1) := by decide +kernel
theorem dX12_wrong_21 : decode cX12_wrong 21 = .ok (.bipush 84, 2) := by decide +kernel
theorem dX12_wrong_23 : decode cX12_wrong 23 = .ok (.iload_n 1, 1) := by decide +kernel
theorem dX12_wrong_24 : decode cX12_wrong 24 = .ok (.invokevirtual 473, 3) := by decide +kernel
theorem dX12_wrong_27 : decode cX12_wrong 27 = .ok (.iconst (-1), 1) := by decide +kernel
theorem dX12_wrong_28 : decode cX12_wrong 28 = .ok (.if_icmp .ne 5, 3) := by decide +kernel
theorem dX12_wrong_31 : decode cX12_wrong 31 = .ok (.iconst (-1), 1) := by decide +kernel
theorem dX12_wrong_32 : decode cX12_wrong 32 = .ok (.ireturn, 1) := by decide +kernel
theorem dX12_wrong_33 : decode cX12_wrong 33 = .ok (.iconst 0, 1) := by decide +kernel
theorem dX12_wrong_34 : decode cX12_wrong 34 = .ok (.istore_n 3, 1) := by decide +kernel
theorem dX12_wrong_35 : decode cX12_wrong 35 = .ok (.iconst (-1), 1) := by decide +kernel
theorem dX12_wrong_36 : decode cX12_wrong 36 = .ok (.istore 4, 2) := by decide +kernel
theorem dX12_wrong_38 : decode cX12_wrong 38 = .ok (.aload_n 0, 1) := by decide +kernel
theorem dX12_wrong_39 : decode cX12_wrong 39 = .ok (.invokevirtual 559, 3) := by decide +kernel
theorem dX12_wrong_42 : decode cX12_wrong 42 = .ok (.iconst 0, 1) := by decide +kernel
theorem dX12_wrong_43 : decode cX12_wrong 43 = .ok (.istore 5, 2) := by decide +kernel
theorem dX12_wrong_45 : decode cX12_wrong 45 = .ok (.iload 5, 2) := by decide +kernel
theorem dX12_wrong_47 : decode cX12_wrong 47 = .ok (.aload_n 0, 1) := by decide +kernel
theorem dX12_wrong_48 : decode cX12_wrong 48 = .ok (.getfield 545, 3) := by decide +kernel
theorem dX12_wrong_51 : decode cX12_wrong 51 = .ok (.if_icmp .ge 125, 3) := by decide +kernel
theorem dX12_wrong_54 : decode cX12_wrong 54 = .ok (.iload 4, 2) := by decide +kernel
theorem dX12_wrong_56 : decode cX12_wrong 56 = .ok (.iconst (-1), 1) := by decide +kernel
theorem dX12_wrong_57 : decode cX12_wrong 57 = .ok (.if_icmp .ne 119, 3) := by decide +kernel
theorem dX12_wrong_60 : decode cX12_wrong 60 = .ok (.aload_n 0, 1) := by decide +kernel
theorem dX12_wrong_61 : decode cX12_wrong 61 = .ok (.getfield 158, 3) := by decide +kernel
theorem dX12_wrong_64 : decode cX12_wrong 64 = .ok (.iload 5, 2) := by decide +kernel
theorem dX12_wrong_66 : decode cX12_wrong 66 = .ok (.iaload, 1) := by decide +kernel
theorem dX12_wrong_67 : decode cX12_wrong 67 = .ok (.iconst (-1), 1) := by decide +kernel
theorem dX12_wrong_68 : decode cX12_wrong 68 = .ok (.if_icmp .ne 6, 3) := by decide +kernel
theorem dX12_wrong_71 : decode cX12_wrong 71 = .ok (.goto 99, 3) := by decide +kernel
theorem dX12_wrong_74 : decode cX12_wrong 74 = .ok (.iconst 0, 1) := by decide +kernel
theorem dX12_wrong_75 : decode cX12_wrong 75 = .ok (.istore 6, 2) := by decide +kernel
theorem dX12_wrong_77 : decode cX12_wrong 77 = .ok (.iload 6, 2) := by decide +kernel
theorem dX12_wrong_79 : decode cX12_wrong 79 = .ok (.bipush 28, 2) := by decide +kernel
theorem dX12_wrong_81 : decode cX12_wrong 81 = .ok (.if_icmp .gt 75, 3) := by decide +kernel
theorem dX12_wrong_84 : decode cX12_wrong 84 = .ok (.iload 4, 2) := by decide +kernel
theorem dX12_wrong_86 : decode cX12_wrong 86 = .ok (.iconst (-1), 1) := by decide +kernel
theorem dX12_wrong_87 : decode cX12_wrong 87 = .ok (.if_icmp .ne 69, 3) := by decide +kernel
theorem dX12_wrong_90 : decode cX12_wrong 90 = .ok (.iload 6, 2) := by decide +kernel
theorem dX12_wrong_92 : decode cX12_wrong 92 = .ok (.aload_n 0, 1) := by decide +kernel
theorem dX12_wrong_93 : decode cX12_wrong 93 = .ok (.getfield 158, 3) := by decide +kernel
theorem dX12_wrong_96 : decode cX12_wrong 96 = .ok (.iload 5, 2) := by decide +kernel
theorem dX12_wrong_98 : decode cX12_wrong 98 = .ok (.iaload, 1) := by decide +kernel
theorem dX12_wrong_99 : decode cX12_wrong 99 = .ok (.if_icmp .ne 6, 3) := by decide +kernel
theorem dX12_wrong_102 : decode cX12_wrong 102 = .ok (.goto 48, 3) := by decide +kernel
theorem dX12_wrong_105 : decode cX12_wrong 105 = .ok (.aload_n 0, 1) := by decide +kernel
theorem dX12_wrong_106 : decode cX12_wrong 106 = .ok (.getfield 96, 3) := by decide +kernel
theorem dX12_wrong_109 : decode cX12_wrong 109 = .ok (.iload 5, 2) := by decide +kernel
theorem dX12_wrong_111 : decode cX12_wrong 111 = .ok (.iload 6, 2) := by decide +kernel
theorem dX12_wrong_113 : decode cX12_wrong 113 = .ok (.iastore, 1) := by decide +kernel
theorem dX12_wrong_114 : decode cX12_wrong 114 = .ok (.aload_n 0, 1) := by decide +kernel
theorem dX12_wrong_115 : decode cX12_wrong 115 = .ok (.invokevirtual 264, 3) := by decide +kernel
theorem dX12_wrong_118 : decode cX12_wrong 118 = .ok (.aload_n 0, 1) := by decide +kernel
theorem dX12_wrong_119 : decode cX12_wrong 119 = .ok (.bipush 84, 2) := by decide +kernel
theorem dX12_wrong_121 : decode cX12_wrong 121 = .ok (.iload_n 1, 1) := by decide +kernel
theorem dX12_wrong_122 : decode cX12_wrong 122 = .ok (.invokevirtual 473, 3) := by decide +kernel
theorem dX12_wrong_125 : decode cX12_wrong 125 = .ok (.iconst (-1), 1) := by decide +kernel
theorem dX12_wrong_126 : decode cX12_wrong 126 = .ok (.if_icmp .eq 6, 3) := by decide +kernel
theorem dX12_wrong_129 : decode cX12_wrong 129 = .ok (.goto 21, 3) := by decide +kernel
theorem dX12_wrong_132 : decode cX12_wrong 132 = .ok (.iload_n 3, 1) := by decide +kernel
theorem dX12_wrong_133 : decode cX12_wrong 133 = .ok (.iload_n 2, 1) := by decide +kernel
theorem dX12_wrong_134 : decode cX12_wrong 134 = .ok (.if_icmp .ne 13, 3) := by decide +kernel
theorem dX12_wrong_137 : decode cX12_wrong 137 = .ok (.bipush 100, 2) := by decide +kernel
theorem dX12_wrong_139 : decode cX12_wrong 139 = .ok (.iload 5, 2) := by decide +kernel
theorem dX12_wrong_141 : decode cX12_wrong 141 = .ok (.imul, 1) := by decide +kernel
theorem dX12_wrong_142 : decode cX12_wrong 142 = .ok (.iload 6, 2) := by decide +kernel
theorem dX12_wrong_144 : decode cX12_wrong 144 = .ok (.iadd, 1) := by decide +kernel
theorem dX12_wrong_145 : decode cX12_wrong 145 = .ok (.istore 4, 2) := by decide +kernel
theorem dX12_wrong_147 : decode cX12_wrong 147 = .ok (.iinc 3 1, 3) := by decide +kernel
theorem dX12_wrong_150 : decode cX12_wrong 150 = .ok (.iinc 6 1, 3) := by decide +kernel
theorem dX12_wrong_153 : decode cX12_wrong 153 = .ok (.goto (-76), 3) := by decide +kernel
theorem dX12_wrong_156 : decode cX12_wrong 156 = .ok (.aload_n 0, 1) := by decide +kernel
theorem dX12_wrong_157 : decode cX12_wrong 157 = .ok (.getfield 96, 3) := by decide +kernel
theorem dX12_wrong_160 : decode cX12_wrong 160 = .ok (.iload 5, 2) := by decide +kernel
theorem dX12_wrong_162 : decode cX12_wrong 162 = .ok (.aload_n 0, 1) := by decide +kernel
theorem dX12_wrong_163 : decode cX12_wrong 163 = .ok (.getfield 158, 3) := by decide +kernel
theorem dX12_wrong_166 : decode cX12_wrong 166 = .ok (.iload 5, 2) := by decide +kernel
theorem dX12_wrong_168 : decode cX12_wrong 168 = .ok (.iaload, 1) := by decide +kernel
theorem dX12_wrong_169 : decode cX12_wrong 169 = .ok (.iastore, 1) := by decide +kernel
theorem dX12_wrong_170 : decode cX12_wrong 170 = .ok (.iinc 5 1, 3) := by decide +kernel
theorem dX12_wrong_173 : decode cX12_wrong 173 = .ok (.goto (-128), 3) := by decide +kernel
theorem dX12_wrong_176 : decode cX12_wrong 176 = .ok (.aload_n 0, 1) := by decide +kernel
theorem dX12_wrong_177 : decode cX12_wrong 177 = .ok (.invokevirtual 565, 3) := by decide +kernel
theorem dX12_wrong_180 : decode cX12_wrong 180 = .ok (.iload_n 2, 1) := by decide +kernel
theorem dX12_wrong_181 : decode cX12_wrong 181 = .ok (.iconst (-1), 1) := by decide +kernel
theorem dX12_wrong_182 : decode cX12_wrong 182 = .ok (.if_icmp .ne 7, 3) := by decide +kernel
theorem dX12_wrong_185 : decode cX12_wrong 185 = .ok (.iload_n 3, 1) := by decide +kernel
theorem dX12_wrong_186 : decode cX12_wrong 186 = .ok (.goto 5, 3) := by decide +kernel
theorem dX12_wrong_189 : decode cX12_wrong 189 = .ok (.iload 4, 2) := by decide +kernel
theorem dX12_wrong_191 : decode cX12_wrong 191 = .ok (.ireturn, 1) := by decide +kernel
theorem dX12_change_0 : decode cX12_change 0 = .ok (.iload_n 1, 1) := by decide +kernel
theorem dX12_change_1 : decode cX12_change 1 = .ok (.i2l, 1) := by decide +kernel
theorem dX12_change_2 : decode cX12_change 2 = .ok (.lconst 0, 1) := by decide +kernel
theorem dX12_change_3 : decode cX12_change 3 = .ok (.aload_n 0, 1) := by decide +kernel
theorem dX12_change_4 : decode cX12_change 4 = .ok (.getfield 261, 3) := by decide +kernel
theorem dX12_change_7 : decode cX12_change 7 = .ok (.iconst 1, 1) := by decide +kernel
theorem dX12_change_8 : decode cX12_change 8 = .ok (.isub, 1) := by decide +kernel
theorem dX12_change_9 : decode cX12_change 9 = .ok (.i2l, 1) := by decide +kernel
theorem dX12_change_10 : decode cX12_change 10 = .ok (.invokestatic 216, 3) := by decide +kernel
theorem dX12_change_13 : decode cX12_change 13 = .ok (.ifCond .eq 15, 3) := by decide +kernel
theorem dX12_change_16 : decode cX12_change 16 = .ok (.iload_n 2, 1) := by decide +kernel
theorem dX12_change_17 : decode cX12_change 17 = .ok (.i2l, 1) := by decide +kernel
theorem dX12_change_18 : decode cX12_change 18 = .ok (.lconst 0, 1) := by decide +kernel
theorem dX12_change_19 : decode cX12_change 19 = .ok (.ldc2_w 568, 3) := by decide +kernel
theorem dX12_change_22 : decode cX12_change 22 = .ok (.invokestatic 216, 3) := by decide +kernel
theorem dX12_change_25 : decode cX12_change 25 = .ok (.ifCond .ne 5, 3) := by decide +kernel
theorem dX12_change_28 : decode cX12_change 28 = .ok (.iconst (-1), 1) := by decide +kernel
theorem dX12_change_29 : decode cX12_change 29 = .ok (.ireturn, 1) := by decide +kernel
theorem dX12_change_30 : decode cX12_change 30 = .ok (.aload_n 0, 1) := by decide +kernel
theorem dX12_change_31 : decode cX12_change 31 = .ok (.getfield 96, 3) := by decide +kernel
theorem dX12_change_34 : decode cX12_change 34 = .ok (.iload_n 1, 1) := by decide +kernel
theorem dX12_change_35 : decode cX12_change 35 = .ok (.iaload, 1) := by decide +kernel
theorem dX12_change_36 : decode cX12_change 36 = .ok (.istore_n 3, 1) := by decide +kernel
theorem dX12_change_37 : decode cX12_change 37 = .ok (.aload_n 0, 1) := by decide +kernel
theorem dX12_change_38 : decode cX12_change 38 = .ok (.getfield 96, 3) := by decide +kernel
theorem dX12_change_41 : decode cX12_change 41 = .ok (.iload_n 1, 1) := by decide +kernel
theorem dX12_change_42 : decode cX12_change 42 = .ok (.iload_n 2, 1) := by decide +kernel
theorem dX12_change_43 : decode cX12_change 43 = .ok (.iastore, 1) := by decide +kernel
theorem dX12_change_44 : decode cX12_change 44 = .ok (.aload_n 0, 1) := by decide +kernel
theorem dX12_change_45 : decode cX12_change 45 = .ok (.invokevirtual 264, 3) := by decide +kernel
theorem dX12_change_48 : decode cX12_change 48 = .ok (.iload_n 3, 1) := by decide +kernel
theorem dX12_change_49 : decode cX12_change 49 = .ok (.iconst (-1), 1) := by decide +kernel
theorem dX12_change_50 : decode cX12_change 50 = .ok (.if_icmp .ne 8, 3) := by decide +kernel
theorem dX12_change_53 : decode cX12_change 53 = .ok (.bipush (-2), 2) := by decide +kernel
theorem dX12_change_55 : decode cX12_change 55 = .ok (.goto 4, 3) := by decide +kernel
theorem dX12_change_58 : decode cX12_change 58 = .ok (.iload_n 3, 1) := by decide +kernel
theorem dX12_change_59 : decode cX12_change 59 = .ok (.ireturn, 1) := by decide +kernel
theorem dX12_drawOf_0 : decode cX12_drawOf 0 = .ok (.aload_n 0, 1) := by decide +kernel
theorem dX12_drawOf_1 : decode cX12_drawOf 1 = .ok (.ldc2_w 570, 3) := by decide +kernel
theorem dX12_drawOf_4 : decode cX12_drawOf 4 = .ok (.aload_n 0, 1) := by decide +kernel
theorem dX12_drawOf_5 : decode cX12_drawOf 5 = .ok (.getfield 572, 3) := by decide +kernel
theorem dX12_drawOf_8 : decode cX12_drawOf 8 = .ok (.lmul, 1) := by decide +kernel
theorem dX12_drawOf_9 : decode cX12_drawOf 9 = .ok (.ldc2_w 576, 3) := by decide +kernel
theorem dX12_drawOf_12 : decode cX12_drawOf 12 = .ok (.ladd, 1) := by decide +kernel
theorem dX12_drawOf_13 : decode cX12_drawOf 13 = .ok (.ldc2_w 578, 3) := by decide +kernel
theorem dX12_drawOf_16 : decode cX12_drawOf 16 = .ok (.lrem, 1) := by decide +kernel
theorem dX12_drawOf_17 : decode cX12_drawOf 17 = .ok (.putfield 572, 3) := by decide +kernel
theorem dX12_drawOf_20 : decode cX12_drawOf 20 = .ok (.aload_n 0, 1) := by decide +kernel
theorem dX12_drawOf_21 : decode cX12_drawOf 21 = .ok (.getfield 572, 3) := by decide +kernel
theorem dX12_drawOf_24 : decode cX12_drawOf 24 = .ok (.ldc2_w 580, 3) := by decide +kernel
theorem dX12_drawOf_27 : decode cX12_drawOf 27 = .ok (.ldiv, 1) := by decide +kernel
theorem dX12_drawOf_28 : decode cX12_drawOf 28 = .ok (.iload_n 1, 1) := by decide +kernel
theorem dX12_drawOf_29 : decode cX12_drawOf 29 = .ok (.i2l, 1) := by decide +kernel
theorem dX12_drawOf_30 : decode cX12_drawOf 30 = .ok (.lrem, 1) := by decide +kernel
theorem dX12_drawOf_31 : decode cX12_drawOf 31 = .ok (.l2i, 1) := by decide +kernel
theorem dX12_drawOf_32 : decode cX12_drawOf 32 = .ok (.ireturn, 1) := by decide +kernel
theorem dX12_draw_0 : decode cX12_draw 0 = .ok (.iload_n 1, 1) := by decide +kernel
theorem dX12_draw_1 : decode cX12_draw 1 = .ok (.i2l, 1) := by decide +kernel
theorem dX12_draw_2 : decode cX12_draw 2 = .ok (.lconst 1, 1) := by decide +kernel
theorem dX12_draw_3 : decode cX12_draw 3 = .ok (.ldc2_w 411, 3) := by decide +kernel
theorem dX12_draw_6 : decode cX12_draw 6 = .ok (.invokestatic 216, 3) := by decide +kernel
theorem dX12_draw_9 : decode cX12_draw 9 = .ok (.ifCond .eq 19, 3) := by decide +kernel
theorem dX12_draw_12 : decode cX12_draw 12 = .ok (.iload_n 2, 1) := by decide +kernel
theorem dX12_draw_13 : decode cX12_draw 13 = .ok (.i2l, 1) := by decide +kernel
theorem dX12_draw_14 : decode cX12_draw 14 = .ok (.lconst 0, 1) := by decide +kernel
theorem dX12_draw_15 : decode cX12_draw 15 = .ok (.ldc2_w 568, 3) := by decide +kernel
theorem dX12_draw_18 : decode cX12_draw 18 = .ok (.invokestatic 216, 3) := by decide +kernel
theorem dX12_draw_21 : decode cX12_draw 21 = .ok (.ifCond .eq 7, 3) := by decide +kernel
theorem dX12_draw_24 : decode cX12_draw 24 = .ok (.iload_n 3, 1) := by decide +kernel
theorem dX12_draw_25 : decode cX12_draw 25 = .ok (.ifCond .ge 5, 3) := by decide +kernel
theorem dX12_draw_28 : decode cX12_draw 28 = .ok (.iconst (-1), 1) := by decide +kernel
theorem dX12_draw_29 : decode cX12_draw 29 = .ok (.ireturn, 1) := by decide +kernel
theorem dX12_draw_30 : decode cX12_draw 30 = .ok (.aload_n 0, 1) := by decide +kernel
theorem dX12_draw_31 : decode cX12_draw 31 = .ok (.iload_n 3, 1) := by decide +kernel
theorem dX12_draw_32 : decode cX12_draw 32 = .ok (.i2l, 1) := by decide +kernel
theorem dX12_draw_33 : decode cX12_draw 33 = .ok (.putfield 572, 3) := by decide +kernel
theorem dX12_draw_36 : decode cX12_draw 36 = .ok (.aload_n 0, 1) := by decide +kernel
theorem dX12_draw_37 : decode cX12_draw 37 = .ok (.iload_n 1, 1) := by decide +kernel
theorem dX12_draw_38 : decode cX12_draw 38 = .ok (.putfield 261, 3) := by decide +kernel
theorem dX12_draw_41 : decode cX12_draw 41 = .ok (.iconst 0, 1) := by decide +kernel
theorem dX12_draw_42 : decode cX12_draw 42 = .ok (.istore 4, 2) := by decide +kernel
theorem dX12_draw_44 : decode cX12_draw 44 = .ok (.iload 4, 2) := by decide +kernel
theorem dX12_draw_46 : decode cX12_draw 46 = .ok (.iload_n 1, 1) := by decide +kernel
theorem dX12_draw_47 : decode cX12_draw 47 = .ok (.if_icmp .ge 57, 3) := by decide +kernel
theorem dX12_draw_50 : decode cX12_draw 50 = .ok (.aload_n 0, 1) := by decide +kernel
theorem dX12_draw_51 : decode cX12_draw 51 = .ok (.getfield 96, 3) := by decide +kernel
theorem dX12_draw_54 : decode cX12_draw 54 = .ok (.iload 4, 2) := by decide +kernel
theorem dX12_draw_56 : decode cX12_draw 56 = .ok (.aload_n 0, 1) := by decide +kernel
theorem dX12_draw_57 : decode cX12_draw 57 = .ok (.iload_n 2, 1) := by decide +kernel
theorem dX12_draw_58 : decode cX12_draw 58 = .ok (.iconst 1, 1) := by decide +kernel
theorem dX12_draw_59 : decode cX12_draw 59 = .ok (.iadd, 1) := by decide +kernel
theorem dX12_draw_60 : decode cX12_draw 60 = .ok (.invokevirtual 582, 3) := by decide +kernel
theorem dX12_draw_63 : decode cX12_draw 63 = .ok (.iastore, 1) := by decide +kernel
theorem dX12_draw_64 : decode cX12_draw 64 = .ok (.aload_n 0, 1) := by decide +kernel
theorem dX12_draw_65 : decode cX12_draw 65 = .ok (.iconst 4, 1) := by decide +kernel
theorem dX12_draw_66 : decode cX12_draw 66 = .ok (.invokevirtual 582, 3) := by decide +kernel
theorem dX12_draw_69 : decode cX12_draw 69 = .ok (.istore 5, 2) := by decide +kernel
theorem dX12_draw_71 : decode cX12_draw 71 = .ok (.aload_n 0, 1) := by decide +kernel
theorem dX12_draw_72 : decode cX12_draw 72 = .ok (.getfield 99, 3) := by decide +kernel
theorem dX12_draw_75 : decode cX12_draw 75 = .ok (.iload 4, 2) := by decide +kernel
theorem dX12_draw_77 : decode cX12_draw 77 = .ok (.iload 5, 2) := by decide +kernel
theorem dX12_draw_79 : decode cX12_draw 79 = .ok (.ifCond .ne 7, 3) := by decide +kernel
theorem dX12_draw_82 : decode cX12_draw 82 = .ok (.iconst 1, 1) := by decide +kernel
theorem dX12_draw_83 : decode cX12_draw 83 = .ok (.goto 14, 3) := by decide +kernel
theorem dX12_draw_86 : decode cX12_draw 86 = .ok (.iload 5, 2) := by decide +kernel
theorem dX12_draw_88 : decode cX12_draw 88 = .ok (.iconst 3, 1) := by decide +kernel
theorem dX12_draw_89 : decode cX12_draw 89 = .ok (.if_icmp .ne 7, 3) := by decide +kernel
theorem dX12_draw_92 : decode cX12_draw 92 = .ok (.iconst 4, 1) := by decide +kernel
theorem dX12_draw_93 : decode cX12_draw 93 = .ok (.goto 4, 3) := by decide +kernel
theorem dX12_draw_96 : decode cX12_draw 96 = .ok (.iconst 2, 1) := by decide +kernel
theorem dX12_draw_97 : decode cX12_draw 97 = .ok (.iastore, 1) := by decide +kernel
theorem dX12_draw_98 : decode cX12_draw 98 = .ok (.iinc 4 1, 3) := by decide +kernel
theorem dX12_draw_101 : decode cX12_draw 101 = .ok (.goto (-57), 3) := by decide +kernel
theorem dX12_draw_104 : decode cX12_draw 104 = .ok (.aload_n 0, 1) := by decide +kernel
theorem dX12_draw_105 : decode cX12_draw 105 = .ok (.invokevirtual 264, 3) := by decide +kernel
theorem dX12_draw_108 : decode cX12_draw 108 = .ok (.aload_n 0, 1) := by decide +kernel
theorem dX12_draw_109 : decode cX12_draw 109 = .ok (.getfield 267, 3) := by decide +kernel
theorem dX12_draw_112 : decode cX12_draw 112 = .ok (.ireturn, 1) := by decide +kernel
theorem dX12_writes_0 : decode cX12_writes 0 = .ok (.aload_n 0, 1) := by decide +kernel
theorem dX12_writes_1 : decode cX12_writes 1 = .ok (.getfield 167, 3) := by decide +kernel
theorem dX12_writes_4 : decode cX12_writes 4 = .ok (.aload_n 0, 1) := by decide +kernel
theorem dX12_writes_5 : decode cX12_writes 5 = .ok (.getfield 585, 3) := by decide +kernel
theorem dX12_writes_8 : decode cX12_writes 8 = .ok (.iload_n 1, 1) := by decide +kernel
theorem dX12_writes_9 : decode cX12_writes 9 = .ok (.iastore, 1) := by decide +kernel
theorem dX12_writes_10 : decode cX12_writes 10 = .ok (.aload_n 0, 1) := by decide +kernel
theorem dX12_writes_11 : decode cX12_writes 11 = .ok (.dup, 1) := by decide +kernel
theorem dX12_writes_12 : decode cX12_writes 12 = .ok (.getfield 585, 3) := by decide +kernel
theorem dX12_writes_15 : decode cX12_writes 15 = .ok (.iconst 1, 1) := by decide +kernel
theorem dX12_writes_16 : decode cX12_writes 16 = .ok (.iadd, 1) := by decide +kernel
theorem dX12_writes_17 : decode cX12_writes 17 = .ok (.putfield 585, 3) := by decide +kernel
theorem dX12_writes_20 : decode cX12_writes 20 = .ok (.return_, 1) := by decide +kernel
theorem dX12_checked_0 : decode cX12_checked 0 = .ok (.bipush 23, 2) := by decide +kernel
theorem dX12_checked_2 : decode cX12_checked 2 = .ok (.istore_n 2, 1) := by decide +kernel
theorem dX12_checked_3 : decode cX12_checked 3 = .ok (.iconst 0, 1) := by decide +kernel
theorem dX12_checked_4 : decode cX12_checked 4 = .ok (.istore_n 3, 1) := by decide +kernel
theorem dX12_checked_5 : decode cX12_checked 5 = .ok (.iload_n 3, 1) := by decide +kernel
theorem dX12_checked_6 : decode cX12_checked 6 = .ok (.iload_n 1, 1) := by decide +kernel
theorem dX12_checked_7 : decode cX12_checked 7 = .ok (.if_icmp .ge 22, 3) := by decide +kernel
theorem dX12_checked_10 : decode cX12_checked 10 = .ok (.bipush 7, 2) := by decide +kernel
theorem dX12_checked_12 : decode cX12_checked 12 = .ok (.iload_n 2, 1) := by decide +kernel
theorem dX12_checked_13 : decode cX12_checked 13 = .ok (.imul, 1) := by decide +kernel
theorem dX12_checked_14 : decode cX12_checked 14 = .ok (.aload_n 0, 1) := by decide +kernel
theorem dX12_checked_15 : decode cX12_checked 15 = .ok (.iload_n 3, 1) := by decide +kernel
theorem dX12_checked_16 : decode cX12_checked 16 = .ok (.iaload, 1) := by decide +kernel
theorem dX12_checked_17 : decode cX12_checked 17 = .ok (.iadd, 1) := by decide +kernel
theorem dX12_checked_18 : decode cX12_checked 18 = .ok (.sipush 251, 3) := by decide +kernel
theorem dX12_checked_21 : decode cX12_checked 21 = .ok (.irem, 1) := by decide +kernel
theorem dX12_checked_22 : decode cX12_checked 22 = .ok (.istore_n 2, 1) := by decide +kernel
theorem dX12_checked_23 : decode cX12_checked 23 = .ok (.iinc 3 1, 3) := by decide +kernel
theorem dX12_checked_26 : decode cX12_checked 26 = .ok (.goto (-21), 3) := by decide +kernel
theorem dX12_checked_29 : decode cX12_checked 29 = .ok (.iload_n 2, 1) := by decide +kernel
theorem dX12_checked_30 : decode cX12_checked 30 = .ok (.ireturn, 1) := by decide +kernel
theorem dX12_image_0 : decode cX12_image 0 = .ok (.aload_n 0, 1) := by decide +kernel
theorem dX12_image_1 : decode cX12_image 1 = .ok (.iconst 0, 1) := by decide +kernel
theorem dX12_image_2 : decode cX12_image 2 = .ok (.putfield 585, 3) := by decide +kernel
theorem dX12_image_5 : decode cX12_image 5 = .ok (.aload_n 0, 1) := by decide +kernel
theorem dX12_image_6 : decode cX12_image 6 = .ok (.aload_n 0, 1) := by decide +kernel
theorem dX12_image_7 : decode cX12_image 7 = .ok (.getfield 261, 3) := by decide +kernel
theorem dX12_image_10 : decode cX12_image 10 = .ok (.invokevirtual 588, 3) := by decide +kernel
theorem dX12_image_13 : decode cX12_image 13 = .ok (.iconst 0, 1) := by decide +kernel
theorem dX12_image_14 : decode cX12_image 14 = .ok (.istore_n 1, 1) := by decide +kernel
theorem dX12_image_15 : decode cX12_image 15 = .ok (.iload_n 1, 1) := by decide +kernel
theorem dX12_image_16 : decode cX12_image 16 = .ok (.aload_n 0, 1) := by decide +kernel
theorem dX12_image_17 : decode cX12_image 17 = .ok (.getfield 261, 3) := by decide +kernel
theorem dX12_image_20 : decode cX12_image 20 = .ok (.if_icmp .ge 45, 3) := by decide +kernel
theorem dX12_image_23 : decode cX12_image 23 = .ok (.aload_n 0, 1) := by decide +kernel
theorem dX12_image_24 : decode cX12_image 24 = .ok (.aload_n 0, 1) := by decide +kernel
theorem dX12_image_25 : decode cX12_image 25 = .ok (.getfield 96, 3) := by decide +kernel
theorem dX12_image_28 : decode cX12_image 28 = .ok (.iload_n 1, 1) := by decide +kernel
theorem dX12_image_29 : decode cX12_image 29 = .ok (.iaload, 1) := by decide +kernel
theorem dX12_image_30 : decode cX12_image 30 = .ok (.iconst (-1), 1) := by decide +kernel
theorem dX12_image_31 : decode cX12_image 31 = .ok (.if_icmp .ne 9, 3) := by decide +kernel
theorem dX12_image_34 : decode cX12_image 34 = .ok (.sipush 255, 3) := by decide +kernel
theorem dX12_image_37 : decode cX12_image 37 = .ok (.goto 9, 3) := by decide +kernel
theorem dX12_image_40 : decode cX12_image 40 = .ok (.aload_n 0, 1) := by decide +kernel
theorem dX12_image_41 : decode cX12_image 41 = .ok (.getfield 96, 3) := by decide +kernel
theorem dX12_image_44 : decode cX12_image 44 = .ok (.iload_n 1, 1) := by decide +kernel
theorem dX12_image_45 : decode cX12_image 45 = .ok (.iaload, 1) := by decide +kernel
theorem dX12_image_46 : decode cX12_image 46 = .ok (.invokevirtual 588, 3) := by decide +kernel
theorem dX12_image_49 : decode cX12_image 49 = .ok (.aload_n 0, 1) := by decide +kernel
theorem dX12_image_50 : decode cX12_image 50 = .ok (.aload_n 0, 1) := by decide +kernel
theorem dX12_image_51 : decode cX12_image 51 = .ok (.getfield 99, 3) := by decide +kernel
theorem dX12_image_54 : decode cX12_image 54 = .ok (.iload_n 1, 1) := by decide +kernel
theorem dX12_image_55 : decode cX12_image 55 = .ok (.iaload, 1) := by decide +kernel
theorem dX12_image_56 : decode cX12_image 56 = .ok (.invokevirtual 588, 3) := by decide +kernel
theorem dX12_image_59 : decode cX12_image 59 = .ok (.iinc 1 1, 3) := by decide +kernel
theorem dX12_image_62 : decode cX12_image 62 = .ok (.goto (-47), 3) := by decide +kernel
theorem dX12_image_65 : decode cX12_image 65 = .ok (.aload_n 0, 1) := by decide +kernel
theorem dX12_image_66 : decode cX12_image 66 = .ok (.aload_n 0, 1) := by decide +kernel
theorem dX12_image_67 : decode cX12_image 67 = .ok (.getfield 167, 3) := by decide +kernel
theorem dX12_image_70 : decode cX12_image 70 = .ok (.aload_n 0, 1) := by decide +kernel
theorem dX12_image_71 : decode cX12_image 71 = .ok (.getfield 585, 3) := by decide +kernel
theorem dX12_image_74 : decode cX12_image 74 = .ok (.invokestatic 591, 3) := by decide +kernel
theorem dX12_image_77 : decode cX12_image 77 = .ok (.invokevirtual 588, 3) := by decide +kernel
theorem dX12_image_80 : decode cX12_image 80 = .ok (.aload_n 0, 1) := by decide +kernel
theorem dX12_image_81 : decode cX12_image 81 = .ok (.getfield 585, 3) := by decide +kernel
theorem dX12_image_84 : decode cX12_image 84 = .ok (.ireturn, 1) := by decide +kernel
