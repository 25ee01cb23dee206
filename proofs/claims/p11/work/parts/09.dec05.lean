theorem dX12_bookTold_96 : decode cX12_bookTold 96 = .ok (.iconst 1, 1) := by decide +kernel
theorem dX12_bookTold_97 : decode cX12_bookTold 97 = .ok (.iadd, 1) := by decide +kernel
theorem dX12_bookTold_98 : decode cX12_bookTold 98 = .ok (.putfield 231, 3) := by decide +kernel
theorem dX12_bookTold_101 : decode cX12_bookTold 101 = .ok (.return_, 1) := by decide +kernel
theorem dX12_book_0 : decode cX12_book 0 = .ok (.aload_n 0, 1) := by decide +kernel
theorem dX12_book_1 : decode cX12_book 1 = .ok (.invokevirtual 252, 3) := by decide +kernel
theorem dX12_book_4 : decode cX12_book 4 = .ok (.aload_n 0, 1) := by decide +kernel
theorem dX12_book_5 : decode cX12_book 5 = .ok (.getfield 114, 3) := by decide +kernel
theorem dX12_book_8 : decode cX12_book 8 = .ok (.iconst 2, 1) := by decide +kernel
theorem dX12_book_9 : decode cX12_book 9 = .ok (.iconst 0, 1) := by decide +kernel
theorem dX12_book_10 : decode cX12_book 10 = .ok (.iastore, 1) := by decide +kernel
theorem dX12_book_11 : decode cX12_book 11 = .ok (.aload_n 0, 1) := by decide +kernel
theorem dX12_book_12 : decode cX12_book 12 = .ok (.getfield 114, 3) := by decide +kernel
theorem dX12_book_15 : decode cX12_book 15 = .ok (.iconst 3, 1) := by decide +kernel
theorem dX12_book_16 : decode cX12_book 16 = .ok (.iconst 0, 1) := by decide +kernel
theorem dX12_book_17 : decode cX12_book 17 = .ok (.iastore, 1) := by decide +kernel
theorem dX12_book_18 : decode cX12_book 18 = .ok (.aload_n 0, 1) := by decide +kernel
theorem dX12_book_19 : decode cX12_book 19 = .ok (.iconst 4, 1) := by decide +kernel
theorem dX12_book_20 : decode cX12_book 20 = .ok (.putfield 344, 3) := by decide +kernel
theorem dX12_book_23 : decode cX12_book 23 = .ok (.aload_n 0, 1) := by decide +kernel
theorem dX12_book_24 : decode cX12_book 24 = .ok (.getfield 173, 3) := by decide +kernel
theorem dX12_book_27 : decode cX12_book 27 = .ok (.ifCond .ne 18, 3) := by decide +kernel
theorem dX12_book_30 : decode cX12_book 30 = .ok (.aload_n 0, 1) := by decide +kernel
theorem dX12_book_31 : decode cX12_book 31 = .ok (.invokevirtual 185, 3) := by decide +kernel
theorem dX12_book_34 : decode cX12_book 34 = .ok (.iconst (-1), 1) := by decide +kernel
theorem dX12_book_35 : decode cX12_book 35 = .ok (.if_icmp .eq 10, 3) := by decide +kernel
theorem dX12_book_38 : decode cX12_book 38 = .ok (.aload_n 0, 1) := by decide +kernel
theorem dX12_book_39 : decode cX12_book 39 = .ok (.invokevirtual 353, 3) := by decide +kernel
theorem dX12_book_42 : decode cX12_book 42 = .ok (.goto (-19), 3) := by decide +kernel
theorem dX12_book_45 : decode cX12_book 45 = .ok (.aload_n 0, 1) := by decide +kernel
theorem dX12_book_46 : decode cX12_book 46 = .ok (.invokevirtual 258, 3) := by decide +kernel
theorem dX12_book_49 : decode cX12_book 49 = .ok (.ifCond .ne 5, 3) := by decide +kernel
theorem dX12_book_52 : decode cX12_book 52 = .ok (.iconst (-1), 1) := by decide +kernel
theorem dX12_book_53 : decode cX12_book 53 = .ok (.ireturn, 1) := by decide +kernel
theorem dX12_book_54 : decode cX12_book 54 = .ok (.aload_n 0, 1) := by decide +kernel
theorem dX12_book_55 : decode cX12_book 55 = .ok (.getfield 114, 3) := by decide +kernel
theorem dX12_book_58 : decode cX12_book 58 = .ok (.iconst 0, 1) := by decide +kernel
theorem dX12_book_59 : decode cX12_book 59 = .ok (.aload_n 0, 1) := by decide +kernel
theorem dX12_book_60 : decode cX12_book 60 = .ok (.getfield 114, 3) := by decide +kernel
theorem dX12_book_63 : decode cX12_book 63 = .ok (.iconst 2, 1) := by decide +kernel
theorem dX12_book_64 : decode cX12_book 64 = .ok (.iaload, 1) := by decide +kernel
theorem dX12_book_65 : decode cX12_book 65 = .ok (.iastore, 1) := by decide +kernel
theorem dX12_book_66 : decode cX12_book 66 = .ok (.aload_n 0, 1) := by decide +kernel
theorem dX12_book_67 : decode cX12_book 67 = .ok (.getfield 114, 3) := by decide +kernel
theorem dX12_book_70 : decode cX12_book 70 = .ok (.iconst 1, 1) := by decide +kernel
theorem dX12_book_71 : decode cX12_book 71 = .ok (.aload_n 0, 1) := by decide +kernel
theorem dX12_book_72 : decode cX12_book 72 = .ok (.getfield 114, 3) := by decide +kernel
theorem dX12_book_75 : decode cX12_book 75 = .ok (.iconst 3, 1) := by decide +kernel
theorem dX12_book_76 : decode cX12_book 76 = .ok (.iaload, 1) := by decide +kernel
theorem dX12_book_77 : decode cX12_book 77 = .ok (.iastore, 1) := by decide +kernel
theorem dX12_book_78 : decode cX12_book 78 = .ok (.aload_n 0, 1) := by decide +kernel
theorem dX12_book_79 : decode cX12_book 79 = .ok (.aload_n 0, 1) := by decide +kernel
theorem dX12_book_80 : decode cX12_book 80 = .ok (.getfield 344, 3) := by decide +kernel
theorem dX12_book_83 : decode cX12_book 83 = .ok (.putfield 127, 3) := by decide +kernel
theorem dX12_book_86 : decode cX12_book 86 = .ok (.iconst 0, 1) := by decide +kernel
theorem dX12_book_87 : decode cX12_book 87 = .ok (.istore_n 1, 1) := by decide +kernel
theorem dX12_book_88 : decode cX12_book 88 = .ok (.iload_n 1, 1) := by decide +kernel
theorem dX12_book_89 : decode cX12_book 89 = .ok (.bipush 24, 2) := by decide +kernel
theorem dX12_book_91 : decode cX12_book 91 = .ok (.if_icmp .ge 39, 3) := by decide +kernel
theorem dX12_book_94 : decode cX12_book 94 = .ok (.aload_n 0, 1) := by decide +kernel
theorem dX12_book_95 : decode cX12_book 95 = .ok (.getfield 117, 3) := by decide +kernel
theorem dX12_book_98 : decode cX12_book 98 = .ok (.iload_n 1, 1) := by decide +kernel
theorem dX12_book_99 : decode cX12_book 99 = .ok (.aload_n 0, 1) := by decide +kernel
theorem dX12_book_100 : decode cX12_book 100 = .ok (.getfield 117, 3) := by decide +kernel
theorem dX12_book_103 : decode cX12_book 103 = .ok (.bipush 24, 2) := by decide +kernel
theorem dX12_book_105 : decode cX12_book 105 = .ok (.iload_n 1, 1) := by decide +kernel
theorem dX12_book_106 : decode cX12_book 106 = .ok (.iadd, 1) := by decide +kernel
theorem dX12_book_107 : decode cX12_book 107 = .ok (.iaload, 1) := by decide +kernel
theorem dX12_book_108 : decode cX12_book 108 = .ok (.iastore, 1) := by decide +kernel
theorem dX12_book_109 : decode cX12_book 109 = .ok (.aload_n 0, 1) := by decide +kernel
theorem dX12_book_110 : decode cX12_book 110 = .ok (.getfield 120, 3) := by decide +kernel
theorem dX12_book_113 : decode cX12_book 113 = .ok (.iload_n 1, 1) := by decide +kernel
theorem dX12_book_114 : decode cX12_book 114 = .ok (.aload_n 0, 1) := by decide +kernel
theorem dX12_book_115 : decode cX12_book 115 = .ok (.getfield 120, 3) := by decide +kernel
theorem dX12_book_118 : decode cX12_book 118 = .ok (.bipush 24, 2) := by decide +kernel
theorem dX12_book_120 : decode cX12_book 120 = .ok (.iload_n 1, 1) := by decide +kernel
theorem dX12_book_121 : decode cX12_book 121 = .ok (.iadd, 1) := by decide +kernel
theorem dX12_book_122 : decode cX12_book 122 = .ok (.iaload, 1) := by decide +kernel
theorem dX12_book_123 : decode cX12_book 123 = .ok (.iastore, 1) := by decide +kernel
theorem dX12_book_124 : decode cX12_book 124 = .ok (.iinc 1 1, 3) := by decide +kernel
theorem dX12_book_127 : decode cX12_book 127 = .ok (.goto (-39), 3) := by decide +kernel
theorem dX12_book_130 : decode cX12_book 130 = .ok (.iconst 0, 1) := by decide +kernel
theorem dX12_book_131 : decode cX12_book 131 = .ok (.istore_n 1, 1) := by decide +kernel
theorem dX12_book_132 : decode cX12_book 132 = .ok (.iload_n 1, 1) := by decide +kernel
theorem dX12_book_133 : decode cX12_book 133 = .ok (.bipush 6, 2) := by decide +kernel
theorem dX12_book_135 : decode cX12_book 135 = .ok (.if_icmp .ge 24, 3) := by decide +kernel
theorem dX12_book_138 : decode cX12_book 138 = .ok (.aload_n 0, 1) := by decide +kernel
theorem dX12_book_139 : decode cX12_book 139 = .ok (.getfield 123, 3) := by decide +kernel
theorem dX12_book_142 : decode cX12_book 142 = .ok (.iload_n 1, 1) := by decide +kernel
theorem dX12_book_143 : decode cX12_book 143 = .ok (.aload_n 0, 1) := by decide +kernel
theorem dX12_book_144 : decode cX12_book 144 = .ok (.getfield 123, 3) := by decide +kernel
theorem dX12_book_147 : decode cX12_book 147 = .ok (.bipush 6, 2) := by decide +kernel
theorem dX12_book_149 : decode cX12_book 149 = .ok (.iload_n 1, 1) := by decide +kernel
theorem dX12_book_150 : decode cX12_book 150 = .ok (.iadd, 1) := by decide +kernel
theorem dX12_book_151 : decode cX12_book 151 = .ok (.laload, 1) := by decide +kernel
theorem dX12_book_152 : decode cX12_book 152 = .ok (.lastore, 1) := by decide +kernel
theorem dX12_book_153 : decode cX12_book 153 = .ok (.iinc 1 1, 3) := by decide +kernel
theorem dX12_book_156 : decode cX12_book 156 = .ok (.goto (-24), 3) := by decide +kernel
theorem dX12_book_159 : decode cX12_book 159 = .ok (.iconst 0, 1) := by decide +kernel
theorem dX12_book_160 : decode cX12_book 160 = .ok (.istore_n 1, 1) := by decide +kernel
theorem dX12_book_161 : decode cX12_book 161 = .ok (.iload_n 1, 1) := by decide +kernel
theorem dX12_book_162 : decode cX12_book 162 = .ok (.aload_n 0, 1) := by decide +kernel
theorem dX12_book_163 : decode cX12_book 163 = .ok (.getfield 234, 3) := by decide +kernel
theorem dX12_book_166 : decode cX12_book 166 = .ok (.if_icmp .ge 25, 3) := by decide +kernel
theorem dX12_book_169 : decode cX12_book 169 = .ok (.aload_n 0, 1) := by decide +kernel
theorem dX12_book_170 : decode cX12_book 170 = .ok (.getfield 108, 3) := by decide +kernel
theorem dX12_book_173 : decode cX12_book 173 = .ok (.iload_n 1, 1) := by decide +kernel
theorem dX12_book_174 : decode cX12_book 174 = .ok (.aload_n 0, 1) := by decide +kernel
theorem dX12_book_175 : decode cX12_book 175 = .ok (.getfield 108, 3) := by decide +kernel
theorem dX12_book_178 : decode cX12_book 178 = .ok (.sipush 1600, 3) := by decide +kernel
theorem dX12_book_181 : decode cX12_book 181 = .ok (.iload_n 1, 1) := by decide +kernel
theorem dX12_book_182 : decode cX12_book 182 = .ok (.iadd, 1) := by decide +kernel
theorem dX12_book_183 : decode cX12_book 183 = .ok (.iaload, 1) := by decide +kernel
theorem dX12_book_184 : decode cX12_book 184 = .ok (.iastore, 1) := by decide +kernel
theorem dX12_book_185 : decode cX12_book 185 = .ok (.iinc 1 1, 3) := by decide +kernel
theorem dX12_book_188 : decode cX12_book 188 = .ok (.goto (-27), 3) := by decide +kernel
theorem dX12_book_191 : decode cX12_book 191 = .ok (.aload_n 0, 1) := by decide +kernel
theorem dX12_book_192 : decode cX12_book 192 = .ok (.iconst 0, 1) := by decide +kernel
theorem dX12_book_193 : decode cX12_book 193 = .ok (.putfield 270, 3) := by decide +kernel
theorem dX12_book_196 : decode cX12_book 196 = .ok (.aload_n 0, 1) := by decide +kernel
theorem dX12_book_197 : decode cX12_book 197 = .ok (.getfield 231, 3) := by decide +kernel
theorem dX12_book_200 : decode cX12_book 200 = .ok (.ireturn, 1) := by decide +kernel
theorem dX12_fault_0 : decode cX12_fault 0 = .ok (.iload_n 1, 1) := by decide +kernel
theorem dX12_fault_1 : decode cX12_fault 1 = .ok (.ifCond .ne 10, 3) := by decide +kernel
theorem dX12_fault_4 : decode cX12_fault 4 = .ok (.aload_n 0, 1) := by decide +kernel
theorem dX12_fault_5 : decode cX12_fault 5 = .ok (.getfield 237, 3) := by decide +kernel
theorem dX12_fault_8 : decode cX12_fault 8 = .ok (.goto 16, 3) := by decide +kernel
theorem dX12_fault_11 : decode cX12_fault 11 = .ok (.iload_n 1, 1) := by decide +kernel
theorem dX12_fault_12 : decode cX12_fault 12 = .ok (.iconst 1, 1) := by decide +kernel
theorem dX12_fault_13 : decode cX12_fault 13 = .ok (.if_icmp .ne 10, 3) := by decide +kernel
theorem dX12_fault_16 : decode cX12_fault 16 = .ok (.aload_n 0, 1) := by decide +kernel
theorem dX12_fault_17 : decode cX12_fault 17 = .ok (.getfield 13, 3) := by decide +kernel
theorem dX12_fault_20 : decode cX12_fault 20 = .ok (.goto 4, 3) := by decide +kernel
theorem dX12_fault_23 : decode cX12_fault 23 = .ok (.iconst (-1), 1) := by decide +kernel
theorem dX12_fault_24 : decode cX12_fault 24 = .ok (.ireturn, 1) := by decide +kernel
theorem dX12_clip_0 : decode cX12_clip 0 = .ok (.lload_n 0, 1) := by decide +kernel
theorem dX12_clip_1 : decode cX12_clip 1 = .ok (.ldc2_w 356, 3) := by decide +kernel
theorem dX12_clip_4 : decode cX12_clip 4 = .ok (.lcmp, 1) := by decide +kernel
theorem dX12_clip_5 : decode cX12_clip 5 = .ok (.ifCond .le 9, 3) := by decide +kernel
theorem dX12_clip_8 : decode cX12_clip 8 = .ok (.ldc2_w 356, 3) := by decide +kernel
theorem dX12_clip_11 : decode cX12_clip 11 = .ok (.goto 18, 3) := by decide +kernel
theorem dX12_clip_14 : decode cX12_clip 14 = .ok (.lload_n 0, 1) := by decide +kernel
theorem dX12_clip_15 : decode cX12_clip 15 = .ok (.ldc2_w 358, 3) := by decide +kernel
theorem dX12_clip_18 : decode cX12_clip 18 = .ok (.lcmp, 1) := by decide +kernel
theorem dX12_clip_19 : decode cX12_clip 19 = .ok (.ifCond .ge 9, 3) := by decide +kernel
theorem dX12_clip_22 : decode cX12_clip 22 = .ok (.ldc2_w 358, 3) := by decide +kernel
theorem dX12_clip_25 : decode cX12_clip 25 = .ok (.goto 4, 3) := by decide +kernel
theorem dX12_clip_28 : decode cX12_clip 28 = .ok (.lload_n 0, 1) := by decide +kernel
theorem dX12_clip_29 : decode cX12_clip 29 = .ok (.lreturn, 1) := by decide +kernel
theorem dX12_floor_0 : decode cX12_floor 0 = .ok (.lload_n 2, 1) := by decide +kernel
theorem dX12_floor_1 : decode cX12_floor 1 = .ok (.lconst 0, 1) := by decide +kernel
theorem dX12_floor_2 : decode cX12_floor 2 = .ok (.lcmp, 1) := by decide +kernel
theorem dX12_floor_3 : decode cX12_floor 3 = .ok (.ifCond .ne 5, 3) := by decide +kernel
theorem dX12_floor_6 : decode cX12_floor 6 = .ok (.lconst 0, 1) := by decide +kernel
theorem dX12_floor_7 : decode cX12_floor 7 = .ok (.lreturn, 1) := by decide +kernel
theorem dX12_floor_8 : decode cX12_floor 8 = .ok (.lload_n 0, 1) := by decide +kernel
theorem dX12_floor_9 : decode cX12_floor 9 = .ok (.lload_n 2, 1) := by decide +kernel
theorem dX12_floor_10 : decode cX12_floor 10 = .ok (.ldiv, 1) := by decide +kernel
theorem dX12_floor_11 : decode cX12_floor 11 = .ok (.lstore 4, 2) := by decide +kernel
theorem dX12_floor_13 : decode cX12_floor 13 = .ok (.lload_n 0, 1) := by decide +kernel
theorem dX12_floor_14 : decode cX12_floor 14 = .ok (.lload_n 2, 1) := by decide +kernel
theorem dX12_floor_15 : decode cX12_floor 15 = .ok (.lrem, 1) := by decide +kernel
theorem dX12_floor_16 : decode cX12_floor 16 = .ok (.lconst 0, 1) := by decide +kernel
theorem dX12_floor_17 : decode cX12_floor 17 = .ok (.lcmp, 1) := by decide +kernel
theorem dX12_floor_18 : decode cX12_floor 18 = .ok (.ifCond .eq 35, 3) := by decide +kernel
theorem dX12_floor_21 : decode cX12_floor 21 = .ok (.lload_n 0, 1) := by decide +kernel
theorem dX12_floor_22 : decode cX12_floor 22 = .ok (.lconst 0, 1) := by decide +kernel
theorem dX12_floor_23 : decode cX12_floor 23 = .ok (.lcmp, 1) := by decide +kernel
theorem dX12_floor_24 : decode cX12_floor 24 = .ok (.ifCond .ge 7, 3) := by decide +kernel
theorem dX12_floor_27 : decode cX12_floor 27 = .ok (.iconst 1, 1) := by decide +kernel
theorem dX12_floor_28 : decode cX12_floor 28 = .ok (.goto 4, 3) := by decide +kernel
theorem dX12_floor_31 : decode cX12_floor 31 = .ok (.iconst 0, 1) := by decide +kernel
theorem dX12_floor_32 : decode cX12_floor 32 = .ok (.lload_n 2, 1) := by decide +kernel
theorem dX12_floor_33 : decode cX12_floor 33 = .ok (.lconst 0, 1) := by decide +kernel
theorem dX12_floor_34 : decode cX12_floor 34 = .ok (.lcmp, 1) := by decide +kernel
theorem dX12_floor_35 : decode cX12_floor 35 = .ok (.ifCond .ge 7, 3) := by decide +kernel
theorem dX12_floor_38 : decode cX12_floor 38 = .ok (.iconst 1, 1) := by decide +kernel
theorem dX12_floor_39 : decode cX12_floor 39 = .ok (.goto 4, 3) := by decide +kernel
theorem dX12_floor_42 : decode cX12_floor 42 = .ok (.iconst 0, 1) := by decide +kernel
theorem dX12_floor_43 : decode cX12_floor 43 = .ok (.if_icmp .eq 10, 3) := by decide +kernel
theorem dX12_floor_46 : decode cX12_floor 46 = .ok (.lload 4, 2) := by decide +kernel
theorem dX12_floor_48 : decode cX12_floor 48 = .ok (.lconst 1, 1) := by decide +kernel
theorem dX12_floor_49 : decode cX12_floor 49 = .ok (.lsub, 1) := by decide +kernel
theorem dX12_floor_50 : decode cX12_floor 50 = .ok (.goto 5, 3) := by decide +kernel
theorem dX12_floor_53 : decode cX12_floor 53 = .ok (.lload 4, 2) := by decide +kernel
theorem dX12_floor_55 : decode cX12_floor 55 = .ok (.lreturn, 1) := by decide +kernel
theorem dX12_puts_0 : decode cX12_puts 0 = .ok (.aload_n 0, 1) := by decide +kernel
theorem dX12_puts_1 : decode cX12_puts 1 = .ok (.getfield 130, 3) := by decide +kernel
theorem dX12_puts_4 : decode cX12_puts 4 = .ok (.aload_n 0, 1) := by decide +kernel
theorem dX12_puts_5 : decode cX12_puts 5 = .ok (.getfield 360, 3) := by decide +kernel
theorem dX12_puts_8 : decode cX12_puts 8 = .ok (.lload_n 1, 1) := by decide +kernel
theorem dX12_puts_9 : decode cX12_puts 9 = .ok (.lastore, 1) := by decide +kernel
theorem dX12_puts_10 : decode cX12_puts 10 = .ok (.aload_n 0, 1) := by decide +kernel
theorem dX12_puts_11 : decode cX12_puts 11 = .ok (.dup, 1) := by decide +kernel
theorem dX12_puts_12 : decode cX12_puts 12 = .ok (.getfield 360, 3) := by decide +kernel
theorem dX12_puts_15 : decode cX12_puts 15 = .ok (.iconst 1, 1) := by decide +kernel
theorem dX12_puts_16 : decode cX12_puts 16 = .ok (.iadd, 1) := by decide +kernel
theorem dX12_puts_17 : decode cX12_puts 17 = .ok (.putfield 360, 3) := by decide +kernel
theorem dX12_puts_20 : decode cX12_puts 20 = .ok (.return_, 1) := by decide +kernel
theorem dX12_joins_0 : decode cX12_joins 0 = .ok (.aload_n 0, 1) := by decide +kernel
theorem dX12_joins_1 : decode cX12_joins 1 = .ok (.getfield 130, 3) := by decide +kernel
theorem dX12_joins_4 : decode cX12_joins 4 = .ok (.aload_n 0, 1) := by decide +kernel
theorem dX12_joins_5 : decode cX12_joins 5 = .ok (.getfield 360, 3) := by decide +kernel
theorem dX12_joins_8 : decode cX12_joins 8 = .ok (.iconst 1, 1) := by decide +kernel
theorem dX12_joins_9 : decode cX12_joins 9 = .ok (.isub, 1) := by decide +kernel
theorem dX12_joins_10 : decode cX12_joins 10 = .ok (.laload, 1) := by decide +kernel
theorem dX12_joins_11 : decode cX12_joins 11 = .ok (.lstore_n 2, 1) := by decide +kernel
theorem dX12_joins_12 : decode cX12_joins 12 = .ok (.aload_n 0, 1) := by decide +kernel
theorem dX12_joins_13 : decode cX12_joins 13 = .ok (.getfield 130, 3) := by decide +kernel
theorem dX12_joins_16 : decode cX12_joins 16 = .ok (.aload_n 0, 1) := by decide +kernel
theorem dX12_joins_17 : decode cX12_joins 17 = .ok (.getfield 360, 3) := by decide +kernel
theorem dX12_joins_20 : decode cX12_joins 20 = .ok (.iconst 2, 1) := by decide +kernel
theorem dX12_joins_21 : decode cX12_joins 21 = .ok (.isub, 1) := by decide +kernel
theorem dX12_joins_22 : decode cX12_joins 22 = .ok (.laload, 1) := by decide +kernel
theorem dX12_joins_23 : decode cX12_joins 23 = .ok (.lstore 4, 2) := by decide +kernel
theorem dX12_joins_25 : decode cX12_joins 25 = .ok (.aload_n 0, 1) := by decide +kernel
theorem dX12_joins_26 : decode cX12_joins 26 = .ok (.dup, 1) := by decide +kernel
theorem dX12_joins_27 : decode cX12_joins 27 = .ok (.getfield 360, 3) := by decide +kernel
theorem dX12_joins_30 : decode cX12_joins 30 = .ok (.iconst 2, 1) := by decide +kernel
theorem dX12_joins_31 : decode cX12_joins 31 = .ok (.isub, 1) := by decide +kernel
theorem dX12_joins_32 : decode cX12_joins 32 = .ok (.putfield 360, 3) := by decide +kernel
theorem dX12_joins_35 : decode cX12_joins 35 = .ok (.iload_n 1, 1) := by decide +kernel
theorem dX12_joins_36 : decode cX12_joins 36 = .ok (.tableswitch 235 1 14 #[72, 86, 100, 114, 127, 147, 235, 235, 235, 235, 167, 186, 205, 224], 72) := by decide +kernel
theorem dX12_joins_108 : decode cX12_joins 108 = .ok (.aload_n 0, 1) := by decide +kernel
theorem dX12_joins_109 : decode cX12_joins 109 = .ok (.lload 4, 2) := by decide +kernel
theorem dX12_joins_111 : decode cX12_joins 111 = .ok (.lload_n 2, 1) := by decide +kernel
theorem dX12_joins_112 : decode cX12_joins 112 = .ok (.ladd, 1) := by decide +kernel
theorem dX12_joins_113 : decode cX12_joins 113 = .ok (.invokestatic 363, 3) := by decide +kernel
theorem dX12_joins_116 : decode cX12_joins 116 = .ok (.invokevirtual 367, 3) := by decide +kernel
theorem dX12_joins_119 : decode cX12_joins 119 = .ok (.goto 170, 3) := by decide +kernel
theorem dX12_joins_122 : decode cX12_joins 122 = .ok (.aload_n 0, 1) := by decide +kernel
theorem dX12_joins_123 : decode cX12_joins 123 = .ok (.lload 4, 2) := by decide +kernel
theorem dX12_joins_125 : decode cX12_joins 125 = .ok (.lload_n 2, 1) := by decide +kernel
theorem dX12_joins_126 : decode cX12_joins 126 = .ok (.lsub, 1) := by decide +kernel
theorem dX12_joins_127 : decode cX12_joins 127 = .ok (.invokestatic 363, 3) := by decide +kernel
theorem dX12_joins_130 : decode cX12_joins 130 = .ok (.invokevirtual 367, 3) := by decide +kernel
theorem dX12_joins_133 : decode cX12_joins 133 = .ok (.goto 156, 3) := by decide +kernel
theorem dX12_joins_136 : decode cX12_joins 136 = .ok (.aload_n 0, 1) := by decide +kernel
theorem dX12_joins_137 : decode cX12_joins 137 = .ok (.lload 4, 2) := by decide +kernel
theorem dX12_joins_139 : decode cX12_joins 139 = .ok (.lload_n 2, 1) := by decide +kernel
theorem dX12_joins_140 : decode cX12_joins 140 = .ok (.lmul, 1) := by decide +kernel
theorem dX12_joins_141 : decode cX12_joins 141 = .ok (.invokestatic 363, 3) := by decide +kernel
theorem dX12_joins_144 : decode cX12_joins 144 = .ok (.invokevirtual 367, 3) := by decide +kernel
theorem dX12_joins_147 : decode cX12_joins 147 = .ok (.goto 142, 3) := by decide +kernel
theorem dX12_joins_150 : decode cX12_joins 150 = .ok (.aload_n 0, 1) := by decide +kernel
theorem dX12_joins_151 : decode cX12_joins 151 = .ok (.lload 4, 2) := by decide +kernel
theorem dX12_joins_153 : decode cX12_joins 153 = .ok (.lload_n 2, 1) := by decide +kernel
theorem dX12_joins_154 : decode cX12_joins 154 = .ok (.invokestatic 371, 3) := by decide +kernel
theorem dX12_joins_157 : decode cX12_joins 157 = .ok (.invokevirtual 367, 3) := by decide +kernel
theorem dX12_joins_160 : decode cX12_joins 160 = .ok (.goto 129, 3) := by decide +kernel
theorem dX12_joins_163 : decode cX12_joins 163 = .ok (.aload_n 0, 1) := by decide +kernel
theorem dX12_joins_164 : decode cX12_joins 164 = .ok (.lload 4, 2) := by decide +kernel
theorem dX12_joins_166 : decode cX12_joins 166 = .ok (.lload_n 2, 1) := by decide +kernel
theorem dX12_joins_167 : decode cX12_joins 167 = .ok (.lcmp, 1) := by decide +kernel
theorem dX12_joins_168 : decode cX12_joins 168 = .ok (.ifCond .ge 8, 3) := by decide +kernel
theorem dX12_joins_171 : decode cX12_joins 171 = .ok (.lload 4, 2) := by decide +kernel
theorem dX12_joins_173 : decode cX12_joins 173 = .ok (.goto 4, 3) := by decide +kernel
theorem dX12_joins_176 : decode cX12_joins 176 = .ok (.lload_n 2, 1) := by decide +kernel
theorem dX12_joins_177 : decode cX12_joins 177 = .ok (.invokevirtual 367, 3) := by decide +kernel
theorem dX12_joins_180 : decode cX12_joins 180 = .ok (.goto 109, 3) := by decide +kernel
theorem dX12_joins_183 : decode cX12_joins 183 = .ok (.aload_n 0, 1) := by decide +kernel
theorem dX12_joins_184 : decode cX12_joins 184 = .ok (.lload 4, 2) := by decide +kernel
theorem dX12_joins_186 : decode cX12_joins 186 = .ok (.lload_n 2, 1) := by decide +kernel
theorem dX12_joins_187 : decode cX12_joins 187 = .ok (.lcmp, 1) := by decide +kernel
theorem dX12_joins_188 : decode cX12_joins 188 = .ok (.ifCond .le 8, 3) := by decide +kernel
theorem dX12_joins_191 : decode cX12_joins 191 = .ok (.lload 4, 2) := by decide +kernel
theorem dX12_joins_193 : decode cX12_joins 193 = .ok (.goto 4, 3) := by decide +kernel
theorem dX12_joins_196 : decode cX12_joins 196 = .ok (.lload_n 2, 1) := by decide +kernel
theorem dX12_joins_197 : decode cX12_joins 197 = .ok (.invokevirtual 367, 3) := by decide +kernel
theorem dX12_joins_200 : decode cX12_joins 200 = .ok (.goto 89, 3) := by decide +kernel
theorem dX12_joins_203 : decode cX12_joins 203 = .ok (.aload_n 0, 1) := by decide +kernel
theorem dX12_joins_204 : decode cX12_joins 204 = .ok (.lload 4, 2) := by decide +kernel
theorem dX12_joins_206 : decode cX12_joins 206 = .ok (.lload_n 2, 1) := by decide +kernel
theorem dX12_joins_207 : decode cX12_joins 207 = .ok (.lcmp, 1) := by decide +kernel
theorem dX12_joins_208 : decode cX12_joins 208 = .ok (.ifCond .ge 7, 3) := by decide +kernel
theorem dX12_joins_211 : decode cX12_joins 211 = .ok (.lconst 1, 1) := by decide +kernel
theorem dX12_joins_212 : decode cX12_joins 212 = .ok (.goto 4, 3) := by decide +kernel
theorem dX12_joins_215 : decode cX12_joins 215 = .ok (.lconst 0, 1) := by decide +kernel
theorem dX12_joins_216 : decode cX12_joins 216 = .ok (.invokevirtual 367, 3) := by decide +kernel
theorem dX12_joins_219 : decode cX12_joins 219 = .ok (.goto 70, 3) := by decide +kernel
theorem dX12_joins_222 : decode cX12_joins 222 = .ok (.aload_n 0, 1) := by decide +kernel
theorem dX12_joins_223 : decode cX12_joins 223 = .ok (.lload 4, 2) := by decide +kernel
theorem dX12_joins_225 : decode cX12_joins 225 = .ok (.lload_n 2, 1) := by decide +kernel
theorem dX12_joins_226 : decode cX12_joins 226 = .ok (.lcmp, 1) := by decide +kernel
theorem dX12_joins_227 : decode cX12_joins 227 = .ok (.ifCond .le 7, 3) := by decide +kernel
theorem dX12_joins_230 : decode cX12_joins 230 = .ok (.lconst 1, 1) := by decide +kernel
theorem dX12_joins_231 : decode cX12_joins 231 = .ok (.goto 4, 3) := by decide +kernel
theorem dX12_joins_234 : decode cX12_joins 234 = .ok (.lconst 0, 1) := by decide +kernel
theorem dX12_joins_235 : decode cX12_joins 235 = .ok (.invokevirtual 367, 3) := by decide +kernel
theorem dX12_joins_238 : decode cX12_joins 238 = .ok (.goto 51, 3) := by decide +kernel
theorem dX12_joins_241 : decode cX12_joins 241 = .ok (.aload_n 0, 1) := by decide +kernel
theorem dX12_joins_242 : decode cX12_joins 242 = .ok (.lload 4, 2) := by decide +kernel
theorem dX12_joins_244 : decode cX12_joins 244 = .ok (.lload_n 2, 1) := by decide +kernel
theorem dX12_joins_245 : decode cX12_joins 245 = .ok (.lcmp, 1) := by decide +kernel
theorem dX12_joins_246 : decode cX12_joins 246 = .ok (.ifCond .ne 7, 3) := by decide +kernel
theorem dX12_joins_249 : decode cX12_joins 249 = .ok (.lconst 1, 1) := by decide +kernel
theorem dX12_joins_250 : decode cX12_joins 250 = .ok (.goto 4, 3) := by decide +kernel
theorem dX12_joins_253 : decode cX12_joins 253 = .ok (.lconst 0, 1) := by decide +kernel
theorem dX12_joins_254 : decode cX12_joins 254 = .ok (.invokevirtual 367, 3) := by decide +kernel
theorem dX12_joins_257 : decode cX12_joins 257 = .ok (.goto 32, 3) := by decide +kernel
theorem dX12_joins_260 : decode cX12_joins 260 = .ok (.aload_n 0, 1) := by decide +kernel
theorem dX12_joins_261 : decode cX12_joins 261 = .ok (.lload 4, 2) := by decide +kernel
theorem dX12_joins_263 : decode cX12_joins 263 = .ok (.lload_n 2, 1) := by decide +kernel
theorem dX12_joins_264 : decode cX12_joins 264 = .ok (.lmul, 1) := by decide +kernel
theorem dX12_joins_265 : decode cX12_joins 265 = .ok (.invokevirtual 367, 3) := by decide +kernel
theorem dX12_joins_268 : decode cX12_joins 268 = .ok (.goto 21, 3) := by decide +kernel
theorem dX12_joins_271 : decode cX12_joins 271 = .ok (.aload_n 0, 1) := by decide +kernel
theorem dX12_joins_272 : decode cX12_joins 272 = .ok (.lload 4, 2) := by decide +kernel
theorem dX12_joins_274 : decode cX12_joins 274 = .ok (.lload_n 2, 1) := by decide +kernel
theorem dX12_joins_275 : decode cX12_joins 275 = .ok (.ladd, 1) := by decide +kernel
theorem dX12_joins_276 : decode cX12_joins 276 = .ok (.lconst 0, 1) := by decide +kernel
theorem dX12_joins_277 : decode cX12_joins 277 = .ok (.lcmp, 1) := by decide +kernel
theorem dX12_joins_278 : decode cX12_joins 278 = .ok (.ifCond .le 7, 3) := by decide +kernel
theorem dX12_joins_281 : decode cX12_joins 281 = .ok (.lconst 1, 1) := by decide +kernel
theorem dX12_joins_282 : decode cX12_joins 282 = .ok (.goto 4, 3) := by decide +kernel
theorem dX12_joins_285 : decode cX12_joins 285 = .ok (.lconst 0, 1) := by decide +kernel
theorem dX12_joins_286 : decode cX12_joins 286 = .ok (.invokevirtual 367, 3) := by decide +kernel
theorem dX12_joins_289 : decode cX12_joins 289 = .ok (.return_, 1) := by decide +kernel
theorem dX12_holds_0 : decode cX12_holds 0 = .ok (.bipush 12, 2) := by decide +kernel
theorem dX12_holds_2 : decode cX12_holds 2 = .ok (.iload_n 1, 1) := by decide +kernel
theorem dX12_holds_3 : decode cX12_holds 3 = .ok (.imul, 1) := by decide +kernel
theorem dX12_holds_4 : decode cX12_holds 4 = .ok (.iload_n 2, 1) := by decide +kernel
theorem dX12_holds_5 : decode cX12_holds 5 = .ok (.iadd, 1) := by decide +kernel
theorem dX12_holds_6 : decode cX12_holds 6 = .ok (.istore_n 3, 1) := by decide +kernel
theorem dX12_holds_7 : decode cX12_holds 7 = .ok (.aload_n 0, 1) := by decide +kernel
theorem dX12_holds_8 : decode cX12_holds 8 = .ok (.iconst 0, 1) := by decide +kernel
theorem dX12_holds_9 : decode cX12_holds 9 = .ok (.putfield 360, 3) := by decide +kernel
theorem dX12_holds_12 : decode cX12_holds 12 = .ok (.aload_n 0, 1) := by decide +kernel
theorem dX12_holds_13 : decode cX12_holds 13 = .ok (.getfield 117, 3) := by decide +kernel
theorem dX12_holds_16 : decode cX12_holds 16 = .ok (.iload_n 3, 1) := by decide +kernel
theorem dX12_holds_17 : decode cX12_holds 17 = .ok (.iaload, 1) := by decide +kernel
theorem dX12_holds_18 : decode cX12_holds 18 = .ok (.istore 4, 2) := by decide +kernel
theorem dX12_holds_20 : decode cX12_holds 20 = .ok (.iload 4, 2) := by decide +kernel
theorem dX12_holds_22 : decode cX12_holds 22 = .ok (.aload_n 0, 1) := by decide +kernel
theorem dX12_holds_23 : decode cX12_holds 23 = .ok (.getfield 120, 3) := by decide +kernel
theorem dX12_holds_26 : decode cX12_holds 26 = .ok (.iload_n 3, 1) := by decide +kernel
theorem dX12_holds_27 : decode cX12_holds 27 = .ok (.iaload, 1) := by decide +kernel
theorem dX12_holds_28 : decode cX12_holds 28 = .ok (.if_icmp .ge 120, 3) := by decide +kernel
theorem dX12_holds_31 : decode cX12_holds 31 = .ok (.aload_n 0, 1) := by decide +kernel
theorem dX12_holds_32 : decode cX12_holds 32 = .ok (.getfield 108, 3) := by decide +kernel
theorem dX12_holds_35 : decode cX12_holds 35 = .ok (.iload 4, 2) := by decide +kernel
theorem dX12_holds_37 : decode cX12_holds 37 = .ok (.iaload, 1) := by decide +kernel
theorem dX12_holds_38 : decode cX12_holds 38 = .ok (.istore 5, 2) := by decide +kernel
theorem dX12_holds_40 : decode cX12_holds 40 = .ok (.iload 5, 2) := by decide +kernel
theorem dX12_holds_42 : decode cX12_holds 42 = .ok (.sipush 1000, 3) := by decide +kernel
theorem dX12_holds_45 : decode cX12_holds 45 = .ok (.if_icmp .lt 17, 3) := by decide +kernel
theorem dX12_holds_48 : decode cX12_holds 48 = .ok (.aload_n 0, 1) := by decide +kernel
theorem dX12_holds_49 : decode cX12_holds 49 = .ok (.iload 5, 2) := by decide +kernel
theorem dX12_holds_51 : decode cX12_holds 51 = .ok (.sipush 1000, 3) := by decide +kernel
theorem dX12_holds_54 : decode cX12_holds 54 = .ok (.isub, 1) := by decide +kernel
theorem dX12_holds_55 : decode cX12_holds 55 = .ok (.i2l, 1) := by decide +kernel
theorem dX12_holds_56 : decode cX12_holds 56 = .ok (.invokevirtual 367, 3) := by decide +kernel
theorem dX12_holds_59 : decode cX12_holds 59 = .ok (.goto 83, 3) := by decide +kernel
theorem dX12_holds_62 : decode cX12_holds 62 = .ok (.iload 5, 2) := by decide +kernel
theorem dX12_holds_64 : decode cX12_holds 64 = .ok (.bipush 40, 2) := by decide +kernel
theorem dX12_holds_66 : decode cX12_holds 66 = .ok (.if_icmp .lt 21, 3) := by decide +kernel
theorem dX12_holds_69 : decode cX12_holds 69 = .ok (.aload_n 0, 1) := by decide +kernel
theorem dX12_holds_70 : decode cX12_holds 70 = .ok (.aload_n 0, 1) := by decide +kernel
theorem dX12_holds_71 : decode cX12_holds 71 = .ok (.getfield 133, 3) := by decide +kernel
theorem dX12_holds_74 : decode cX12_holds 74 = .ok (.iload 5, 2) := by decide +kernel
theorem dX12_holds_76 : decode cX12_holds 76 = .ok (.bipush 40, 2) := by decide +kernel
theorem dX12_holds_78 : decode cX12_holds 78 = .ok (.isub, 1) := by decide +kernel
theorem dX12_holds_79 : decode cX12_holds 79 = .ok (.iaload, 1) := by decide +kernel
theorem dX12_holds_80 : decode cX12_holds 80 = .ok (.i2l, 1) := by decide +kernel
theorem dX12_holds_81 : decode cX12_holds 81 = .ok (.invokevirtual 367, 3) := by decide +kernel
theorem dX12_holds_84 : decode cX12_holds 84 = .ok (.goto 58, 3) := by decide +kernel
theorem dX12_holds_87 : decode cX12_holds 87 = .ok (.iload 5, 2) := by decide +kernel
theorem dX12_holds_89 : decode cX12_holds 89 = .ok (.bipush 17, 2) := by decide +kernel
theorem dX12_holds_91 : decode cX12_holds 91 = .ok (.if_icmp .ne 11, 3) := by decide +kernel
theorem dX12_holds_94 : decode cX12_holds 94 = .ok (.aload_n 0, 1) := by decide +kernel
theorem dX12_holds_95 : decode cX12_holds 95 = .ok (.lconst 1, 1) := by decide +kernel
theorem dX12_holds_96 : decode cX12_holds 96 = .ok (.invokevirtual 367, 3) := by decide +kernel
theorem dX12_holds_99 : decode cX12_holds 99 = .ok (.goto 43, 3) := by decide +kernel
theorem dX12_holds_102 : decode cX12_holds 102 = .ok (.iload 5, 2) := by decide +kernel
theorem dX12_holds_104 : decode cX12_holds 104 = .ok (.bipush 16, 2) := by decide +kernel
theorem dX12_holds_106 : decode cX12_holds 106 = .ok (.if_icmp .ne 30, 3) := by decide +kernel
theorem dX12_holds_109 : decode cX12_holds 109 = .ok (.aload_n 0, 1) := by decide +kernel
theorem dX12_holds_110 : decode cX12_holds 110 = .ok (.getfield 130, 3) := by decide +kernel
theorem dX12_holds_113 : decode cX12_holds 113 = .ok (.aload_n 0, 1) := by decide +kernel
theorem dX12_holds_114 : decode cX12_holds 114 = .ok (.getfield 360, 3) := by decide +kernel
theorem dX12_holds_117 : decode cX12_holds 117 = .ok (.iconst 1, 1) := by decide +kernel
theorem dX12_holds_118 : decode cX12_holds 118 = .ok (.isub, 1) := by decide +kernel
theorem dX12_holds_119 : decode cX12_holds 119 = .ok (.lconst 1, 1) := by decide +kernel
theorem dX12_holds_120 : decode cX12_holds 120 = .ok (.aload_n 0, 1) := by decide +kernel
theorem dX12_holds_121 : decode cX12_holds 121 = .ok (.getfield 130, 3) := by decide +kernel
theorem dX12_holds_124 : decode cX12_holds 124 = .ok (.aload_n 0, 1) := by decide +kernel
theorem dX12_holds_125 : decode cX12_holds 125 = .ok (.getfield 360, 3) := by decide +kernel
theorem dX12_holds_128 : decode cX12_holds 128 = .ok (.iconst 1, 1) := by decide +kernel
theorem dX12_holds_129 : decode cX12_holds 129 = .ok (.isub, 1) := by decide +kernel
theorem dX12_holds_130 : decode cX12_holds 130 = .ok (.laload, 1) := by decide +kernel
theorem dX12_holds_131 : decode cX12_holds 131 = .ok (.lsub, 1) := by decide +kernel
theorem dX12_holds_132 : decode cX12_holds 132 = .ok (.lastore, 1) := by decide +kernel
theorem dX12_holds_133 : decode cX12_holds 133 = .ok (.goto 9, 3) := by decide +kernel
theorem dX12_holds_136 : decode cX12_holds 136 = .ok (.aload_n 0, 1) := by decide +kernel
theorem dX12_holds_137 : decode cX12_holds 137 = .ok (.iload 5, 2) := by decide +kernel
theorem dX12_holds_139 : decode cX12_holds 139 = .ok (.invokevirtual 375, 3) := by decide +kernel
theorem dX12_holds_142 : decode cX12_holds 142 = .ok (.iinc 4 1, 3) := by decide +kernel
theorem dX12_holds_145 : decode cX12_holds 145 = .ok (.goto (-125), 3) := by decide +kernel
theorem dX12_holds_148 : decode cX12_holds 148 = .ok (.aload_n 0, 1) := by decide +kernel
theorem dX12_holds_149 : decode cX12_holds 149 = .ok (.getfield 130, 3) := by decide +kernel
theorem dX12_holds_152 : decode cX12_holds 152 = .ok (.iconst 0, 1) := by decide +kernel
theorem dX12_holds_153 : decode cX12_holds 153 = .ok (.laload, 1) := by decide +kernel
theorem dX12_holds_154 : decode cX12_holds 154 = .ok (.lconst 1, 1) := by decide +kernel
theorem dX12_holds_155 : decode cX12_holds 155 = .ok (.lcmp, 1) := by decide +kernel
theorem dX12_holds_156 : decode cX12_holds 156 = .ok (.ifCond .ne 7, 3) := by decide +kernel
theorem dX12_holds_159 : decode cX12_holds 159 = .ok (.iconst 1, 1) := by decide +kernel
theorem dX12_holds_160 : decode cX12_holds 160 = .ok (.goto 4, 3) := by decide +kernel
theorem dX12_holds_163 : decode cX12_holds 163 = .ok (.iconst 0, 1) := by decide +kernel
theorem dX12_holds_164 : decode cX12_holds 164 = .ok (.ireturn, 1) := by decide +kernel
theorem dX12_has_0 : decode cX12_has 0 = .ok (.iconst 0, 1) := by decide +kernel
theorem dX12_has_1 : decode cX12_has 1 = .ok (.istore_n 2, 1) := by decide +kernel
theorem dX12_has_2 : decode cX12_has 2 = .ok (.iload_n 1, 1) := by decide +kernel
theorem dX12_has_3 : decode cX12_has 3 = .ok (.tableswitch 133 0 9 #[53, 58, 89, 94, 101, 108, 113, 118, 123, 128], 53) := by decide +kernel
theorem dX12_has_56 : decode cX12_has 56 = .ok (.aload_n 0, 1) := by decide +kernel
theorem dX12_has_57 : decode cX12_has 57 = .ok (.getfield 261, 3) := by decide +kernel
theorem dX12_has_60 : decode cX12_has 60 = .ok (.ireturn, 1) := by decide +kernel
theorem dX12_has_61 : decode cX12_has 61 = .ok (.iconst 0, 1) := by decide +kernel
theorem dX12_has_62 : decode cX12_has 62 = .ok (.istore_n 3, 1) := by decide +kernel
theorem dX12_has_63 : decode cX12_has 63 = .ok (.iload_n 3, 1) := by decide +kernel
theorem dX12_has_64 : decode cX12_has 64 = .ok (.aload_n 0, 1) := by decide +kernel
theorem dX12_has_65 : decode cX12_has 65 = .ok (.getfield 261, 3) := by decide +kernel
theorem dX12_has_68 : decode cX12_has 68 = .ok (.if_icmp .ge 22, 3) := by decide +kernel
theorem dX12_has_71 : decode cX12_has 71 = .ok (.aload_n 0, 1) := by decide +kernel
theorem dX12_has_72 : decode cX12_has 72 = .ok (.getfield 96, 3) := by decide +kernel
theorem dX12_has_75 : decode cX12_has 75 = .ok (.iload_n 3, 1) := by decide +kernel
theorem dX12_has_76 : decode cX12_has 76 = .ok (.iaload, 1) := by decide +kernel
theorem dX12_has_77 : decode cX12_has 77 = .ok (.iconst (-1), 1) := by decide +kernel
theorem dX12_has_78 : decode cX12_has 78 = .ok (.if_icmp .ne 6, 3) := by decide +kernel
theorem dX12_has_81 : decode cX12_has 81 = .ok (.iinc 2 1, 3) := by decide +kernel
theorem dX12_has_84 : decode cX12_has 84 = .ok (.iinc 3 1, 3) := by decide +kernel
theorem dX12_has_87 : decode cX12_has 87 = .ok (.goto (-24), 3) := by decide +kernel
theorem dX12_has_90 : decode cX12_has 90 = .ok (.iload_n 2, 1) := by decide +kernel
theorem dX12_has_91 : decode cX12_has 91 = .ok (.ireturn, 1) := by decide +kernel
theorem dX12_has_92 : decode cX12_has 92 = .ok (.aload_n 0, 1) := by decide +kernel
theorem dX12_has_93 : decode cX12_has 93 = .ok (.getfield 267, 3) := by decide +kernel
theorem dX12_has_96 : decode cX12_has 96 = .ok (.ireturn, 1) := by decide +kernel
theorem dX12_has_97 : decode cX12_has 97 = .ok (.aload_n 0, 1) := by decide +kernel
theorem dX12_has_98 : decode cX12_has 98 = .ok (.getfield 114, 3) := by decide +kernel
theorem dX12_has_101 : decode cX12_has 101 = .ok (.iconst 0, 1) := by decide +kernel
theorem dX12_has_102 : decode cX12_has 102 = .ok (.iaload, 1) := by decide +kernel
theorem dX12_has_103 : decode cX12_has 103 = .ok (.ireturn, 1) := by decide +kernel
theorem dX12_has_104 : decode cX12_has 104 = .ok (.aload_n 0, 1) := by decide +kernel
theorem dX12_has_105 : decode cX12_has 105 = .ok (.getfield 114, 3) := by decide +kernel
theorem dX12_has_108 : decode cX12_has 108 = .ok (.iconst 1, 1) := by decide +kernel
theorem dX12_has_109 : decode cX12_has 109 = .ok (.iaload, 1) := by decide +kernel
theorem dX12_has_110 : decode cX12_has 110 = .ok (.ireturn, 1) := by decide +kernel
theorem dX12_has_111 : decode cX12_has 111 = .ok (.aload_n 0, 1) := by decide +kernel
theorem dX12_has_112 : decode cX12_has 112 = .ok (.getfield 127, 3) := by decide +kernel
theorem dX12_has_115 : decode cX12_has 115 = .ok (.ireturn, 1) := by decide +kernel
theorem dX12_has_116 : decode cX12_has 116 = .ok (.aload_n 0, 1) := by decide +kernel
theorem dX12_has_117 : decode cX12_has 117 = .ok (.getfield 105, 3) := by decide +kernel
theorem dX12_has_120 : decode cX12_has 120 = .ok (.ireturn, 1) := by decide +kernel
theorem dX12_has_121 : decode cX12_has 121 = .ok (.aload_n 0, 1) := by decide +kernel
theorem dX12_has_122 : decode cX12_has 122 = .ok (.getfield 139, 3) := by decide +kernel
theorem dX12_has_125 : decode cX12_has 125 = .ok (.ireturn, 1) := by decide +kernel
theorem dX12_has_126 : decode cX12_has 126 = .ok (.aload_n 0, 1) := by decide +kernel
theorem dX12_has_127 : decode cX12_has 127 = .ok (.getfield 142, 3) := by decide +kernel
theorem dX12_has_130 : decode cX12_has 130 = .ok (.ireturn, 1) := by decide +kernel
theorem dX12_has_131 : decode cX12_has 131 = .ok (.aload_n 0, 1) := by decide +kernel
theorem dX12_has_132 : decode cX12_has 132 = .ok (.getfield 378, 3) := by decide +kernel
theorem dX12_has_135 : decode cX12_has 135 = .ok (.ireturn, 1) := by decide +kernel
theorem dX12_has_136 : decode cX12_has 136 = .ok (.iconst (-1), 1) := by decide +kernel
theorem dX12_has_137 : decode cX12_has 137 = .ok (.ireturn, 1) := by decide +kernel
theorem dX12_letter_0 : decode cX12_letter 0 = .ok (.iload_n 1, 1) := by decide +kernel
theorem dX12_letter_1 : decode cX12_letter 1 = .ok (.i2l, 1) := by decide +kernel
theorem dX12_letter_2 : decode cX12_letter 2 = .ok (.lconst 0, 1) := by decide +kernel
theorem dX12_letter_3 : decode cX12_letter 3 = .ok (.aload_n 0, 1) := by decide +kernel
theorem dX12_letter_4 : decode cX12_letter 4 = .ok (.getfield 114, 3) := by decide +kernel
theorem dX12_letter_7 : decode cX12_letter 7 = .ok (.iconst 1, 1) := by decide +kernel
theorem dX12_letter_8 : decode cX12_letter 8 = .ok (.iaload, 1) := by decide +kernel
theorem dX12_letter_9 : decode cX12_letter 9 = .ok (.iconst 1, 1) := by decide +kernel
theorem dX12_letter_10 : decode cX12_letter 10 = .ok (.isub, 1) := by decide +kernel
theorem dX12_letter_11 : decode cX12_letter 11 = .ok (.i2l, 1) := by decide +kernel
theorem dX12_letter_12 : decode cX12_letter 12 = .ok (.invokestatic 216, 3) := by decide +kernel
theorem dX12_letter_15 : decode cX12_letter 15 = .ok (.ifCond .eq 15, 3) := by decide +kernel
theorem dX12_letter_18 : decode cX12_letter 18 = .ok (.iload_n 2, 1) := by decide +kernel
theorem dX12_letter_19 : decode cX12_letter 19 = .ok (.i2l, 1) := by decide +kernel
theorem dX12_letter_20 : decode cX12_letter 20 = .ok (.lconst 0, 1) := by decide +kernel
theorem dX12_letter_21 : decode cX12_letter 21 = .ok (.ldc2_w 381, 3) := by decide +kernel
theorem dX12_letter_24 : decode cX12_letter 24 = .ok (.invokestatic 216, 3) := by decide +kernel
theorem dX12_letter_27 : decode cX12_letter 27 = .ok (.ifCond .ne 5, 3) := by decide +kernel
theorem dX12_letter_30 : decode cX12_letter 30 = .ok (.iconst (-1), 1) := by decide +kernel
theorem dX12_letter_31 : decode cX12_letter 31 = .ok (.ireturn, 1) := by decide +kernel
theorem dX12_letter_32 : decode cX12_letter 32 = .ok (.aload_n 0, 1) := by decide +kernel
theorem dX12_letter_33 : decode cX12_letter 33 = .ok (.getfield 123, 3) := by decide +kernel
theorem dX12_letter_36 : decode cX12_letter 36 = .ok (.iload_n 1, 1) := by decide +kernel
theorem dX12_letter_37 : decode cX12_letter 37 = .ok (.laload, 1) := by decide +kernel
theorem dX12_letter_38 : decode cX12_letter 38 = .ok (.lstore_n 3, 1) := by decide +kernel
theorem dX12_letter_39 : decode cX12_letter 39 = .ok (.iconst 0, 1) := by decide +kernel
theorem dX12_letter_40 : decode cX12_letter 40 = .ok (.istore 5, 2) := by decide +kernel
theorem dX12_letter_42 : decode cX12_letter 42 = .ok (.lload_n 3, 1) := by decide +kernel
theorem dX12_letter_43 : decode cX12_letter 43 = .ok (.lstore 6, 2) := by decide +kernel
theorem dX12_letter_45 : decode cX12_letter 45 = .ok (.lload 6, 2) := by decide +kernel
theorem dX12_letter_47 : decode cX12_letter 47 = .ok (.lconst 0, 1) := by decide +kernel
theorem dX12_letter_48 : decode cX12_letter 48 = .ok (.lcmp, 1) := by decide +kernel
theorem dX12_letter_49 : decode cX12_letter 49 = .ok (.ifCond .le 17, 3) := by decide +kernel
theorem dX12_letter_52 : decode cX12_letter 52 = .ok (.iinc 5 1, 3) := by decide +kernel
theorem dX12_letter_55 : decode cX12_letter 55 = .ok (.lload 6, 2) := by decide +kernel
theorem dX12_letter_57 : decode cX12_letter 57 = .ok (.ldc2_w 227, 3) := by decide +kernel
theorem dX12_letter_60 : decode cX12_letter 60 = .ok (.ldiv, 1) := by decide +kernel
theorem dX12_letter_61 : decode cX12_letter 61 = .ok (.lstore 6, 2) := by decide +kernel
theorem dX12_letter_63 : decode cX12_letter 63 = .ok (.goto (-18), 3) := by decide +kernel
theorem dX12_letter_66 : decode cX12_letter 66 = .ok (.iload_n 2, 1) := by decide +kernel
theorem dX12_letter_67 : decode cX12_letter 67 = .ok (.iload 5, 2) := by decide +kernel
theorem dX12_letter_69 : decode cX12_letter 69 = .ok (.if_icmp .lt 5, 3) := by decide +kernel
theorem dX12_letter_72 : decode cX12_letter 72 = .ok (.iconst 0, 1) := by decide +kernel
theorem dX12_letter_73 : decode cX12_letter 73 = .ok (.ireturn, 1) := by decide +kernel
theorem dX12_letter_74 : decode cX12_letter 74 = .ok (.iload 5, 2) := by decide +kernel
theorem dX12_letter_76 : decode cX12_letter 76 = .ok (.iconst 1, 1) := by decide +kernel
theorem dX12_letter_77 : decode cX12_letter 77 = .ok (.isub, 1) := by decide +kernel
theorem dX12_letter_78 : decode cX12_letter 78 = .ok (.istore 6, 2) := by decide +kernel
theorem dX12_letter_80 : decode cX12_letter 80 = .ok (.iload 6, 2) := by decide +kernel
theorem dX12_letter_82 : decode cX12_letter 82 = .ok (.iload_n 2, 1) := by decide +kernel
theorem dX12_letter_83 : decode cX12_letter 83 = .ok (.if_icmp .le 15, 3) := by decide +kernel
theorem dX12_letter_86 : decode cX12_letter 86 = .ok (.lload_n 3, 1) := by decide +kernel
theorem dX12_letter_87 : decode cX12_letter 87 = .ok (.ldc2_w 227, 3) := by decide +kernel
theorem dX12_letter_90 : decode cX12_letter 90 = .ok (.ldiv, 1) := by decide +kernel
theorem dX12_letter_91 : decode cX12_letter 91 = .ok (.lstore_n 3, 1) := by decide +kernel
theorem dX12_letter_92 : decode cX12_letter 92 = .ok (.iinc 6 (-1), 3) := by decide +kernel
theorem dX12_letter_95 : decode cX12_letter 95 = .ok (.goto (-15), 3) := by decide +kernel
theorem dX12_letter_98 : decode cX12_letter 98 = .ok (.lload_n 3, 1) := by decide +kernel
theorem dX12_letter_99 : decode cX12_letter 99 = .ok (.ldc2_w 227, 3) := by decide +kernel
theorem dX12_letter_102 : decode cX12_letter 102 = .ok (.lrem, 1) := by decide +kernel
theorem dX12_letter_103 : decode cX12_letter 103 = .ok (.l2i, 1) := by decide +kernel
theorem dX12_letter_104 : decode cX12_letter 104 = .ok (.ireturn, 1) := by decide +kernel
theorem dX12_note_0 : decode cX12_note 0 = .ok (.iload_n 1, 1) := by decide +kernel
theorem dX12_note_1 : decode cX12_note 1 = .ok (.i2l, 1) := by decide +kernel
theorem dX12_note_2 : decode cX12_note 2 = .ok (.lconst 0, 1) := by decide +kernel
theorem dX12_note_3 : decode cX12_note 3 = .ok (.aload_n 0, 1) := by decide +kernel
theorem dX12_note_4 : decode cX12_note 4 = .ok (.getfield 261, 3) := by decide +kernel
theorem dX12_note_7 : decode cX12_note 7 = .ok (.iconst 1, 1) := by decide +kernel
theorem dX12_note_8 : decode cX12_note 8 = .ok (.isub, 1) := by decide +kernel
theorem dX12_note_9 : decode cX12_note 9 = .ok (.i2l, 1) := by decide +kernel
theorem dX12_note_10 : decode cX12_note 10 = .ok (.invokestatic 216, 3) := by decide +kernel
theorem dX12_note_13 : decode cX12_note 13 = .ok (.ifCond .ne 5, 3) := by decide +kernel
theorem dX12_note_16 : decode cX12_note 16 = .ok (.iconst (-1), 1) := by decide +kernel
theorem dX12_note_17 : decode cX12_note 17 = .ok (.ireturn, 1) := by decide +kernel
theorem dX12_note_18 : decode cX12_note 18 = .ok (.iconst 0, 1) := by decide +kernel
theorem dX12_note_19 : decode cX12_note 19 = .ok (.istore_n 3, 1) := by decide +kernel
theorem dX12_note_20 : decode cX12_note 20 = .ok (.iconst 0, 1) := by decide +kernel
theorem dX12_note_21 : decode cX12_note 21 = .ok (.istore 4, 2) := by decide +kernel
theorem dX12_note_23 : decode cX12_note 23 = .ok (.iload 4, 2) := by decide +kernel
theorem dX12_note_25 : decode cX12_note 25 = .ok (.iload_n 1, 1) := by decide +kernel
theorem dX12_note_26 : decode cX12_note 26 = .ok (.if_icmp .ge 19, 3) := by decide +kernel
theorem dX12_note_29 : decode cX12_note 29 = .ok (.iload_n 3, 1) := by decide +kernel
theorem dX12_note_30 : decode cX12_note 30 = .ok (.aload_n 0, 1) := by decide +kernel
theorem dX12_note_31 : decode cX12_note 31 = .ok (.getfield 99, 3) := by decide +kernel
theorem dX12_note_34 : decode cX12_note 34 = .ok (.iload 4, 2) := by decide +kernel
theorem dX12_note_36 : decode cX12_note 36 = .ok (.iaload, 1) := by decide +kernel
theorem dX12_note_37 : decode cX12_note 37 = .ok (.iadd, 1) := by decide +kernel
theorem dX12_note_38 : decode cX12_note 38 = .ok (.istore_n 3, 1) := by decide +kernel
theorem dX12_note_39 : decode cX12_note 39 = .ok (.iinc 4 1, 3) := by decide +kernel
theorem dX12_note_42 : decode cX12_note 42 = .ok (.goto (-19), 3) := by decide +kernel
theorem dX12_note_45 : decode cX12_note 45 = .ok (.iload_n 2, 1) := by decide +kernel
theorem dX12_note_46 : decode cX12_note 46 = .ok (.ifCond .ne 12, 3) := by decide +kernel
theorem dX12_note_49 : decode cX12_note 49 = .ok (.aload_n 0, 1) := by decide +kernel
theorem dX12_note_50 : decode cX12_note 50 = .ok (.getfield 96, 3) := by decide +kernel
theorem dX12_note_53 : decode cX12_note 53 = .ok (.iload_n 1, 1) := by decide +kernel
theorem dX12_note_54 : decode cX12_note 54 = .ok (.iaload, 1) := by decide +kernel
theorem dX12_note_55 : decode cX12_note 55 = .ok (.goto 27, 3) := by decide +kernel
theorem dX12_note_58 : decode cX12_note 58 = .ok (.iload_n 2, 1) := by decide +kernel
theorem dX12_note_59 : decode cX12_note 59 = .ok (.iconst 1, 1) := by decide +kernel
theorem dX12_note_60 : decode cX12_note 60 = .ok (.if_icmp .ne 12, 3) := by decide +kernel
theorem dX12_note_63 : decode cX12_note 63 = .ok (.aload_n 0, 1) := by decide +kernel
theorem dX12_note_64 : decode cX12_note 64 = .ok (.getfield 99, 3) := by decide +kernel
theorem dX12_note_67 : decode cX12_note 67 = .ok (.iload_n 1, 1) := by decide +kernel
theorem dX12_note_68 : decode cX12_note 68 = .ok (.iaload, 1) := by decide +kernel
theorem dX12_note_69 : decode cX12_note 69 = .ok (.goto 13, 3) := by decide +kernel
theorem dX12_note_72 : decode cX12_note 72 = .ok (.iload_n 2, 1) := by decide +kernel
theorem dX12_note_73 : decode cX12_note 73 = .ok (.iconst 2, 1) := by decide +kernel
theorem dX12_note_74 : decode cX12_note 74 = .ok (.if_icmp .ne 7, 3) := by decide +kernel
theorem dX12_note_77 : decode cX12_note 77 = .ok (.iload_n 3, 1) := by decide +kernel
theorem dX12_note_78 : decode cX12_note 78 = .ok (.goto 4, 3) := by decide +kernel
theorem dX12_note_81 : decode cX12_note 81 = .ok (.iconst (-1), 1) := by decide +kernel
theorem dX12_note_82 : decode cX12_note 82 = .ok (.ireturn, 1) := by decide +kernel
theorem dX12_isCode_0 : decode cX12_isCode 0 = .ok (.iload_n 0, 1) := by decide +kernel
theorem dX12_isCode_1 : decode cX12_isCode 1 = .ok (.i2l, 1) := by decide +kernel
theorem dX12_isCode_2 : decode cX12_isCode 2 = .ok (.lconst 0, 1) := by decide +kernel
theorem dX12_isCode_3 : decode cX12_isCode 3 = .ok (.ldc2_w 383, 3) := by decide +kernel
theorem dX12_isCode_6 : decode cX12_isCode 6 = .ok (.invokestatic 216, 3) := by decide +kernel
theorem dX12_isCode_9 : decode cX12_isCode 9 = .ok (.ireturn, 1) := by decide +kernel
theorem dX12_delayOf_0 : decode cX12_delayOf 0 = .ok (.iload_n 0, 1) := by decide +kernel
theorem dX12_delayOf_1 : decode cX12_delayOf 1 = .ok (.sipush 180, 3) := by decide +kernel
theorem dX12_delayOf_4 : decode cX12_delayOf 4 = .ok (.idiv, 1) := by decide +kernel
theorem dX12_delayOf_5 : decode cX12_delayOf 5 = .ok (.ireturn, 1) := by decide +kernel
theorem dX12_highOf_0 : decode cX12_highOf 0 = .ok (.iload_n 0, 1) := by decide +kernel
theorem dX12_highOf_1 : decode cX12_highOf 1 = .ok (.bipush 12, 2) := by decide +kernel
theorem dX12_highOf_3 : decode cX12_highOf 3 = .ok (.idiv, 1) := by decide +kernel
theorem dX12_highOf_4 : decode cX12_highOf 4 = .ok (.bipush 15, 2) := by decide +kernel
theorem dX12_highOf_6 : decode cX12_highOf 6 = .ok (.irem, 1) := by decide +kernel
theorem dX12_highOf_7 : decode cX12_highOf 7 = .ok (.bipush 7, 2) := by decide +kernel
theorem dX12_highOf_9 : decode cX12_highOf 9 = .ok (.isub, 1) := by decide +kernel
theorem dX12_highOf_10 : decode cX12_highOf 10 = .ok (.ireturn, 1) := by decide +kernel
theorem dX12_mirrorOf_0 : decode cX12_mirrorOf 0 = .ok (.iload_n 0, 1) := by decide +kernel
theorem dX12_mirrorOf_1 : decode cX12_mirrorOf 1 = .ok (.bipush 6, 2) := by decide +kernel
theorem dX12_mirrorOf_3 : decode cX12_mirrorOf 3 = .ok (.idiv, 1) := by decide +kernel
theorem dX12_mirrorOf_4 : decode cX12_mirrorOf 4 = .ok (.iconst 2, 1) := by decide +kernel
theorem dX12_mirrorOf_5 : decode cX12_mirrorOf 5 = .ok (.irem, 1) := by decide +kernel
theorem dX12_mirrorOf_6 : decode cX12_mirrorOf 6 = .ok (.ireturn, 1) := by decide +kernel
theorem dX12_backOf_0 : decode cX12_backOf 0 = .ok (.iload_n 0, 1) := by decide +kernel
theorem dX12_backOf_1 : decode cX12_backOf 1 = .ok (.iconst 3, 1) := by decide +kernel
theorem dX12_backOf_2 : decode cX12_backOf 2 = .ok (.idiv, 1) := by decide +kernel
theorem dX12_backOf_3 : decode cX12_backOf 3 = .ok (.iconst 2, 1) := by decide +kernel
theorem dX12_backOf_4 : decode cX12_backOf 4 = .ok (.irem, 1) := by decide +kernel
theorem dX12_backOf_5 : decode cX12_backOf 5 = .ok (.ireturn, 1) := by decide +kernel
theorem dX12_paceOf_0 : decode cX12_paceOf 0 = .ok (.iload_n 0, 1) := by decide +kernel
theorem dX12_paceOf_1 : decode cX12_paceOf 1 = .ok (.iconst 3, 1) := by decide +kernel
theorem dX12_paceOf_2 : decode cX12_paceOf 2 = .ok (.irem, 1) := by decide +kernel
theorem dX12_paceOf_3 : decode cX12_paceOf 3 = .ok (.ireturn, 1) := by decide +kernel
theorem dX12_codeOf_0 : decode cX12_codeOf 0 = .ok (.iload_n 0, 1) := by decide +kernel
theorem dX12_codeOf_1 : decode cX12_codeOf 1 = .ok (.bipush 15, 2) := by decide +kernel
theorem dX12_codeOf_3 : decode cX12_codeOf 3 = .ok (.imul, 1) := by decide +kernel
theorem dX12_codeOf_4 : decode cX12_codeOf 4 = .ok (.iload_n 1, 1) := by decide +kernel
theorem dX12_codeOf_5 : decode cX12_codeOf 5 = .ok (.iadd, 1) := by decide +kernel
theorem dX12_codeOf_6 : decode cX12_codeOf 6 = .ok (.bipush 7, 2) := by decide +kernel
theorem dX12_codeOf_8 : decode cX12_codeOf 8 = .ok (.iadd, 1) := by decide +kernel
theorem dX12_codeOf_9 : decode cX12_codeOf 9 = .ok (.iconst 2, 1) := by decide +kernel
theorem dX12_codeOf_10 : decode cX12_codeOf 10 = .ok (.imul, 1) := by decide +kernel
theorem dX12_codeOf_11 : decode cX12_codeOf 11 = .ok (.iload_n 2, 1) := by decide +kernel
theorem dX12_codeOf_12 : decode cX12_codeOf 12 = .ok (.iadd, 1) := by decide +kernel
theorem dX12_codeOf_13 : decode cX12_codeOf 13 = .ok (.iconst 2, 1) := by decide +kernel
theorem dX12_codeOf_14 : decode cX12_codeOf 14 = .ok (.imul, 1) := by decide +kernel
theorem dX12_codeOf_15 : decode cX12_codeOf 15 = .ok (.iload_n 3, 1) := by decide +kernel
theorem dX12_codeOf_16 : decode cX12_codeOf 16 = .ok (.iadd, 1) := by decide +kernel
theorem dX12_codeOf_17 : decode cX12_codeOf 17 = .ok (.iconst 3, 1) := by decide +kernel
theorem dX12_codeOf_18 : decode cX12_codeOf 18 = .ok (.imul, 1) := by decide +kernel
theorem dX12_codeOf_19 : decode cX12_codeOf 19 = .ok (.iload 4, 2) := by decide +kernel
theorem dX12_codeOf_21 : decode cX12_codeOf 21 = .ok (.iadd, 1) := by decide +kernel
theorem dX12_codeOf_22 : decode cX12_codeOf 22 = .ok (.ireturn, 1) := by decide +kernel
theorem dX12_canBe_0 : decode cX12_canBe 0 = .ok (.iload_n 1, 1) := by decide +kernel
theorem dX12_canBe_1 : decode cX12_canBe 1 = .ok (.invokestatic 385, 3) := by decide +kernel
theorem dX12_canBe_4 : decode cX12_canBe 4 = .ok (.iconst 2, 1) := by decide +kernel
theorem dX12_canBe_5 : decode cX12_canBe 5 = .ok (.if_icmp .eq 5, 3) := by decide +kernel
theorem dX12_canBe_8 : decode cX12_canBe 8 = .ok (.iconst 1, 1) := by decide +kernel
theorem dX12_canBe_9 : decode cX12_canBe 9 = .ok (.ireturn, 1) := by decide +kernel
theorem dX12_canBe_10 : decode cX12_canBe 10 = .ok (.iconst 0, 1) := by decide +kernel
theorem dX12_canBe_11 : decode cX12_canBe 11 = .ok (.istore_n 2, 1) := by decide +kernel
theorem dX12_canBe_12 : decode cX12_canBe 12 = .ok (.iload_n 2, 1) := by decide +kernel
theorem dX12_canBe_13 : decode cX12_canBe 13 = .ok (.aload_n 0, 1) := by decide +kernel
theorem dX12_canBe_14 : decode cX12_canBe 14 = .ok (.getfield 261, 3) := by decide +kernel
theorem dX12_canBe_17 : decode cX12_canBe 17 = .ok (.if_icmp .ge 23, 3) := by decide +kernel
theorem dX12_canBe_20 : decode cX12_canBe 20 = .ok (.aload_n 0, 1) := by decide +kernel
theorem dX12_canBe_21 : decode cX12_canBe 21 = .ok (.getfield 99, 3) := by decide +kernel
theorem dX12_canBe_24 : decode cX12_canBe 24 = .ok (.iload_n 2, 1) := by decide +kernel
theorem dX12_canBe_25 : decode cX12_canBe 25 = .ok (.iaload, 1) := by decide +kernel
theorem dX12_canBe_26 : decode cX12_canBe 26 = .ok (.iconst 2, 1) := by decide +kernel
theorem dX12_canBe_27 : decode cX12_canBe 27 = .ok (.irem, 1) := by decide +kernel
theorem dX12_canBe_28 : decode cX12_canBe 28 = .ok (.iconst 1, 1) := by decide +kernel
theorem dX12_canBe_29 : decode cX12_canBe 29 = .ok (.if_icmp .ne 5, 3) := by decide +kernel
theorem dX12_canBe_32 : decode cX12_canBe 32 = .ok (.iconst 0, 1) := by decide +kernel
theorem dX12_canBe_33 : decode cX12_canBe 33 = .ok (.ireturn, 1) := by decide +kernel
theorem dX12_canBe_34 : decode cX12_canBe 34 = .ok (.iinc 2 1, 3) := by decide +kernel
theorem dX12_canBe_37 : decode cX12_canBe 37 = .ok (.goto (-25), 3) := by decide +kernel
theorem dX12_canBe_40 : decode cX12_canBe 40 = .ok (.iconst 1, 1) := by decide +kernel
theorem dX12_canBe_41 : decode cX12_canBe 41 = .ok (.ireturn, 1) := by decide +kernel
theorem dX12_overAt_0 : decode cX12_overAt 0 = .ok (.aload_n 0, 1) := by decide +kernel
theorem dX12_overAt_1 : decode cX12_overAt 1 = .ok (.getfield 267, 3) := by decide +kernel
theorem dX12_overAt_4 : decode cX12_overAt 4 = .ok (.istore_n 2, 1) := by decide +kernel
theorem dX12_overAt_5 : decode cX12_overAt 5 = .ok (.iload_n 1, 1) := by decide +kernel
theorem dX12_overAt_6 : decode cX12_overAt 6 = .ok (.invokestatic 385, 3) := by decide +kernel
theorem dX12_overAt_9 : decode cX12_overAt 9 = .ok (.iconst 1, 1) := by decide +kernel
theorem dX12_overAt_10 : decode cX12_overAt 10 = .ok (.if_icmp .ne 10, 3) := by decide +kernel
theorem dX12_overAt_13 : decode cX12_overAt 13 = .ok (.iconst 2, 1) := by decide +kernel
theorem dX12_overAt_14 : decode cX12_overAt 14 = .ok (.aload_n 0, 1) := by decide +kernel
theorem dX12_overAt_15 : decode cX12_overAt 15 = .ok (.getfield 267, 3) := by decide +kernel
theorem dX12_overAt_18 : decode cX12_overAt 18 = .ok (.imul, 1) := by decide +kernel
theorem dX12_overAt_19 : decode cX12_overAt 19 = .ok (.istore_n 2, 1) := by decide +kernel
theorem dX12_overAt_20 : decode cX12_overAt 20 = .ok (.iload_n 1, 1) := by decide +kernel
theorem dX12_overAt_21 : decode cX12_overAt 21 = .ok (.invokestatic 385, 3) := by decide +kernel
theorem dX12_overAt_24 : decode cX12_overAt 24 = .ok (.iconst 2, 1) := by decide +kernel
theorem dX12_overAt_25 : decode cX12_overAt 25 = .ok (.if_icmp .ne 12, 3) := by decide +kernel
theorem dX12_overAt_28 : decode cX12_overAt 28 = .ok (.aload_n 0, 1) := by decide +kernel
theorem dX12_overAt_29 : decode cX12_overAt 29 = .ok (.getfield 267, 3) := by decide +kernel
theorem dX12_overAt_32 : decode cX12_overAt 32 = .ok (.iconst 1, 1) := by decide +kernel
theorem dX12_overAt_33 : decode cX12_overAt 33 = .ok (.iadd, 1) := by decide +kernel
theorem dX12_overAt_34 : decode cX12_overAt 34 = .ok (.iconst 2, 1) := by decide +kernel
theorem dX12_overAt_35 : decode cX12_overAt 35 = .ok (.idiv, 1) := by decide +kernel
theorem dX12_overAt_36 : decode cX12_overAt 36 = .ok (.istore_n 2, 1) := by decide +kernel
theorem dX12_overAt_37 : decode cX12_overAt 37 = .ok (.iload_n 1, 1) := by decide +kernel
theorem dX12_overAt_38 : decode cX12_overAt 38 = .ok (.invokestatic 389, 3) := by decide +kernel
theorem dX12_overAt_41 : decode cX12_overAt 41 = .ok (.iload_n 2, 1) := by decide +kernel
theorem dX12_overAt_42 : decode cX12_overAt 42 = .ok (.iadd, 1) := by decide +kernel
theorem dX12_overAt_43 : decode cX12_overAt 43 = .ok (.ireturn, 1) := by decide +kernel
theorem dX12_noteAt_0 : decode cX12_noteAt 0 = .ok (.iload_n 2, 1) := by decide +kernel
theorem dX12_noteAt_1 : decode cX12_noteAt 1 = .ok (.iload_n 1, 1) := by decide +kernel
theorem dX12_noteAt_2 : decode cX12_noteAt 2 = .ok (.invokestatic 389, 3) := by decide +kernel
theorem dX12_noteAt_5 : decode cX12_noteAt 5 = .ok (.isub, 1) := by decide +kernel
theorem dX12_noteAt_6 : decode cX12_noteAt 6 = .ok (.istore_n 3, 1) := by decide +kernel
theorem dX12_noteAt_7 : decode cX12_noteAt 7 = .ok (.iload_n 3, 1) := by decide +kernel
theorem dX12_noteAt_8 : decode cX12_noteAt 8 = .ok (.ifCond .lt 12, 3) := by decide +kernel
theorem dX12_noteAt_11 : decode cX12_noteAt 11 = .ok (.iload_n 2, 1) := by decide +kernel
theorem dX12_noteAt_12 : decode cX12_noteAt 12 = .ok (.aload_n 0, 1) := by decide +kernel
theorem dX12_noteAt_13 : decode cX12_noteAt 13 = .ok (.iload_n 1, 1) := by decide +kernel
theorem dX12_noteAt_14 : decode cX12_noteAt 14 = .ok (.invokevirtual 392, 3) := by decide +kernel
theorem dX12_noteAt_17 : decode cX12_noteAt 17 = .ok (.if_icmp .lt 5, 3) := by decide +kernel
theorem dX12_noteAt_20 : decode cX12_noteAt 20 = .ok (.iconst (-1), 1) := by decide +kernel
theorem dX12_noteAt_21 : decode cX12_noteAt 21 = .ok (.ireturn, 1) := by decide +kernel
theorem dX12_noteAt_22 : decode cX12_noteAt 22 = .ok (.iload_n 3, 1) := by decide +kernel
theorem dX12_noteAt_23 : decode cX12_noteAt 23 = .ok (.istore 4, 2) := by decide +kernel
theorem dX12_noteAt_25 : decode cX12_noteAt 25 = .ok (.iload_n 1, 1) := by decide +kernel
theorem dX12_noteAt_26 : decode cX12_noteAt 26 = .ok (.invokestatic 385, 3) := by decide +kernel
theorem dX12_noteAt_29 : decode cX12_noteAt 29 = .ok (.iconst 1, 1) := by decide +kernel
theorem dX12_noteAt_30 : decode cX12_noteAt 30 = .ok (.if_icmp .ne 8, 3) := by decide +kernel
theorem dX12_noteAt_33 : decode cX12_noteAt 33 = .ok (.iload_n 3, 1) := by decide +kernel
theorem dX12_noteAt_34 : decode cX12_noteAt 34 = .ok (.iconst 2, 1) := by decide +kernel
theorem dX12_noteAt_35 : decode cX12_noteAt 35 = .ok (.idiv, 1) := by decide +kernel
theorem dX12_noteAt_36 : decode cX12_noteAt 36 = .ok (.istore 4, 2) := by decide +kernel
theorem dX12_noteAt_38 : decode cX12_noteAt 38 = .ok (.iload_n 1, 1) := by decide +kernel
theorem dX12_noteAt_39 : decode cX12_noteAt 39 = .ok (.invokestatic 385, 3) := by decide +kernel
theorem dX12_noteAt_42 : decode cX12_noteAt 42 = .ok (.iconst 2, 1) := by decide +kernel
theorem dX12_noteAt_43 : decode cX12_noteAt 43 = .ok (.if_icmp .ne 8, 3) := by decide +kernel
theorem dX12_noteAt_46 : decode cX12_noteAt 46 = .ok (.iconst 2, 1) := by decide +kernel
theorem dX12_noteAt_47 : decode cX12_noteAt 47 = .ok (.iload_n 3, 1) := by decide +kernel
theorem dX12_noteAt_48 : decode cX12_noteAt 48 = .ok (.imul, 1) := by decide +kernel
theorem dX12_noteAt_49 : decode cX12_noteAt 49 = .ok (.istore 4, 2) := by decide +kernel
theorem dX12_noteAt_51 : decode cX12_noteAt 51 = .ok (.aload_n 0, 1) := by decide +kernel
theorem dX12_noteAt_52 : decode cX12_noteAt 52 = .ok (.getfield 102, 3) := by decide +kernel
theorem dX12_noteAt_55 : decode cX12_noteAt 55 = .ok (.iload_n 1, 1) := by decide +kernel
theorem dX12_noteAt_56 : decode cX12_noteAt 56 = .ok (.invokestatic 395, 3) := by decide +kernel
theorem dX12_noteAt_59 : decode cX12_noteAt 59 = .ok (.iconst 1, 1) := by decide +kernel
theorem dX12_noteAt_60 : decode cX12_noteAt 60 = .ok (.if_icmp .ne 15, 3) := by decide +kernel
theorem dX12_noteAt_63 : decode cX12_noteAt 63 = .ok (.aload_n 0, 1) := by decide +kernel
theorem dX12_noteAt_64 : decode cX12_noteAt 64 = .ok (.getfield 267, 3) := by decide +kernel
theorem dX12_noteAt_67 : decode cX12_noteAt 67 = .ok (.iconst 1, 1) := by decide +kernel
theorem dX12_noteAt_68 : decode cX12_noteAt 68 = .ok (.isub, 1) := by decide +kernel
theorem dX12_noteAt_69 : decode cX12_noteAt 69 = .ok (.iload 4, 2) := by decide +kernel
theorem dX12_noteAt_71 : decode cX12_noteAt 71 = .ok (.isub, 1) := by decide +kernel
theorem dX12_noteAt_72 : decode cX12_noteAt 72 = .ok (.goto 5, 3) := by decide +kernel
theorem dX12_noteAt_75 : decode cX12_noteAt 75 = .ok (.iload 4, 2) := by decide +kernel
theorem dX12_noteAt_77 : decode cX12_noteAt 77 = .ok (.iaload, 1) := by decide +kernel
theorem dX12_noteAt_78 : decode cX12_noteAt 78 = .ok (.ireturn, 1) := by decide +kernel
theorem dX12_stepBy_0 : decode cX12_stepBy 0 = .ok (.iload_n 2, 1) := by decide +kernel
theorem dX12_stepBy_1 : decode cX12_stepBy 1 = .ok (.iconst (-1), 1) := by decide +kernel
theorem dX12_stepBy_2 : decode cX12_stepBy 2 = .ok (.if_icmp .eq 13, 3) := by decide +kernel
theorem dX12_stepBy_5 : decode cX12_stepBy 5 = .ok (.aload_n 0, 1) := by decide +kernel
theorem dX12_stepBy_6 : decode cX12_stepBy 6 = .ok (.getfield 96, 3) := by decide +kernel
theorem dX12_stepBy_9 : decode cX12_stepBy 9 = .ok (.iload_n 2, 1) := by decide +kernel
theorem dX12_stepBy_10 : decode cX12_stepBy 10 = .ok (.iaload, 1) := by decide +kernel
theorem dX12_stepBy_11 : decode cX12_stepBy 11 = .ok (.iconst (-1), 1) := by decide +kernel
theorem dX12_stepBy_12 : decode cX12_stepBy 12 = .ok (.if_icmp .ne 7, 3) := by decide +kernel
theorem dX12_stepBy_15 : decode cX12_stepBy 15 = .ok (.ldc_w 398, 3) := by decide +kernel
theorem dX12_stepBy_18 : decode cX12_stepBy 18 = .ok (.ireturn, 1) := by decide +kernel
theorem dX12_stepBy_19 : decode cX12_stepBy 19 = .ok (.iload_n 1, 1) := by decide +kernel
theorem dX12_stepBy_20 : decode cX12_stepBy 20 = .ok (.invokestatic 399, 3) := by decide +kernel
theorem dX12_stepBy_23 : decode cX12_stepBy 23 = .ok (.iconst 1, 1) := by decide +kernel
theorem dX12_stepBy_24 : decode cX12_stepBy 24 = .ok (.if_icmp .ne 19, 3) := by decide +kernel
theorem dX12_stepBy_27 : decode cX12_stepBy 27 = .ok (.iconst 2, 1) := by decide +kernel
theorem dX12_stepBy_28 : decode cX12_stepBy 28 = .ok (.aload_n 0, 1) := by decide +kernel
theorem dX12_stepBy_29 : decode cX12_stepBy 29 = .ok (.getfield 105, 3) := by decide +kernel
theorem dX12_stepBy_32 : decode cX12_stepBy 32 = .ok (.imul, 1) := by decide +kernel
theorem dX12_stepBy_33 : decode cX12_stepBy 33 = .ok (.aload_n 0, 1) := by decide +kernel
theorem dX12_stepBy_34 : decode cX12_stepBy 34 = .ok (.getfield 96, 3) := by decide +kernel
theorem dX12_stepBy_37 : decode cX12_stepBy 37 = .ok (.iload_n 2, 1) := by decide +kernel
theorem dX12_stepBy_38 : decode cX12_stepBy 38 = .ok (.iaload, 1) := by decide +kernel
theorem dX12_stepBy_39 : decode cX12_stepBy 39 = .ok (.isub, 1) := by decide +kernel
theorem dX12_stepBy_40 : decode cX12_stepBy 40 = .ok (.goto 9, 3) := by decide +kernel
theorem dX12_stepBy_43 : decode cX12_stepBy 43 = .ok (.aload_n 0, 1) := by decide +kernel
theorem dX12_stepBy_44 : decode cX12_stepBy 44 = .ok (.getfield 96, 3) := by decide +kernel
theorem dX12_stepBy_47 : decode cX12_stepBy 47 = .ok (.iload_n 2, 1) := by decide +kernel
theorem dX12_stepBy_48 : decode cX12_stepBy 48 = .ok (.iaload, 1) := by decide +kernel
theorem dX12_stepBy_49 : decode cX12_stepBy 49 = .ok (.istore_n 3, 1) := by decide +kernel
theorem dX12_stepBy_50 : decode cX12_stepBy 50 = .ok (.iload_n 3, 1) := by decide +kernel
theorem dX12_stepBy_51 : decode cX12_stepBy 51 = .ok (.iload_n 1, 1) := by decide +kernel
theorem dX12_stepBy_52 : decode cX12_stepBy 52 = .ok (.invokestatic 402, 3) := by decide +kernel
theorem dX12_stepBy_55 : decode cX12_stepBy 55 = .ok (.iadd, 1) := by decide +kernel
theorem dX12_stepBy_56 : decode cX12_stepBy 56 = .ok (.ireturn, 1) := by decide +kernel
theorem dX12_singsIn_0 : decode cX12_singsIn 0 = .ok (.aload_n 0, 1) := by decide +kernel
theorem dX12_singsIn_1 : decode cX12_singsIn 1 = .ok (.iload_n 1, 1) := by decide +kernel
theorem dX12_singsIn_2 : decode cX12_singsIn 2 = .ok (.aload_n 0, 1) := by decide +kernel
theorem dX12_singsIn_3 : decode cX12_singsIn 3 = .ok (.iload_n 1, 1) := by decide +kernel
theorem dX12_singsIn_4 : decode cX12_singsIn 4 = .ok (.iload_n 2, 1) := by decide +kernel
theorem dX12_singsIn_5 : decode cX12_singsIn 5 = .ok (.invokevirtual 405, 3) := by decide +kernel
theorem dX12_singsIn_8 : decode cX12_singsIn 8 = .ok (.invokevirtual 408, 3) := by decide +kernel
theorem dX12_singsIn_11 : decode cX12_singsIn 11 = .ok (.ireturn, 1) := by decide +kernel
theorem dX12_code_0 : decode cX12_code 0 = .ok (.iload_n 1, 1) := by decide +kernel
theorem dX12_code_1 : decode cX12_code 1 = .ok (.i2l, 1) := by decide +kernel
theorem dX12_code_2 : decode cX12_code 2 = .ok (.lconst 0, 1) := by decide +kernel
theorem dX12_code_3 : decode cX12_code 3 = .ok (.ldc2_w 411, 3) := by decide +kernel
theorem dX12_code_6 : decode cX12_code 6 = .ok (.invokestatic 216, 3) := by decide +kernel
theorem dX12_code_9 : decode cX12_code 9 = .ok (.ifCond .eq 55, 3) := by decide +kernel
theorem dX12_code_12 : decode cX12_code 12 = .ok (.iload_n 2, 1) := by decide +kernel
theorem dX12_code_13 : decode cX12_code 13 = .ok (.i2l, 1) := by decide +kernel
theorem dX12_code_14 : decode cX12_code 14 = .ok (.ldc2_w 413, 3) := by decide +kernel
theorem dX12_code_17 : decode cX12_code 17 = .ok (.ldc2_w 415, 3) := by decide +kernel
theorem dX12_code_20 : decode cX12_code 20 = .ok (.invokestatic 216, 3) := by decide +kernel
theorem dX12_code_23 : decode cX12_code 23 = .ok (.ifCond .eq 41, 3) := by decide +kernel
theorem dX12_code_26 : decode cX12_code 26 = .ok (.iload_n 3, 1) := by decide +kernel
theorem dX12_code_27 : decode cX12_code 27 = .ok (.i2l, 1) := by decide +kernel
theorem dX12_code_28 : decode cX12_code 28 = .ok (.lconst 0, 1) := by decide +kernel
theorem dX12_code_29 : decode cX12_code 29 = .ok (.lconst 1, 1) := by decide +kernel
theorem dX12_code_30 : decode cX12_code 30 = .ok (.invokestatic 216, 3) := by decide +kernel
theorem dX12_code_33 : decode cX12_code 33 = .ok (.ifCond .eq 31, 3) := by decide +kernel
theorem dX12_code_36 : decode cX12_code 36 = .ok (.iload 4, 2) := by decide +kernel
theorem dX12_code_38 : decode cX12_code 38 = .ok (.i2l, 1) := by decide +kernel
theorem dX12_code_39 : decode cX12_code 39 = .ok (.lconst 0, 1) := by decide +kernel
theorem dX12_code_40 : decode cX12_code 40 = .ok (.lconst 1, 1) := by decide +kernel
theorem dX12_code_41 : decode cX12_code 41 = .ok (.invokestatic 216, 3) := by decide +kernel
theorem dX12_code_44 : decode cX12_code 44 = .ok (.ifCond .eq 20, 3) := by decide +kernel
theorem dX12_code_47 : decode cX12_code 47 = .ok (.iload 5, 2) := by decide +kernel
theorem dX12_code_49 : decode cX12_code 49 = .ok (.i2l, 1) := by decide +kernel
theorem dX12_code_50 : decode cX12_code 50 = .ok (.lconst 0, 1) := by decide +kernel
theorem dX12_code_51 : decode cX12_code 51 = .ok (.ldc2_w 417, 3) := by decide +kernel
theorem dX12_code_54 : decode cX12_code 54 = .ok (.invokestatic 216, 3) := by decide +kernel
theorem dX12_code_57 : decode cX12_code 57 = .ok (.ifCond .eq 7, 3) := by decide +kernel
theorem dX12_code_60 : decode cX12_code 60 = .ok (.iconst 1, 1) := by decide +kernel
theorem dX12_code_61 : decode cX12_code 61 = .ok (.goto 4, 3) := by decide +kernel
theorem dX12_code_64 : decode cX12_code 64 = .ok (.iconst 0, 1) := by decide +kernel
theorem dX12_code_65 : decode cX12_code 65 = .ok (.istore 6, 2) := by decide +kernel
theorem dX12_code_67 : decode cX12_code 67 = .ok (.iload 6, 2) := by decide +kernel
theorem dX12_code_69 : decode cX12_code 69 = .ok (.ifCond .eq 16, 3) := by decide +kernel
theorem dX12_code_72 : decode cX12_code 72 = .ok (.iload_n 1, 1) := by decide +kernel
theorem dX12_code_73 : decode cX12_code 73 = .ok (.iload_n 2, 1) := by decide +kernel
theorem dX12_code_74 : decode cX12_code 74 = .ok (.iload_n 3, 1) := by decide +kernel
theorem dX12_code_75 : decode cX12_code 75 = .ok (.iload 4, 2) := by decide +kernel
theorem dX12_code_77 : decode cX12_code 77 = .ok (.iload 5, 2) := by decide +kernel
theorem dX12_code_79 : decode cX12_code 79 = .ok (.invokestatic 419, 3) := by decide +kernel
theorem dX12_code_82 : decode cX12_code 82 = .ok (.goto 4, 3) := by decide +kernel
theorem dX12_code_85 : decode cX12_code 85 = .ok (.iconst (-1), 1) := by decide +kernel
theorem dX12_code_86 : decode cX12_code 86 = .ok (.ireturn, 1) := by decide +kernel
theorem dX12_follower_0 : decode cX12_follower 0 = .ok (.iload_n 1, 1) := by decide +kernel
theorem dX12_follower_1 : decode cX12_follower 1 = .ok (.invokestatic 423, 3) := by decide +kernel
theorem dX12_follower_4 : decode cX12_follower 4 = .ok (.ifCond .ne 7, 3) := by decide +kernel
theorem dX12_follower_7 : decode cX12_follower 7 = .ok (.ldc_w 398, 3) := by decide +kernel
theorem dX12_follower_10 : decode cX12_follower 10 = .ok (.ireturn, 1) := by decide +kernel
theorem dX12_follower_11 : decode cX12_follower 11 = .ok (.iload_n 2, 1) := by decide +kernel
theorem dX12_follower_12 : decode cX12_follower 12 = .ok (.tableswitch 101 0 6 #[44, 49, 54, 59, 64, 69, 83], 44) := by decide +kernel
theorem dX12_follower_56 : decode cX12_follower 56 = .ok (.iload_n 1, 1) := by decide +kernel
theorem dX12_follower_57 : decode cX12_follower 57 = .ok (.invokestatic 389, 3) := by decide +kernel
theorem dX12_follower_60 : decode cX12_follower 60 = .ok (.ireturn, 1) := by decide +kernel
theorem dX12_follower_61 : decode cX12_follower 61 = .ok (.iload_n 1, 1) := by decide +kernel
theorem dX12_follower_62 : decode cX12_follower 62 = .ok (.invokestatic 402, 3) := by decide +kernel
theorem dX12_follower_65 : decode cX12_follower 65 = .ok (.ireturn, 1) := by decide +kernel
theorem dX12_follower_66 : decode cX12_follower 66 = .ok (.iload_n 1, 1) := by decide +kernel
theorem dX12_follower_67 : decode cX12_follower 67 = .ok (.invokestatic 399, 3) := by decide +kernel
theorem dX12_follower_70 : decode cX12_follower 70 = .ok (.ireturn, 1) := by decide +kernel
theorem dX12_follower_71 : decode cX12_follower 71 = .ok (.iload_n 1, 1) := by decide +kernel
theorem dX12_follower_72 : decode cX12_follower 72 = .ok (.invokestatic 395, 3) := by decide +kernel
theorem dX12_follower_75 : decode cX12_follower 75 = .ok (.ireturn, 1) := by decide +kernel
theorem dX12_follower_76 : decode cX12_follower 76 = .ok (.iload_n 1, 1) := by decide +kernel
theorem dX12_follower_77 : decode cX12_follower 77 = .ok (.invokestatic 385, 3) := by decide +kernel
theorem dX12_follower_80 : decode cX12_follower 80 = .ok (.ireturn, 1) := by decide +kernel
theorem dX12_follower_81 : decode cX12_follower 81 = .ok (.aload_n 0, 1) := by decide +kernel
theorem dX12_follower_82 : decode cX12_follower 82 = .ok (.iload_n 1, 1) := by decide +kernel
theorem dX12_follower_83 : decode cX12_follower 83 = .ok (.invokevirtual 426, 3) := by decide +kernel
theorem dX12_follower_86 : decode cX12_follower 86 = .ok (.ifCond .eq 7, 3) := by decide +kernel
theorem dX12_follower_89 : decode cX12_follower 89 = .ok (.iconst 1, 1) := by decide +kernel
theorem dX12_follower_90 : decode cX12_follower 90 = .ok (.goto 4, 3) := by decide +kernel
theorem dX12_follower_93 : decode cX12_follower 93 = .ok (.iconst 0, 1) := by decide +kernel
theorem dX12_follower_94 : decode cX12_follower 94 = .ok (.ireturn, 1) := by decide +kernel
theorem dX12_follower_95 : decode cX12_follower 95 = .ok (.aload_n 0, 1) := by decide +kernel
theorem dX12_follower_96 : decode cX12_follower 96 = .ok (.iload_n 1, 1) := by decide +kernel
theorem dX12_follower_97 : decode cX12_follower 97 = .ok (.invokevirtual 426, 3) := by decide +kernel
theorem dX12_follower_100 : decode cX12_follower 100 = .ok (.ifCond .eq 11, 3) := by decide +kernel
theorem dX12_follower_103 : decode cX12_follower 103 = .ok (.aload_n 0, 1) := by decide +kernel
theorem dX12_follower_104 : decode cX12_follower 104 = .ok (.iload_n 1, 1) := by decide +kernel
theorem dX12_follower_105 : decode cX12_follower 105 = .ok (.invokevirtual 392, 3) := by decide +kernel
theorem dX12_follower_108 : decode cX12_follower 108 = .ok (.goto 4, 3) := by decide +kernel
theorem dX12_follower_111 : decode cX12_follower 111 = .ok (.iconst (-1), 1) := by decide +kernel
theorem dX12_follower_112 : decode cX12_follower 112 = .ok (.ireturn, 1) := by decide +kernel
theorem dX12_follower_113 : decode cX12_follower 113 = .ok (.ldc_w 398, 3) := by decide +kernel
theorem dX12_follower_116 : decode cX12_follower 116 = .ok (.ireturn, 1) := by decide +kernel
theorem dX12_sings_0 : decode cX12_sings 0 = .ok (.iload_n 1, 1) := by decide +kernel
theorem dX12_sings_1 : decode cX12_sings 1 = .ok (.invokestatic 423, 3) := by decide +kernel
theorem dX12_sings_4 : decode cX12_sings 4 = .ok (.ifCond .eq 32, 3) := by decide +kernel
theorem dX12_sings_7 : decode cX12_sings 7 = .ok (.aload_n 0, 1) := by decide +kernel
theorem dX12_sings_8 : decode cX12_sings 8 = .ok (.iload_n 1, 1) := by decide +kernel
theorem dX12_sings_9 : decode cX12_sings 9 = .ok (.invokevirtual 426, 3) := by decide +kernel
theorem dX12_sings_12 : decode cX12_sings 12 = .ok (.ifCond .eq 24, 3) := by decide +kernel
theorem dX12_sings_15 : decode cX12_sings 15 = .ok (.iload_n 2, 1) := by decide +kernel
theorem dX12_sings_16 : decode cX12_sings 16 = .ok (.i2l, 1) := by decide +kernel
theorem dX12_sings_17 : decode cX12_sings 17 = .ok (.lconst 0, 1) := by decide +kernel
theorem dX12_sings_18 : decode cX12_sings 18 = .ok (.ldc2_w 429, 3) := by decide +kernel
theorem dX12_sings_21 : decode cX12_sings 21 = .ok (.invokestatic 216, 3) := by decide +kernel
theorem dX12_sings_24 : decode cX12_sings 24 = .ok (.ifCond .eq 12, 3) := by decide +kernel
theorem dX12_sings_27 : decode cX12_sings 27 = .ok (.aload_n 0, 1) := by decide +kernel
theorem dX12_sings_28 : decode cX12_sings 28 = .ok (.iload_n 1, 1) := by decide +kernel
theorem dX12_sings_29 : decode cX12_sings 29 = .ok (.iload_n 2, 1) := by decide +kernel
theorem dX12_sings_30 : decode cX12_sings 30 = .ok (.invokevirtual 431, 3) := by decide +kernel
theorem dX12_sings_33 : decode cX12_sings 33 = .ok (.goto 6, 3) := by decide +kernel
theorem dX12_sings_36 : decode cX12_sings 36 = .ok (.ldc_w 398, 3) := by decide +kernel
theorem dX12_sings_39 : decode cX12_sings 39 = .ok (.ireturn, 1) := by decide +kernel
theorem dX12_apart_0 : decode cX12_apart 0 = .ok (.iload_n 0, 1) := by decide +kernel
theorem dX12_apart_1 : decode cX12_apart 1 = .ok (.iload_n 1, 1) := by decide +kernel
theorem dX12_apart_2 : decode cX12_apart 2 = .ok (.if_icmp .le 9, 3) := by decide +kernel
theorem dX12_apart_5 : decode cX12_apart 5 = .ok (.iload_n 0, 1) := by decide +kernel
theorem dX12_apart_6 : decode cX12_apart 6 = .ok (.iload_n 1, 1) := by decide +kernel
theorem dX12_apart_7 : decode cX12_apart 7 = .ok (.isub, 1) := by decide +kernel
theorem dX12_apart_8 : decode cX12_apart 8 = .ok (.goto 6, 3) := by decide +kernel
theorem dX12_apart_11 : decode cX12_apart 11 = .ok (.iload_n 1, 1) := by decide +kernel
theorem dX12_apart_12 : decode cX12_apart 12 = .ok (.iload_n 0, 1) := by decide +kernel
theorem dX12_apart_13 : decode cX12_apart 13 = .ok (.isub, 1) := by decide +kernel
theorem dX12_apart_14 : decode cX12_apart 14 = .ok (.ireturn, 1) := by decide +kernel
theorem dX12_asksAll_0 : decode cX12_asksAll 0 = .ok (.aload_n 0, 1) := by decide +kernel
theorem dX12_asksAll_1 : decode cX12_asksAll 1 = .ok (.getfield 133, 3) := by decide +kernel
theorem dX12_asksAll_4 : decode cX12_asksAll 4 = .ok (.iconst 0, 1) := by decide +kernel
theorem dX12_asksAll_5 : decode cX12_asksAll 5 = .ok (.aload_n 0, 1) := by decide +kernel
theorem dX12_asksAll_6 : decode cX12_asksAll 6 = .ok (.getfield 434, 3) := by decide +kernel
theorem dX12_asksAll_9 : decode cX12_asksAll 9 = .ok (.aload_n 0, 1) := by decide +kernel
theorem dX12_asksAll_10 : decode cX12_asksAll 10 = .ok (.getfield 437, 3) := by decide +kernel
theorem dX12_asksAll_13 : decode cX12_asksAll 13 = .ok (.invokestatic 440, 3) := by decide +kernel
theorem dX12_asksAll_16 : decode cX12_asksAll 16 = .ok (.iastore, 1) := by decide +kernel
theorem dX12_asksAll_17 : decode cX12_asksAll 17 = .ok (.aload_n 0, 1) := by decide +kernel
theorem dX12_asksAll_18 : decode cX12_asksAll 18 = .ok (.getfield 133, 3) := by decide +kernel
theorem dX12_asksAll_21 : decode cX12_asksAll 21 = .ok (.iconst 1, 1) := by decide +kernel
theorem dX12_asksAll_22 : decode cX12_asksAll 22 = .ok (.aload_n 0, 1) := by decide +kernel
theorem dX12_asksAll_23 : decode cX12_asksAll 23 = .ok (.getfield 133, 3) := by decide +kernel
theorem dX12_asksAll_26 : decode cX12_asksAll 26 = .ok (.iconst 0, 1) := by decide +kernel
theorem dX12_asksAll_27 : decode cX12_asksAll 27 = .ok (.iaload, 1) := by decide +kernel
theorem dX12_asksAll_28 : decode cX12_asksAll 28 = .ok (.bipush 7, 2) := by decide +kernel
theorem dX12_asksAll_30 : decode cX12_asksAll 30 = .ok (.irem, 1) := by decide +kernel
theorem dX12_asksAll_31 : decode cX12_asksAll 31 = .ok (.iastore, 1) := by decide +kernel
theorem dX12_asksAll_32 : decode cX12_asksAll 32 = .ok (.aload_n 0, 1) := by decide +kernel
theorem dX12_asksAll_33 : decode cX12_asksAll 33 = .ok (.getfield 133, 3) := by decide +kernel
theorem dX12_asksAll_36 : decode cX12_asksAll 36 = .ok (.iconst 2, 1) := by decide +kernel
theorem dX12_asksAll_37 : decode cX12_asksAll 37 = .ok (.aload_n 0, 1) := by decide +kernel
theorem dX12_asksAll_38 : decode cX12_asksAll 38 = .ok (.getfield 437, 3) := by decide +kernel
theorem dX12_asksAll_41 : decode cX12_asksAll 41 = .ok (.aload_n 0, 1) := by decide +kernel
theorem dX12_asksAll_42 : decode cX12_asksAll 42 = .ok (.getfield 434, 3) := by decide +kernel
theorem dX12_asksAll_45 : decode cX12_asksAll 45 = .ok (.if_icmp .ge 7, 3) := by decide +kernel
theorem dX12_asksAll_48 : decode cX12_asksAll 48 = .ok (.iconst 1, 1) := by decide +kernel
theorem dX12_asksAll_49 : decode cX12_asksAll 49 = .ok (.goto 4, 3) := by decide +kernel
theorem dX12_asksAll_52 : decode cX12_asksAll 52 = .ok (.iconst 0, 1) := by decide +kernel
theorem dX12_asksAll_53 : decode cX12_asksAll 53 = .ok (.iastore, 1) := by decide +kernel
theorem dX12_asksAll_54 : decode cX12_asksAll 54 = .ok (.aload_n 0, 1) := by decide +kernel
theorem dX12_asksAll_55 : decode cX12_asksAll 55 = .ok (.getfield 133, 3) := by decide +kernel
theorem dX12_asksAll_58 : decode cX12_asksAll 58 = .ok (.iconst 3, 1) := by decide +kernel
theorem dX12_asksAll_59 : decode cX12_asksAll 59 = .ok (.iload_n 1, 1) := by decide +kernel
theorem dX12_asksAll_60 : decode cX12_asksAll 60 = .ok (.aload_n 0, 1) := by decide +kernel
theorem dX12_asksAll_61 : decode cX12_asksAll 61 = .ok (.getfield 127, 3) := by decide +kernel
theorem dX12_asksAll_64 : decode cX12_asksAll 64 = .ok (.irem, 1) := by decide +kernel
theorem dX12_asksAll_65 : decode cX12_asksAll 65 = .ok (.iastore, 1) := by decide +kernel
theorem dX12_asksAll_66 : decode cX12_asksAll 66 = .ok (.aload_n 0, 1) := by decide +kernel
theorem dX12_asksAll_67 : decode cX12_asksAll 67 = .ok (.getfield 133, 3) := by decide +kernel
theorem dX12_asksAll_70 : decode cX12_asksAll 70 = .ok (.iconst 4, 1) := by decide +kernel
theorem dX12_asksAll_71 : decode cX12_asksAll 71 = .ok (.aload_n 0, 1) := by decide +kernel
theorem dX12_asksAll_72 : decode cX12_asksAll 72 = .ok (.getfield 443, 3) := by decide +kernel
theorem dX12_asksAll_75 : decode cX12_asksAll 75 = .ok (.ldc_w 398, 3) := by decide +kernel
theorem dX12_asksAll_78 : decode cX12_asksAll 78 = .ok (.if_icmp .ne 7, 3) := by decide +kernel
theorem dX12_asksAll_81 : decode cX12_asksAll 81 = .ok (.iconst 0, 1) := by decide +kernel
theorem dX12_asksAll_82 : decode cX12_asksAll 82 = .ok (.goto 12, 3) := by decide +kernel
theorem dX12_asksAll_85 : decode cX12_asksAll 85 = .ok (.aload_n 0, 1) := by decide +kernel
theorem dX12_asksAll_86 : decode cX12_asksAll 86 = .ok (.getfield 434, 3) := by decide +kernel
theorem dX12_asksAll_89 : decode cX12_asksAll 89 = .ok (.aload_n 0, 1) := by decide +kernel
theorem dX12_asksAll_90 : decode cX12_asksAll 90 = .ok (.getfield 443, 3) := by decide +kernel
theorem dX12_asksAll_93 : decode cX12_asksAll 93 = .ok (.isub, 1) := by decide +kernel
theorem dX12_asksAll_94 : decode cX12_asksAll 94 = .ok (.iastore, 1) := by decide +kernel
theorem dX12_asksAll_95 : decode cX12_asksAll 95 = .ok (.aload_n 0, 1) := by decide +kernel
theorem dX12_asksAll_96 : decode cX12_asksAll 96 = .ok (.getfield 133, 3) := by decide +kernel
theorem dX12_asksAll_99 : decode cX12_asksAll 99 = .ok (.iconst 5, 1) := by decide +kernel
theorem dX12_asksAll_100 : decode cX12_asksAll 100 = .ok (.aload_n 0, 1) := by decide +kernel
theorem dX12_asksAll_101 : decode cX12_asksAll 101 = .ok (.getfield 446, 3) := by decide +kernel
theorem dX12_asksAll_104 : decode cX12_asksAll 104 = .ok (.ldc_w 398, 3) := by decide +kernel
theorem dX12_asksAll_107 : decode cX12_asksAll 107 = .ok (.if_icmp .ne 7, 3) := by decide +kernel
theorem dX12_asksAll_110 : decode cX12_asksAll 110 = .ok (.iconst 0, 1) := by decide +kernel
theorem dX12_asksAll_111 : decode cX12_asksAll 111 = .ok (.goto 12, 3) := by decide +kernel
theorem dX12_asksAll_114 : decode cX12_asksAll 114 = .ok (.aload_n 0, 1) := by decide +kernel
theorem dX12_asksAll_115 : decode cX12_asksAll 115 = .ok (.getfield 437, 3) := by decide +kernel
theorem dX12_asksAll_118 : decode cX12_asksAll 118 = .ok (.aload_n 0, 1) := by decide +kernel
theorem dX12_asksAll_119 : decode cX12_asksAll 119 = .ok (.getfield 446, 3) := by decide +kernel
theorem dX12_asksAll_122 : decode cX12_asksAll 122 = .ok (.isub, 1) := by decide +kernel
theorem dX12_asksAll_123 : decode cX12_asksAll 123 = .ok (.iastore, 1) := by decide +kernel
theorem dX12_asksAll_124 : decode cX12_asksAll 124 = .ok (.aload_n 0, 1) := by decide +kernel
theorem dX12_asksAll_125 : decode cX12_asksAll 125 = .ok (.getfield 133, 3) := by decide +kernel
theorem dX12_asksAll_128 : decode cX12_asksAll 128 = .ok (.bipush 6, 2) := by decide +kernel
theorem dX12_asksAll_130 : decode cX12_asksAll 130 = .ok (.aload_n 0, 1) := by decide +kernel
theorem dX12_asksAll_131 : decode cX12_asksAll 131 = .ok (.getfield 443, 3) := by decide +kernel
theorem dX12_asksAll_134 : decode cX12_asksAll 134 = .ok (.ldc_w 398, 3) := by decide +kernel
theorem dX12_asksAll_137 : decode cX12_asksAll 137 = .ok (.if_icmp .eq 13, 3) := by decide +kernel
theorem dX12_asksAll_140 : decode cX12_asksAll 140 = .ok (.aload_n 0, 1) := by decide +kernel
theorem dX12_asksAll_141 : decode cX12_asksAll 141 = .ok (.getfield 446, 3) := by decide +kernel
theorem dX12_asksAll_144 : decode cX12_asksAll 144 = .ok (.ldc_w 398, 3) := by decide +kernel
theorem dX12_asksAll_147 : decode cX12_asksAll 147 = .ok (.if_icmp .ne 8, 3) := by decide +kernel
theorem dX12_asksAll_150 : decode cX12_asksAll 150 = .ok (.bipush 7, 2) := by decide +kernel
theorem dX12_asksAll_152 : decode cX12_asksAll 152 = .ok (.goto 17, 3) := by decide +kernel
theorem dX12_asksAll_155 : decode cX12_asksAll 155 = .ok (.aload_n 0, 1) := by decide +kernel
theorem dX12_asksAll_156 : decode cX12_asksAll 156 = .ok (.getfield 443, 3) := by decide +kernel
theorem dX12_asksAll_159 : decode cX12_asksAll 159 = .ok (.aload_n 0, 1) := by decide +kernel
theorem dX12_asksAll_160 : decode cX12_asksAll 160 = .ok (.getfield 446, 3) := by decide +kernel
theorem dX12_asksAll_163 : decode cX12_asksAll 163 = .ok (.invokestatic 440, 3) := by decide +kernel
theorem dX12_asksAll_166 : decode cX12_asksAll 166 = .ok (.bipush 7, 2) := by decide +kernel
theorem dX12_asksAll_168 : decode cX12_asksAll 168 = .ok (.irem, 1) := by decide +kernel
theorem dX12_asksAll_169 : decode cX12_asksAll 169 = .ok (.iastore, 1) := by decide +kernel
theorem dX12_asksAll_170 : decode cX12_asksAll 170 = .ok (.aload_n 0, 1) := by decide +kernel
theorem dX12_asksAll_171 : decode cX12_asksAll 171 = .ok (.getfield 133, 3) := by decide +kernel
theorem dX12_asksAll_174 : decode cX12_asksAll 174 = .ok (.bipush 7, 2) := by decide +kernel
theorem dX12_asksAll_176 : decode cX12_asksAll 176 = .ok (.iload_n 2, 1) := by decide +kernel
theorem dX12_asksAll_177 : decode cX12_asksAll 177 = .ok (.ifCond .eq 7, 3) := by decide +kernel
theorem dX12_asksAll_180 : decode cX12_asksAll 180 = .ok (.iconst 1, 1) := by decide +kernel
theorem dX12_asksAll_181 : decode cX12_asksAll 181 = .ok (.goto 4, 3) := by decide +kernel
theorem dX12_asksAll_184 : decode cX12_asksAll 184 = .ok (.iconst 0, 1) := by decide +kernel
theorem dX12_asksAll_185 : decode cX12_asksAll 185 = .ok (.iastore, 1) := by decide +kernel
theorem dX12_asksAll_186 : decode cX12_asksAll 186 = .ok (.return_, 1) := by decide +kernel
theorem dX12_firstRule_0 : decode cX12_firstRule 0 = .ok (.iconst 0, 1) := by decide +kernel
theorem dX12_firstRule_1 : decode cX12_firstRule 1 = .ok (.istore_n 1, 1) := by decide +kernel
theorem dX12_firstRule_2 : decode cX12_firstRule 2 = .ok (.iload_n 1, 1) := by decide +kernel
theorem dX12_firstRule_3 : decode cX12_firstRule 3 = .ok (.aload_n 0, 1) := by decide +kernel
theorem dX12_firstRule_4 : decode cX12_firstRule 4 = .ok (.getfield 114, 3) := by decide +kernel
theorem dX12_firstRule_7 : decode cX12_firstRule 7 = .ok (.iconst 0, 1) := by decide +kernel
theorem dX12_firstRule_8 : decode cX12_firstRule 8 = .ok (.iaload, 1) := by decide +kernel
theorem dX12_firstRule_9 : decode cX12_firstRule 9 = .ok (.if_icmp .ge 28, 3) := by decide +kernel
theorem dX12_firstRule_12 : decode cX12_firstRule 12 = .ok (.iload_n 1, 1) := by decide +kernel
theorem dX12_firstRule_13 : decode cX12_firstRule 13 = .ok (.aload_n 0, 1) := by decide +kernel
theorem dX12_firstRule_14 : decode cX12_firstRule 14 = .ok (.getfield 136, 3) := by decide +kernel
theorem dX12_firstRule_17 : decode cX12_firstRule 17 = .ok (.if_icmp .eq 14, 3) := by decide +kernel
theorem dX12_firstRule_20 : decode cX12_firstRule 20 = .ok (.aload_n 0, 1) := by decide +kernel
theorem dX12_firstRule_21 : decode cX12_firstRule 21 = .ok (.iconst 0, 1) := by decide +kernel
theorem dX12_firstRule_22 : decode cX12_firstRule 22 = .ok (.iload_n 1, 1) := by decide +kernel
theorem dX12_firstRule_23 : decode cX12_firstRule 23 = .ok (.invokevirtual 449, 3) := by decide +kernel
theorem dX12_firstRule_26 : decode cX12_firstRule 26 = .ok (.ifCond .eq 5, 3) := by decide +kernel
theorem dX12_firstRule_29 : decode cX12_firstRule 29 = .ok (.iload_n 1, 1) := by decide +kernel
theorem dX12_firstRule_30 : decode cX12_firstRule 30 = .ok (.ireturn, 1) := by decide +kernel
theorem dX12_firstRule_31 : decode cX12_firstRule 31 = .ok (.iinc 1 1, 3) := by decide +kernel
theorem dX12_firstRule_34 : decode cX12_firstRule 34 = .ok (.goto (-32), 3) := by decide +kernel
theorem dX12_firstRule_37 : decode cX12_firstRule 37 = .ok (.iconst (-1), 1) := by decide +kernel
theorem dX12_firstRule_38 : decode cX12_firstRule 38 = .ok (.ireturn, 1) := by decide +kernel
theorem dX12_isFirst_0 : decode cX12_isFirst 0 = .ok (.iload_n 0, 1) := by decide +kernel
theorem dX12_isFirst_1 : decode cX12_isFirst 1 = .ok (.bipush 84, 2) := by decide +kernel
theorem dX12_isFirst_3 : decode cX12_isFirst 3 = .ok (.if_icmp .eq 14, 3) := by decide +kernel
theorem dX12_isFirst_6 : decode cX12_isFirst 6 = .ok (.iload_n 1, 1) := by decide +kernel
theorem dX12_isFirst_7 : decode cX12_isFirst 7 = .ok (.bipush 84, 2) := by decide +kernel
theorem dX12_isFirst_9 : decode cX12_isFirst 9 = .ok (.if_icmp .eq 12, 3) := by decide +kernel
theorem dX12_isFirst_12 : decode cX12_isFirst 12 = .ok (.iload_n 0, 1) := by decide +kernel
theorem dX12_isFirst_13 : decode cX12_isFirst 13 = .ok (.iload_n 1, 1) := by decide +kernel
theorem dX12_isFirst_14 : decode cX12_isFirst 14 = .ok (.if_icmp .ge 7, 3) := by decide +kernel
theorem dX12_isFirst_17 : decode cX12_isFirst 17 = .ok (.iconst 1, 1) := by decide +kernel
theorem dX12_isFirst_18 : decode cX12_isFirst 18 = .ok (.goto 4, 3) := by decide +kernel
theorem dX12_isFirst_21 : decode cX12_isFirst 21 = .ok (.iconst 0, 1) := by decide +kernel
theorem dX12_isFirst_22 : decode cX12_isFirst 22 = .ok (.ireturn, 1) := by decide +kernel
theorem dX12_brokenBy_0 : decode cX12_brokenBy 0 = .ok (.aload_n 0, 1) := by decide +kernel
theorem dX12_brokenBy_1 : decode cX12_brokenBy 1 = .ok (.iload_n 1, 1) := by decide +kernel
theorem dX12_brokenBy_2 : decode cX12_brokenBy 2 = .ok (.iload_n 3, 1) := by decide +kernel
theorem dX12_brokenBy_3 : decode cX12_brokenBy 3 = .ok (.invokevirtual 405, 3) := by decide +kernel
theorem dX12_brokenBy_6 : decode cX12_brokenBy 6 = .ok (.istore 4, 2) := by decide +kernel
theorem dX12_brokenBy_8 : decode cX12_brokenBy 8 = .ok (.aload_n 0, 1) := by decide +kernel
theorem dX12_brokenBy_9 : decode cX12_brokenBy 9 = .ok (.iload_n 2, 1) := by decide +kernel
theorem dX12_brokenBy_10 : decode cX12_brokenBy 10 = .ok (.iload_n 3, 1) := by decide +kernel
theorem dX12_brokenBy_11 : decode cX12_brokenBy 11 = .ok (.invokevirtual 405, 3) := by decide +kernel
theorem dX12_brokenBy_14 : decode cX12_brokenBy 14 = .ok (.istore 5, 2) := by decide +kernel
theorem dX12_brokenBy_16 : decode cX12_brokenBy 16 = .ok (.aload_n 0, 1) := by decide +kernel
theorem dX12_brokenBy_17 : decode cX12_brokenBy 17 = .ok (.aload_n 0, 1) := by decide +kernel
theorem dX12_brokenBy_18 : decode cX12_brokenBy 18 = .ok (.iload_n 1, 1) := by decide +kernel
theorem dX12_brokenBy_19 : decode cX12_brokenBy 19 = .ok (.iload 4, 2) := by decide +kernel
theorem dX12_brokenBy_21 : decode cX12_brokenBy 21 = .ok (.invokevirtual 408, 3) := by decide +kernel
theorem dX12_brokenBy_24 : decode cX12_brokenBy 24 = .ok (.putfield 434, 3) := by decide +kernel
theorem dX12_brokenBy_27 : decode cX12_brokenBy 27 = .ok (.aload_n 0, 1) := by decide +kernel
theorem dX12_brokenBy_28 : decode cX12_brokenBy 28 = .ok (.aload_n 0, 1) := by decide +kernel
theorem dX12_brokenBy_29 : decode cX12_brokenBy 29 = .ok (.iload_n 2, 1) := by decide +kernel
theorem dX12_brokenBy_30 : decode cX12_brokenBy 30 = .ok (.iload 5, 2) := by decide +kernel
theorem dX12_brokenBy_32 : decode cX12_brokenBy 32 = .ok (.invokevirtual 408, 3) := by decide +kernel
theorem dX12_brokenBy_35 : decode cX12_brokenBy 35 = .ok (.putfield 437, 3) := by decide +kernel
theorem dX12_brokenBy_38 : decode cX12_brokenBy 38 = .ok (.aload_n 0, 1) := by decide +kernel
theorem dX12_brokenBy_39 : decode cX12_brokenBy 39 = .ok (.getfield 434, 3) := by decide +kernel
theorem dX12_brokenBy_42 : decode cX12_brokenBy 42 = .ok (.ldc_w 398, 3) := by decide +kernel
theorem dX12_brokenBy_45 : decode cX12_brokenBy 45 = .ok (.if_icmp .eq 13, 3) := by decide +kernel
theorem dX12_brokenBy_48 : decode cX12_brokenBy 48 = .ok (.aload_n 0, 1) := by decide +kernel
theorem dX12_brokenBy_49 : decode cX12_brokenBy 49 = .ok (.getfield 437, 3) := by decide +kernel
theorem dX12_brokenBy_52 : decode cX12_brokenBy 52 = .ok (.ldc_w 398, 3) := by decide +kernel
theorem dX12_brokenBy_55 : decode cX12_brokenBy 55 = .ok (.if_icmp .ne 5, 3) := by decide +kernel
theorem dX12_brokenBy_58 : decode cX12_brokenBy 58 = .ok (.iconst (-1), 1) := by decide +kernel
theorem dX12_brokenBy_59 : decode cX12_brokenBy 59 = .ok (.ireturn, 1) := by decide +kernel
theorem dX12_brokenBy_60 : decode cX12_brokenBy 60 = .ok (.aload_n 0, 1) := by decide +kernel
theorem dX12_brokenBy_61 : decode cX12_brokenBy 61 = .ok (.iload_n 1, 1) := by decide +kernel
theorem dX12_brokenBy_62 : decode cX12_brokenBy 62 = .ok (.iload_n 3, 1) := by decide +kernel
theorem dX12_brokenBy_63 : decode cX12_brokenBy 63 = .ok (.iconst 1, 1) := by decide +kernel
theorem dX12_brokenBy_64 : decode cX12_brokenBy 64 = .ok (.isub, 1) := by decide +kernel
theorem dX12_brokenBy_65 : decode cX12_brokenBy 65 = .ok (.invokevirtual 405, 3) := by decide +kernel
theorem dX12_brokenBy_68 : decode cX12_brokenBy 68 = .ok (.istore 6, 2) := by decide +kernel
theorem dX12_brokenBy_70 : decode cX12_brokenBy 70 = .ok (.aload_n 0, 1) := by decide +kernel
theorem dX12_brokenBy_71 : decode cX12_brokenBy 71 = .ok (.iload_n 2, 1) := by decide +kernel
theorem dX12_brokenBy_72 : decode cX12_brokenBy 72 = .ok (.iload_n 3, 1) := by decide +kernel
theorem dX12_brokenBy_73 : decode cX12_brokenBy 73 = .ok (.iconst 1, 1) := by decide +kernel
theorem dX12_brokenBy_74 : decode cX12_brokenBy 74 = .ok (.isub, 1) := by decide +kernel
theorem dX12_brokenBy_75 : decode cX12_brokenBy 75 = .ok (.invokevirtual 405, 3) := by decide +kernel
theorem dX12_brokenBy_78 : decode cX12_brokenBy 78 = .ok (.istore 7, 2) := by decide +kernel
theorem dX12_brokenBy_80 : decode cX12_brokenBy 80 = .ok (.iload 4, 2) := by decide +kernel
theorem dX12_brokenBy_82 : decode cX12_brokenBy 82 = .ok (.iload 6, 2) := by decide +kernel
theorem dX12_brokenBy_84 : decode cX12_brokenBy 84 = .ok (.if_icmp .ne 12, 3) := by decide +kernel
theorem dX12_brokenBy_87 : decode cX12_brokenBy 87 = .ok (.iload 5, 2) := by decide +kernel
theorem dX12_brokenBy_89 : decode cX12_brokenBy 89 = .ok (.iload 7, 2) := by decide +kernel
theorem dX12_brokenBy_91 : decode cX12_brokenBy 91 = .ok (.if_icmp .ne 5, 3) := by decide +kernel
theorem dX12_brokenBy_94 : decode cX12_brokenBy 94 = .ok (.iconst (-1), 1) := by decide +kernel
theorem dX12_brokenBy_95 : decode cX12_brokenBy 95 = .ok (.ireturn, 1) := by decide +kernel
theorem dX12_brokenBy_96 : decode cX12_brokenBy 96 = .ok (.aload_n 0, 1) := by decide +kernel
theorem dX12_brokenBy_97 : decode cX12_brokenBy 97 = .ok (.aload_n 0, 1) := by decide +kernel
theorem dX12_brokenBy_98 : decode cX12_brokenBy 98 = .ok (.iload_n 1, 1) := by decide +kernel
theorem dX12_brokenBy_99 : decode cX12_brokenBy 99 = .ok (.iload 6, 2) := by decide +kernel
theorem dX12_brokenBy_101 : decode cX12_brokenBy 101 = .ok (.invokevirtual 408, 3) := by decide +kernel
theorem dX12_brokenBy_104 : decode cX12_brokenBy 104 = .ok (.putfield 443, 3) := by decide +kernel
theorem dX12_brokenBy_107 : decode cX12_brokenBy 107 = .ok (.aload_n 0, 1) := by decide +kernel
theorem dX12_brokenBy_108 : decode cX12_brokenBy 108 = .ok (.aload_n 0, 1) := by decide +kernel
theorem dX12_brokenBy_109 : decode cX12_brokenBy 109 = .ok (.iload_n 2, 1) := by decide +kernel
theorem dX12_brokenBy_110 : decode cX12_brokenBy 110 = .ok (.iload 7, 2) := by decide +kernel
theorem dX12_brokenBy_112 : decode cX12_brokenBy 112 = .ok (.invokevirtual 408, 3) := by decide +kernel
theorem dX12_brokenBy_115 : decode cX12_brokenBy 115 = .ok (.putfield 446, 3) := by decide +kernel
theorem dX12_brokenBy_118 : decode cX12_brokenBy 118 = .ok (.aload_n 0, 1) := by decide +kernel
theorem dX12_brokenBy_119 : decode cX12_brokenBy 119 = .ok (.iload_n 3, 1) := by decide +kernel
theorem dX12_brokenBy_120 : decode cX12_brokenBy 120 = .ok (.aload_n 0, 1) := by decide +kernel
theorem dX12_brokenBy_121 : decode cX12_brokenBy 121 = .ok (.iload_n 1, 1) := by decide +kernel
theorem dX12_brokenBy_122 : decode cX12_brokenBy 122 = .ok (.iload_n 3, 1) := by decide +kernel
theorem dX12_brokenBy_123 : decode cX12_brokenBy 123 = .ok (.iconst 1, 1) := by decide +kernel
theorem dX12_brokenBy_124 : decode cX12_brokenBy 124 = .ok (.iadd, 1) := by decide +kernel
theorem dX12_brokenBy_125 : decode cX12_brokenBy 125 = .ok (.invokevirtual 431, 3) := by decide +kernel
theorem dX12_brokenBy_128 : decode cX12_brokenBy 128 = .ok (.ldc_w 398, 3) := by decide +kernel
theorem dX12_brokenBy_131 : decode cX12_brokenBy 131 = .ok (.if_icmp .eq 17, 3) := by decide +kernel
theorem dX12_brokenBy_134 : decode cX12_brokenBy 134 = .ok (.aload_n 0, 1) := by decide +kernel
theorem dX12_brokenBy_135 : decode cX12_brokenBy 135 = .ok (.iload_n 2, 1) := by decide +kernel
theorem dX12_brokenBy_136 : decode cX12_brokenBy 136 = .ok (.iload_n 3, 1) := by decide +kernel
theorem dX12_brokenBy_137 : decode cX12_brokenBy 137 = .ok (.iconst 1, 1) := by decide +kernel
theorem dX12_brokenBy_138 : decode cX12_brokenBy 138 = .ok (.iadd, 1) := by decide +kernel
theorem dX12_brokenBy_139 : decode cX12_brokenBy 139 = .ok (.invokevirtual 431, 3) := by decide +kernel
theorem dX12_brokenBy_142 : decode cX12_brokenBy 142 = .ok (.ldc_w 398, 3) := by decide +kernel
theorem dX12_brokenBy_145 : decode cX12_brokenBy 145 = .ok (.if_icmp .ne 7, 3) := by decide +kernel
theorem dX12_brokenBy_148 : decode cX12_brokenBy 148 = .ok (.iconst 1, 1) := by decide +kernel
theorem dX12_brokenBy_149 : decode cX12_brokenBy 149 = .ok (.goto 4, 3) := by decide +kernel
theorem dX12_brokenBy_152 : decode cX12_brokenBy 152 = .ok (.iconst 0, 1) := by decide +kernel
theorem dX12_brokenBy_153 : decode cX12_brokenBy 153 = .ok (.invokevirtual 453, 3) := by decide +kernel
theorem dX12_brokenBy_156 : decode cX12_brokenBy 156 = .ok (.aload_n 0, 1) := by decide +kernel
theorem dX12_brokenBy_157 : decode cX12_brokenBy 157 = .ok (.invokevirtual 457, 3) := by decide +kernel
theorem dX12_brokenBy_160 : decode cX12_brokenBy 160 = .ok (.ireturn, 1) := by decide +kernel
theorem dX12_breachOf_0 : decode cX12_breachOf 0 = .ok (.iload_n 1, 1) := by decide +kernel
theorem dX12_breachOf_1 : decode cX12_breachOf 1 = .ok (.iload_n 2, 1) := by decide +kernel
theorem dX12_breachOf_2 : decode cX12_breachOf 2 = .ok (.invokestatic 460, 3) := by decide +kernel
theorem dX12_breachOf_5 : decode cX12_breachOf 5 = .ok (.ifCond .eq 7, 3) := by decide +kernel
theorem dX12_breachOf_8 : decode cX12_breachOf 8 = .ok (.iload_n 1, 1) := by decide +kernel
theorem dX12_breachOf_9 : decode cX12_breachOf 9 = .ok (.goto 4, 3) := by decide +kernel
theorem dX12_breachOf_12 : decode cX12_breachOf 12 = .ok (.iload_n 2, 1) := by decide +kernel
theorem dX12_breachOf_13 : decode cX12_breachOf 13 = .ok (.istore_n 3, 1) := by decide +kernel
theorem dX12_breachOf_14 : decode cX12_breachOf 14 = .ok (.iload_n 3, 1) := by decide +kernel
theorem dX12_breachOf_15 : decode cX12_breachOf 15 = .ok (.iload_n 1, 1) := by decide +kernel
theorem dX12_breachOf_16 : decode cX12_breachOf 16 = .ok (.if_icmp .ne 7, 3) := by decide +kernel
theorem dX12_breachOf_19 : decode cX12_breachOf 19 = .ok (.iload_n 2, 1) := by decide +kernel
theorem dX12_breachOf_20 : decode cX12_breachOf 20 = .ok (.goto 4, 3) := by decide +kernel
theorem dX12_breachOf_23 : decode cX12_breachOf 23 = .ok (.iload_n 1, 1) := by decide +kernel
theorem dX12_breachOf_24 : decode cX12_breachOf 24 = .ok (.istore 4, 2) := by decide +kernel
theorem dX12_breachOf_26 : decode cX12_breachOf 26 = .ok (.aload_n 0, 1) := by decide +kernel
theorem dX12_breachOf_27 : decode cX12_breachOf 27 = .ok (.iload_n 3, 1) := by decide +kernel
theorem dX12_breachOf_28 : decode cX12_breachOf 28 = .ok (.invokevirtual 392, 3) := by decide +kernel
theorem dX12_breachOf_31 : decode cX12_breachOf 31 = .ok (.aload_n 0, 1) := by decide +kernel
theorem dX12_breachOf_32 : decode cX12_breachOf 32 = .ok (.iload 4, 2) := by decide +kernel
theorem dX12_breachOf_34 : decode cX12_breachOf 34 = .ok (.invokevirtual 392, 3) := by decide +kernel
theorem dX12_breachOf_37 : decode cX12_breachOf 37 = .ok (.if_icmp .ge 11, 3) := by decide +kernel
theorem dX12_breachOf_40 : decode cX12_breachOf 40 = .ok (.aload_n 0, 1) := by decide +kernel
theorem dX12_breachOf_41 : decode cX12_breachOf 41 = .ok (.iload_n 3, 1) := by decide +kernel
theorem dX12_breachOf_42 : decode cX12_breachOf 42 = .ok (.invokevirtual 392, 3) := by decide +kernel
theorem dX12_breachOf_45 : decode cX12_breachOf 45 = .ok (.goto 9, 3) := by decide +kernel
theorem dX12_breachOf_48 : decode cX12_breachOf 48 = .ok (.aload_n 0, 1) := by decide +kernel
theorem dX12_breachOf_49 : decode cX12_breachOf 49 = .ok (.iload 4, 2) := by decide +kernel
theorem dX12_breachOf_51 : decode cX12_breachOf 51 = .ok (.invokevirtual 392, 3) := by decide +kernel
theorem dX12_breachOf_54 : decode cX12_breachOf 54 = .ok (.istore 5, 2) := by decide +kernel
theorem dX12_breachOf_56 : decode cX12_breachOf 56 = .ok (.aload_n 0, 1) := by decide +kernel
theorem dX12_breachOf_57 : decode cX12_breachOf 57 = .ok (.iconst (-1), 1) := by decide +kernel
theorem dX12_breachOf_58 : decode cX12_breachOf 58 = .ok (.putfield 463, 3) := by decide +kernel
theorem dX12_breachOf_61 : decode cX12_breachOf 61 = .ok (.iload_n 3, 1) := by decide +kernel
theorem dX12_breachOf_62 : decode cX12_breachOf 62 = .ok (.invokestatic 389, 3) := by decide +kernel
theorem dX12_breachOf_65 : decode cX12_breachOf 65 = .ok (.iload 4, 2) := by decide +kernel
theorem dX12_breachOf_67 : decode cX12_breachOf 67 = .ok (.invokestatic 389, 3) := by decide +kernel
theorem dX12_breachOf_70 : decode cX12_breachOf 70 = .ok (.if_icmp .le 10, 3) := by decide +kernel
theorem dX12_breachOf_73 : decode cX12_breachOf 73 = .ok (.iload_n 3, 1) := by decide +kernel
theorem dX12_breachOf_74 : decode cX12_breachOf 74 = .ok (.invokestatic 389, 3) := by decide +kernel
theorem dX12_breachOf_77 : decode cX12_breachOf 77 = .ok (.goto 8, 3) := by decide +kernel
theorem dX12_breachOf_80 : decode cX12_breachOf 80 = .ok (.iload 4, 2) := by decide +kernel
theorem dX12_breachOf_82 : decode cX12_breachOf 82 = .ok (.invokestatic 389, 3) := by decide +kernel
theorem dX12_breachOf_85 : decode cX12_breachOf 85 = .ok (.istore 6, 2) := by decide +kernel
theorem dX12_breachOf_87 : decode cX12_breachOf 87 = .ok (.iload 6, 2) := by decide +kernel
theorem dX12_breachOf_89 : decode cX12_breachOf 89 = .ok (.iload 5, 2) := by decide +kernel
theorem dX12_breachOf_91 : decode cX12_breachOf 91 = .ok (.if_icmp .ge 33, 3) := by decide +kernel
theorem dX12_breachOf_94 : decode cX12_breachOf 94 = .ok (.aload_n 0, 1) := by decide +kernel
theorem dX12_breachOf_95 : decode cX12_breachOf 95 = .ok (.aload_n 0, 1) := by decide +kernel
theorem dX12_breachOf_96 : decode cX12_breachOf 96 = .ok (.iload_n 3, 1) := by decide +kernel
theorem dX12_breachOf_97 : decode cX12_breachOf 97 = .ok (.iload 4, 2) := by decide +kernel
theorem dX12_breachOf_99 : decode cX12_breachOf 99 = .ok (.iload 6, 2) := by decide +kernel
theorem dX12_breachOf_101 : decode cX12_breachOf 101 = .ok (.invokevirtual 466, 3) := by decide +kernel
theorem dX12_breachOf_104 : decode cX12_breachOf 104 = .ok (.putfield 463, 3) := by decide +kernel
theorem dX12_breachOf_107 : decode cX12_breachOf 107 = .ok (.aload_n 0, 1) := by decide +kernel
theorem dX12_breachOf_108 : decode cX12_breachOf 108 = .ok (.getfield 463, 3) := by decide +kernel
theorem dX12_breachOf_111 : decode cX12_breachOf 111 = .ok (.iconst (-1), 1) := by decide +kernel
theorem dX12_breachOf_112 : decode cX12_breachOf 112 = .ok (.if_icmp .eq 6, 3) := by decide +kernel
theorem dX12_breachOf_115 : decode cX12_breachOf 115 = .ok (.iload 6, 2) := by decide +kernel
theorem dX12_breachOf_117 : decode cX12_breachOf 117 = .ok (.ireturn, 1) := by decide +kernel
theorem dX12_breachOf_118 : decode cX12_breachOf 118 = .ok (.iinc 6 1, 3) := by decide +kernel
theorem dX12_breachOf_121 : decode cX12_breachOf 121 = .ok (.goto (-34), 3) := by decide +kernel
theorem dX12_breachOf_124 : decode cX12_breachOf 124 = .ok (.iconst (-1), 1) := by decide +kernel
theorem dX12_breachOf_125 : decode cX12_breachOf 125 = .ok (.ireturn, 1) := by decide +kernel
theorem dX12_areTwo_0 : decode cX12_areTwo 0 = .ok (.iload_n 1, 1) := by decide +kernel
theorem dX12_areTwo_1 : decode cX12_areTwo 1 = .ok (.invokestatic 423, 3) := by decide +kernel
theorem dX12_areTwo_4 : decode cX12_areTwo 4 = .ok (.ifCond .eq 35, 3) := by decide +kernel
theorem dX12_areTwo_7 : decode cX12_areTwo 7 = .ok (.iload_n 2, 1) := by decide +kernel
theorem dX12_areTwo_8 : decode cX12_areTwo 8 = .ok (.invokestatic 423, 3) := by decide +kernel
theorem dX12_areTwo_11 : decode cX12_areTwo 11 = .ok (.ifCond .eq 28, 3) := by decide +kernel
theorem dX12_areTwo_14 : decode cX12_areTwo 14 = .ok (.iload_n 1, 1) := by decide +kernel
theorem dX12_areTwo_15 : decode cX12_areTwo 15 = .ok (.iload_n 2, 1) := by decide +kernel
theorem dX12_areTwo_16 : decode cX12_areTwo 16 = .ok (.if_icmp .eq 23, 3) := by decide +kernel
theorem dX12_areTwo_19 : decode cX12_areTwo 19 = .ok (.aload_n 0, 1) := by decide +kernel
theorem dX12_areTwo_20 : decode cX12_areTwo 20 = .ok (.iload_n 1, 1) := by decide +kernel
theorem dX12_areTwo_21 : decode cX12_areTwo 21 = .ok (.invokevirtual 426, 3) := by decide +kernel
theorem dX12_areTwo_24 : decode cX12_areTwo 24 = .ok (.ifCond .eq 15, 3) := by decide +kernel
theorem dX12_areTwo_27 : decode cX12_areTwo 27 = .ok (.aload_n 0, 1) := by decide +kernel
theorem dX12_areTwo_28 : decode cX12_areTwo 28 = .ok (.iload_n 2, 1) := by decide +kernel
theorem dX12_areTwo_29 : decode cX12_areTwo 29 = .ok (.invokevirtual 426, 3) := by decide +kernel
theorem dX12_areTwo_32 : decode cX12_areTwo 32 = .ok (.ifCond .eq 7, 3) := by decide +kernel
theorem dX12_areTwo_35 : decode cX12_areTwo 35 = .ok (.iconst 1, 1) := by decide +kernel
theorem dX12_areTwo_36 : decode cX12_areTwo 36 = .ok (.goto 4, 3) := by decide +kernel
theorem dX12_areTwo_39 : decode cX12_areTwo 39 = .ok (.iconst 0, 1) := by decide +kernel
theorem dX12_areTwo_40 : decode cX12_areTwo 40 = .ok (.ireturn, 1) := by decide +kernel
theorem dX12_breach_0 : decode cX12_breach 0 = .ok (.aload_n 0, 1) := by decide +kernel
theorem dX12_breach_1 : decode cX12_breach 1 = .ok (.iload_n 1, 1) := by decide +kernel
theorem dX12_breach_2 : decode cX12_breach 2 = .ok (.iload_n 2, 1) := by decide +kernel
theorem dX12_breach_3 : decode cX12_breach 3 = .ok (.invokevirtual 470, 3) := by decide +kernel
theorem dX12_breach_6 : decode cX12_breach 6 = .ok (.ifCond .eq 13, 3) := by decide +kernel
theorem dX12_breach_9 : decode cX12_breach 9 = .ok (.iload_n 3, 1) := by decide +kernel
theorem dX12_breach_10 : decode cX12_breach 10 = .ok (.i2l, 1) := by decide +kernel
theorem dX12_breach_11 : decode cX12_breach 11 = .ok (.lconst 0, 1) := by decide +kernel
theorem dX12_breach_12 : decode cX12_breach 12 = .ok (.lconst 1, 1) := by decide +kernel
theorem dX12_breach_13 : decode cX12_breach 13 = .ok (.invokestatic 216, 3) := by decide +kernel
theorem dX12_breach_16 : decode cX12_breach 16 = .ok (.ifCond .ne 5, 3) := by decide +kernel
theorem dX12_breach_19 : decode cX12_breach 19 = .ok (.iconst (-1), 1) := by decide +kernel
theorem dX12_breach_20 : decode cX12_breach 20 = .ok (.ireturn, 1) := by decide +kernel
theorem dX12_breach_21 : decode cX12_breach 21 = .ok (.aload_n 0, 1) := by decide +kernel
theorem dX12_breach_22 : decode cX12_breach 22 = .ok (.iload_n 1, 1) := by decide +kernel
theorem dX12_breach_23 : decode cX12_breach 23 = .ok (.iload_n 2, 1) := by decide +kernel
theorem dX12_breach_24 : decode cX12_breach 24 = .ok (.invokevirtual 473, 3) := by decide +kernel
theorem dX12_breach_27 : decode cX12_breach 27 = .ok (.istore 4, 2) := by decide +kernel
theorem dX12_breach_29 : decode cX12_breach 29 = .ok (.iload_n 3, 1) := by decide +kernel
theorem dX12_breach_30 : decode cX12_breach 30 = .ok (.ifCond .ne 8, 3) := by decide +kernel
theorem dX12_breach_33 : decode cX12_breach 33 = .ok (.iload 4, 2) := by decide +kernel
theorem dX12_breach_35 : decode cX12_breach 35 = .ok (.goto 7, 3) := by decide +kernel
theorem dX12_breach_38 : decode cX12_breach 38 = .ok (.aload_n 0, 1) := by decide +kernel
theorem dX12_breach_39 : decode cX12_breach 39 = .ok (.getfield 463, 3) := by decide +kernel
theorem dX12_breach_42 : decode cX12_breach 42 = .ok (.ireturn, 1) := by decide +kernel
theorem dX12_together_0 : decode cX12_together 0 = .ok (.aload_n 0, 1) := by decide +kernel
theorem dX12_together_1 : decode cX12_together 1 = .ok (.iload_n 1, 1) := by decide +kernel
theorem dX12_together_2 : decode cX12_together 2 = .ok (.iload_n 2, 1) := by decide +kernel
theorem dX12_together_3 : decode cX12_together 3 = .ok (.invokevirtual 470, 3) := by decide +kernel
theorem dX12_together_6 : decode cX12_together 6 = .ok (.ifCond .eq 15, 3) := by decide +kernel
theorem dX12_together_9 : decode cX12_together 9 = .ok (.iload_n 3, 1) := by decide +kernel
theorem dX12_together_10 : decode cX12_together 10 = .ok (.i2l, 1) := by decide +kernel
theorem dX12_together_11 : decode cX12_together 11 = .ok (.lconst 0, 1) := by decide +kernel
theorem dX12_together_12 : decode cX12_together 12 = .ok (.ldc2_w 417, 3) := by decide +kernel
theorem dX12_together_15 : decode cX12_together 15 = .ok (.invokestatic 216, 3) := by decide +kernel
theorem dX12_together_18 : decode cX12_together 18 = .ok (.ifCond .ne 5, 3) := by decide +kernel
theorem dX12_together_21 : decode cX12_together 21 = .ok (.iconst (-1), 1) := by decide +kernel
theorem dX12_together_22 : decode cX12_together 22 = .ok (.ireturn, 1) := by decide +kernel
theorem dX12_together_23 : decode cX12_together 23 = .ok (.iconst 0, 1) := by decide +kernel
theorem dX12_together_24 : decode cX12_together 24 = .ok (.istore 4, 2) := by decide +kernel
theorem dX12_together_26 : decode cX12_together 26 = .ok (.iconst 0, 1) := by decide +kernel
theorem dX12_together_27 : decode cX12_together 27 = .ok (.istore 5, 2) := by decide +kernel
theorem dX12_together_29 : decode cX12_together 29 = .ok (.iconst 0, 1) := by decide +kernel
theorem dX12_together_30 : decode cX12_together 30 = .ok (.istore 6, 2) := by decide +kernel
theorem dX12_together_32 : decode cX12_together 32 = .ok (.iload_n 1, 1) := by decide +kernel
theorem dX12_together_33 : decode cX12_together 33 = .ok (.iload_n 2, 1) := by decide +kernel
theorem dX12_together_34 : decode cX12_together 34 = .ok (.invokestatic 460, 3) := by decide +kernel
theorem dX12_together_37 : decode cX12_together 37 = .ok (.ifCond .eq 7, 3) := by decide +kernel
theorem dX12_together_40 : decode cX12_together 40 = .ok (.iload_n 1, 1) := by decide +kernel
theorem dX12_together_41 : decode cX12_together 41 = .ok (.goto 4, 3) := by decide +kernel
theorem dX12_together_44 : decode cX12_together 44 = .ok (.iload_n 2, 1) := by decide +kernel
theorem dX12_together_45 : decode cX12_together 45 = .ok (.istore 7, 2) := by decide +kernel
theorem dX12_together_47 : decode cX12_together 47 = .ok (.iload 7, 2) := by decide +kernel
theorem dX12_together_49 : decode cX12_together 49 = .ok (.iload_n 1, 1) := by decide +kernel
theorem dX12_together_50 : decode cX12_together 50 = .ok (.if_icmp .ne 7, 3) := by decide +kernel
theorem dX12_together_53 : decode cX12_together 53 = .ok (.iload_n 2, 1) := by decide +kernel
theorem dX12_together_54 : decode cX12_together 54 = .ok (.goto 4, 3) := by decide +kernel
theorem dX12_together_57 : decode cX12_together 57 = .ok (.iload_n 1, 1) := by decide +kernel
theorem dX12_together_58 : decode cX12_together 58 = .ok (.istore 8, 2) := by decide +kernel
theorem dX12_together_60 : decode cX12_together 60 = .ok (.iconst 0, 1) := by decide +kernel
theorem dX12_together_61 : decode cX12_together 61 = .ok (.istore 9, 2) := by decide +kernel
theorem dX12_together_63 : decode cX12_together 63 = .ok (.iload 9, 2) := by decide +kernel
theorem dX12_together_65 : decode cX12_together 65 = .ok (.aload_n 0, 1) := by decide +kernel
theorem dX12_together_66 : decode cX12_together 66 = .ok (.iload 7, 2) := by decide +kernel
theorem dX12_together_68 : decode cX12_together 68 = .ok (.invokevirtual 392, 3) := by decide +kernel
theorem dX12_together_71 : decode cX12_together 71 = .ok (.if_icmp .ge 89, 3) := by decide +kernel
theorem dX12_together_74 : decode cX12_together 74 = .ok (.aload_n 0, 1) := by decide +kernel
theorem dX12_together_75 : decode cX12_together 75 = .ok (.iload 7, 2) := by decide +kernel
theorem dX12_together_77 : decode cX12_together 77 = .ok (.iload 9, 2) := by decide +kernel
theorem dX12_together_79 : decode cX12_together 79 = .ok (.invokevirtual 431, 3) := by decide +kernel
theorem dX12_together_82 : decode cX12_together 82 = .ok (.istore 10, 2) := by decide +kernel
theorem dX12_together_84 : decode cX12_together 84 = .ok (.aload_n 0, 1) := by decide +kernel
theorem dX12_together_85 : decode cX12_together 85 = .ok (.iload 8, 2) := by decide +kernel
theorem dX12_together_87 : decode cX12_together 87 = .ok (.iload 9, 2) := by decide +kernel
theorem dX12_together_89 : decode cX12_together 89 = .ok (.invokevirtual 431, 3) := by decide +kernel
theorem dX12_together_92 : decode cX12_together 92 = .ok (.istore 11, 2) := by decide +kernel
theorem dX12_together_94 : decode cX12_together 94 = .ok (.iload 10, 2) := by decide +kernel
theorem dX12_together_96 : decode cX12_together 96 = .ok (.ldc_w 398, 3) := by decide +kernel
theorem dX12_together_99 : decode cX12_together 99 = .ok (.if_icmp .eq 55, 3) := by decide +kernel
theorem dX12_together_102 : decode cX12_together 102 = .ok (.iload 11, 2) := by decide +kernel
theorem dX12_together_104 : decode cX12_together 104 = .ok (.ldc_w 398, 3) := by decide +kernel
theorem dX12_together_107 : decode cX12_together 107 = .ok (.if_icmp .ne 6, 3) := by decide +kernel
theorem dX12_together_110 : decode cX12_together 110 = .ok (.goto 44, 3) := by decide +kernel
theorem dX12_together_113 : decode cX12_together 113 = .ok (.iinc 4 1, 3) := by decide +kernel
theorem dX12_together_116 : decode cX12_together 116 = .ok (.iload 10, 2) := by decide +kernel
theorem dX12_together_118 : decode cX12_together 118 = .ok (.iload 11, 2) := by decide +kernel
theorem dX12_together_120 : decode cX12_together 120 = .ok (.invokestatic 440, 3) := by decide +kernel
theorem dX12_together_123 : decode cX12_together 123 = .ok (.iload 6, 2) := by decide +kernel
theorem dX12_together_125 : decode cX12_together 125 = .ok (.if_icmp .le 12, 3) := by decide +kernel
theorem dX12_together_128 : decode cX12_together 128 = .ok (.iload 10, 2) := by decide +kernel
theorem dX12_together_130 : decode cX12_together 130 = .ok (.iload 11, 2) := by decide +kernel
theorem dX12_together_132 : decode cX12_together 132 = .ok (.invokestatic 440, 3) := by decide +kernel
theorem dX12_together_135 : decode cX12_together 135 = .ok (.istore 6, 2) := by decide +kernel
theorem dX12_together_137 : decode cX12_together 137 = .ok (.aload_n 0, 1) := by decide +kernel
theorem dX12_together_138 : decode cX12_together 138 = .ok (.iload 7, 2) := by decide +kernel
theorem dX12_together_140 : decode cX12_together 140 = .ok (.iload 8, 2) := by decide +kernel
theorem dX12_together_142 : decode cX12_together 142 = .ok (.iload 9, 2) := by decide +kernel
theorem dX12_together_144 : decode cX12_together 144 = .ok (.invokevirtual 466, 3) := by decide +kernel
theorem dX12_together_147 : decode cX12_together 147 = .ok (.iconst (-1), 1) := by decide +kernel
theorem dX12_together_148 : decode cX12_together 148 = .ok (.if_icmp .eq 6, 3) := by decide +kernel
theorem dX12_together_151 : decode cX12_together 151 = .ok (.iinc 5 1, 3) := by decide +kernel
theorem dX12_together_154 : decode cX12_together 154 = .ok (.iinc 9 1, 3) := by decide +kernel
theorem dX12_together_157 : decode cX12_together 157 = .ok (.goto (-94), 3) := by decide +kernel
theorem dX12_together_160 : decode cX12_together 160 = .ok (.iload_n 3, 1) := by decide +kernel
theorem dX12_together_161 : decode cX12_together 161 = .ok (.ifCond .ne 8, 3) := by decide +kernel
theorem dX12_together_164 : decode cX12_together 164 = .ok (.iload 4, 2) := by decide +kernel
theorem dX12_together_166 : decode cX12_together 166 = .ok (.goto 15, 3) := by decide +kernel
theorem dX12_together_169 : decode cX12_together 169 = .ok (.iload_n 3, 1) := by decide +kernel
theorem dX12_together_170 : decode cX12_together 170 = .ok (.iconst 1, 1) := by decide +kernel
theorem dX12_together_171 : decode cX12_together 171 = .ok (.if_icmp .ne 8, 3) := by decide +kernel
theorem dX12_together_174 : decode cX12_together 174 = .ok (.iload 5, 2) := by decide +kernel
theorem dX12_together_176 : decode cX12_together 176 = .ok (.goto 5, 3) := by decide +kernel
theorem dX12_together_179 : decode cX12_together 179 = .ok (.iload 6, 2) := by decide +kernel
theorem dX12_together_181 : decode cX12_together 181 = .ok (.ireturn, 1) := by decide +kernel
theorem dX12_broken_0 : decode cX12_broken 0 = .ok (.aload_n 0, 1) := by decide +kernel
theorem dX12_broken_1 : decode cX12_broken 1 = .ok (.iload_n 1, 1) := by decide +kernel
theorem dX12_broken_2 : decode cX12_broken 2 = .ok (.iload_n 2, 1) := by decide +kernel
theorem dX12_broken_3 : decode cX12_broken 3 = .ok (.invokevirtual 470, 3) := by decide +kernel
theorem dX12_broken_6 : decode cX12_broken 6 = .ok (.ifCond .eq 7, 3) := by decide +kernel
theorem dX12_broken_9 : decode cX12_broken 9 = .ok (.iload_n 3, 1) := by decide +kernel
theorem dX12_broken_10 : decode cX12_broken 10 = .ok (.ifCond .ge 5, 3) := by decide +kernel
theorem dX12_broken_13 : decode cX12_broken 13 = .ok (.iconst (-1), 1) := by decide +kernel
theorem dX12_broken_14 : decode cX12_broken 14 = .ok (.ireturn, 1) := by decide +kernel
theorem dX12_broken_15 : decode cX12_broken 15 = .ok (.iload_n 1, 1) := by decide +kernel
theorem dX12_broken_16 : decode cX12_broken 16 = .ok (.iload_n 2, 1) := by decide +kernel
theorem dX12_broken_17 : decode cX12_broken 17 = .ok (.invokestatic 460, 3) := by decide +kernel
theorem dX12_broken_20 : decode cX12_broken 20 = .ok (.ifCond .eq 7, 3) := by decide +kernel
theorem dX12_broken_23 : decode cX12_broken 23 = .ok (.iload_n 1, 1) := by decide +kernel
theorem dX12_broken_24 : decode cX12_broken 24 = .ok (.goto 4, 3) := by decide +kernel
theorem dX12_broken_27 : decode cX12_broken 27 = .ok (.iload_n 2, 1) := by decide +kernel
theorem dX12_broken_28 : decode cX12_broken 28 = .ok (.istore 4, 2) := by decide +kernel
theorem dX12_broken_30 : decode cX12_broken 30 = .ok (.iload 4, 2) := by decide +kernel
theorem dX12_broken_32 : decode cX12_broken 32 = .ok (.iload_n 1, 1) := by decide +kernel
theorem dX12_broken_33 : decode cX12_broken 33 = .ok (.if_icmp .ne 7, 3) := by decide +kernel
theorem dX12_broken_36 : decode cX12_broken 36 = .ok (.iload_n 2, 1) := by decide +kernel
theorem dX12_broken_37 : decode cX12_broken 37 = .ok (.goto 4, 3) := by decide +kernel
theorem dX12_broken_40 : decode cX12_broken 40 = .ok (.iload_n 1, 1) := by decide +kernel
theorem dX12_broken_41 : decode cX12_broken 41 = .ok (.istore 5, 2) := by decide +kernel
theorem dX12_broken_43 : decode cX12_broken 43 = .ok (.iconst 0, 1) := by decide +kernel
theorem dX12_broken_44 : decode cX12_broken 44 = .ok (.istore 6, 2) := by decide +kernel
theorem dX12_broken_46 : decode cX12_broken 46 = .ok (.iconst 0, 1) := by decide +kernel
theorem dX12_broken_47 : decode cX12_broken 47 = .ok (.istore 7, 2) := by decide +kernel
theorem dX12_broken_49 : decode cX12_broken 49 = .ok (.iload 7, 2) := by decide +kernel
theorem dX12_broken_51 : decode cX12_broken 51 = .ok (.aload_n 0, 1) := by decide +kernel
theorem dX12_broken_52 : decode cX12_broken 52 = .ok (.iload 4, 2) := by decide +kernel
theorem dX12_broken_54 : decode cX12_broken 54 = .ok (.invokevirtual 392, 3) := by decide +kernel
theorem dX12_broken_57 : decode cX12_broken 57 = .ok (.if_icmp .ge 48, 3) := by decide +kernel
theorem dX12_broken_60 : decode cX12_broken 60 = .ok (.aload_n 0, 1) := by decide +kernel
theorem dX12_broken_61 : decode cX12_broken 61 = .ok (.iload 4, 2) := by decide +kernel
theorem dX12_broken_63 : decode cX12_broken 63 = .ok (.iload 5, 2) := by decide +kernel
theorem dX12_broken_65 : decode cX12_broken 65 = .ok (.iload 7, 2) := by decide +kernel
theorem dX12_broken_67 : decode cX12_broken 67 = .ok (.invokevirtual 466, 3) := by decide +kernel
theorem dX12_broken_70 : decode cX12_broken 70 = .ok (.istore 8, 2) := by decide +kernel
theorem dX12_broken_72 : decode cX12_broken 72 = .ok (.iload 8, 2) := by decide +kernel
theorem dX12_broken_74 : decode cX12_broken 74 = .ok (.iconst (-1), 1) := by decide +kernel
theorem dX12_broken_75 : decode cX12_broken 75 = .ok (.if_icmp .ne 6, 3) := by decide +kernel
theorem dX12_broken_78 : decode cX12_broken 78 = .ok (.goto 21, 3) := by decide +kernel
theorem dX12_broken_81 : decode cX12_broken 81 = .ok (.iload 6, 2) := by decide +kernel
theorem dX12_broken_83 : decode cX12_broken 83 = .ok (.iload_n 3, 1) := by decide +kernel
theorem dX12_broken_84 : decode cX12_broken 84 = .ok (.if_icmp .ne 12, 3) := by decide +kernel
theorem dX12_broken_87 : decode cX12_broken 87 = .ok (.bipush 100, 2) := by decide +kernel
theorem dX12_broken_89 : decode cX12_broken 89 = .ok (.iload 7, 2) := by decide +kernel
theorem dX12_broken_91 : decode cX12_broken 91 = .ok (.imul, 1) := by decide +kernel
theorem dX12_broken_92 : decode cX12_broken 92 = .ok (.iload 8, 2) := by decide +kernel
theorem dX12_broken_94 : decode cX12_broken 94 = .ok (.iadd, 1) := by decide +kernel
theorem dX12_broken_95 : decode cX12_broken 95 = .ok (.ireturn, 1) := by decide +kernel
theorem dX12_broken_96 : decode cX12_broken 96 = .ok (.iinc 6 1, 3) := by decide +kernel
theorem dX12_broken_99 : decode cX12_broken 99 = .ok (.iinc 7 1, 3) := by decide +kernel
theorem dX12_broken_102 : decode cX12_broken 102 = .ok (.goto (-53), 3) := by decide +kernel
theorem dX12_broken_105 : decode cX12_broken 105 = .ok (.iconst (-1), 1) := by decide +kernel
theorem dX12_broken_106 : decode cX12_broken 106 = .ok (.ireturn, 1) := by decide +kernel
theorem dX12_span_0 : decode cX12_span 0 = .ok (.iload_n 1, 1) := by decide +kernel
theorem dX12_span_1 : decode cX12_span 1 = .ok (.invokestatic 423, 3) := by decide +kernel
theorem dX12_span_4 : decode cX12_span 4 = .ok (.ifCond .eq 11, 3) := by decide +kernel
theorem dX12_span_7 : decode cX12_span 7 = .ok (.aload_n 0, 1) := by decide +kernel
theorem dX12_span_8 : decode cX12_span 8 = .ok (.iload_n 1, 1) := by decide +kernel
theorem dX12_span_9 : decode cX12_span 9 = .ok (.invokevirtual 426, 3) := by decide +kernel
theorem dX12_span_12 : decode cX12_span 12 = .ok (.ifCond .ne 7, 3) := by decide +kernel
theorem dX12_span_15 : decode cX12_span 15 = .ok (.ldc_w 398, 3) := by decide +kernel
theorem dX12_span_18 : decode cX12_span 18 = .ok (.ireturn, 1) := by decide +kernel
theorem dX12_span_19 : decode cX12_span 19 = .ok (.ldc_w 398, 3) := by decide +kernel
theorem dX12_span_22 : decode cX12_span 22 = .ok (.istore_n 3, 1) := by decide +kernel
theorem dX12_span_23 : decode cX12_span 23 = .ok (.iconst 0, 1) := by decide +kernel
theorem dX12_span_24 : decode cX12_span 24 = .ok (.istore 4, 2) := by decide +kernel
theorem dX12_span_26 : decode cX12_span 26 = .ok (.iload 4, 2) := by decide +kernel
theorem dX12_span_28 : decode cX12_span 28 = .ok (.aload_n 0, 1) := by decide +kernel
theorem dX12_span_29 : decode cX12_span 29 = .ok (.getfield 261, 3) := by decide +kernel
theorem dX12_span_32 : decode cX12_span 32 = .ok (.if_icmp .ge 58, 3) := by decide +kernel
theorem dX12_span_35 : decode cX12_span 35 = .ok (.aload_n 0, 1) := by decide +kernel
theorem dX12_span_36 : decode cX12_span 36 = .ok (.iload_n 1, 1) := by decide +kernel
theorem dX12_span_37 : decode cX12_span 37 = .ok (.iload 4, 2) := by decide +kernel
theorem dX12_span_39 : decode cX12_span 39 = .ok (.invokevirtual 408, 3) := by decide +kernel
theorem dX12_span_42 : decode cX12_span 42 = .ok (.istore 5, 2) := by decide +kernel
theorem dX12_span_44 : decode cX12_span 44 = .ok (.iload 5, 2) := by decide +kernel
theorem dX12_span_46 : decode cX12_span 46 = .ok (.ldc_w 398, 3) := by decide +kernel
theorem dX12_span_49 : decode cX12_span 49 = .ok (.if_icmp .eq 35, 3) := by decide +kernel
theorem dX12_span_52 : decode cX12_span 52 = .ok (.iload_n 3, 1) := by decide +kernel
theorem dX12_span_53 : decode cX12_span 53 = .ok (.ldc_w 398, 3) := by decide +kernel
theorem dX12_span_56 : decode cX12_span 56 = .ok (.if_icmp .eq 25, 3) := by decide +kernel
theorem dX12_span_59 : decode cX12_span 59 = .ok (.iload_n 2, 1) := by decide +kernel
theorem dX12_span_60 : decode cX12_span 60 = .ok (.ifCond .eq 12, 3) := by decide +kernel
theorem dX12_span_63 : decode cX12_span 63 = .ok (.iload 5, 2) := by decide +kernel
theorem dX12_span_65 : decode cX12_span 65 = .ok (.iload_n 3, 1) := by decide +kernel
theorem dX12_span_66 : decode cX12_span 66 = .ok (.if_icmp .gt 15, 3) := by decide +kernel
theorem dX12_span_69 : decode cX12_span 69 = .ok (.goto 15, 3) := by decide +kernel
theorem dX12_span_72 : decode cX12_span 72 = .ok (.iload 5, 2) := by decide +kernel
theorem dX12_span_74 : decode cX12_span 74 = .ok (.iload_n 3, 1) := by decide +kernel
theorem dX12_span_75 : decode cX12_span 75 = .ok (.if_icmp .lt 6, 3) := by decide +kernel
theorem dX12_span_78 : decode cX12_span 78 = .ok (.goto 6, 3) := by decide +kernel
theorem dX12_span_81 : decode cX12_span 81 = .ok (.iload 5, 2) := by decide +kernel
theorem dX12_span_83 : decode cX12_span 83 = .ok (.istore_n 3, 1) := by decide +kernel
theorem dX12_span_84 : decode cX12_span 84 = .ok (.iinc 4 1, 3) := by decide +kernel
theorem dX12_span_87 : decode cX12_span 87 = .ok (.goto (-61), 3) := by decide +kernel
theorem dX12_span_90 : decode cX12_span 90 = .ok (.iload_n 3, 1) := by decide +kernel
theorem dX12_span_91 : decode cX12_span 91 = .ok (.ireturn, 1) := by decide +kernel
theorem dX12_isBound_0 : decode cX12_isBound 0 = .ok (.iload_n 1, 1) := by decide +kernel
theorem dX12_isBound_1 : decode cX12_isBound 1 = .ok (.bipush 84, 2) := by decide +kernel
theorem dX12_isBound_3 : decode cX12_isBound 3 = .ok (.if_icmp .eq 36, 3) := by decide +kernel
theorem dX12_isBound_6 : decode cX12_isBound 6 = .ok (.iload_n 1, 1) := by decide +kernel
theorem dX12_isBound_7 : decode cX12_isBound 7 = .ok (.invokestatic 389, 3) := by decide +kernel
theorem dX12_isBound_10 : decode cX12_isBound 10 = .ok (.aload_n 0, 1) := by decide +kernel
theorem dX12_isBound_11 : decode cX12_isBound 11 = .ok (.getfield 139, 3) := by decide +kernel
theorem dX12_isBound_14 : decode cX12_isBound 14 = .ok (.if_icmp .gt 25, 3) := by decide +kernel
theorem dX12_isBound_17 : decode cX12_isBound 17 = .ok (.iload_n 1, 1) := by decide +kernel
theorem dX12_isBound_18 : decode cX12_isBound 18 = .ok (.invokestatic 402, 3) := by decide +kernel
theorem dX12_isBound_21 : decode cX12_isBound 21 = .ok (.i2l, 1) := by decide +kernel
theorem dX12_isBound_22 : decode cX12_isBound 22 = .ok (.aload_n 0, 1) := by decide +kernel
theorem dX12_isBound_23 : decode cX12_isBound 23 = .ok (.getfield 142, 3) := by decide +kernel
theorem dX12_isBound_26 : decode cX12_isBound 26 = .ok (.ineg, 1) := by decide +kernel
theorem dX12_isBound_27 : decode cX12_isBound 27 = .ok (.i2l, 1) := by decide +kernel
theorem dX12_isBound_28 : decode cX12_isBound 28 = .ok (.aload_n 0, 1) := by decide +kernel
theorem dX12_isBound_29 : decode cX12_isBound 29 = .ok (.getfield 142, 3) := by decide +kernel
theorem dX12_isBound_32 : decode cX12_isBound 32 = .ok (.i2l, 1) := by decide +kernel
theorem dX12_isBound_33 : decode cX12_isBound 33 = .ok (.invokestatic 216, 3) := by decide +kernel
theorem dX12_isBound_36 : decode cX12_isBound 36 = .ok (.ifCond .ne 5, 3) := by decide +kernel
theorem dX12_isBound_39 : decode cX12_isBound 39 = .ok (.iconst 0, 1) := by decide +kernel
theorem dX12_isBound_40 : decode cX12_isBound 40 = .ok (.ireturn, 1) := by decide +kernel
theorem dX12_isBound_41 : decode cX12_isBound 41 = .ok (.iload_n 1, 1) := by decide +kernel
theorem dX12_isBound_42 : decode cX12_isBound 42 = .ok (.invokestatic 399, 3) := by decide +kernel
theorem dX12_isBound_45 : decode cX12_isBound 45 = .ok (.iconst 1, 1) := by decide +kernel
theorem dX12_isBound_46 : decode cX12_isBound 46 = .ok (.if_icmp .ne 12, 3) := by decide +kernel
theorem dX12_isBound_49 : decode cX12_isBound 49 = .ok (.aload_n 0, 1) := by decide +kernel
theorem dX12_isBound_50 : decode cX12_isBound 50 = .ok (.getfield 378, 3) := by decide +kernel
theorem dX12_isBound_53 : decode cX12_isBound 53 = .ok (.iconst 2, 1) := by decide +kernel
theorem dX12_isBound_54 : decode cX12_isBound 54 = .ok (.irem, 1) := by decide +kernel
theorem dX12_isBound_55 : decode cX12_isBound 55 = .ok (.ifCond .eq 22, 3) := by decide +kernel
theorem dX12_isBound_58 : decode cX12_isBound 58 = .ok (.iload_n 1, 1) := by decide +kernel
theorem dX12_isBound_59 : decode cX12_isBound 59 = .ok (.invokestatic 395, 3) := by decide +kernel
theorem dX12_isBound_62 : decode cX12_isBound 62 = .ok (.iconst 1, 1) := by decide +kernel
theorem dX12_isBound_63 : decode cX12_isBound 63 = .ok (.if_icmp .ne 16, 3) := by decide +kernel
theorem dX12_isBound_66 : decode cX12_isBound 66 = .ok (.aload_n 0, 1) := by decide +kernel
theorem dX12_isBound_67 : decode cX12_isBound 67 = .ok (.getfield 378, 3) := by decide +kernel
theorem dX12_isBound_70 : decode cX12_isBound 70 = .ok (.iconst 2, 1) := by decide +kernel
theorem dX12_isBound_71 : decode cX12_isBound 71 = .ok (.idiv, 1) := by decide +kernel
theorem dX12_isBound_72 : decode cX12_isBound 72 = .ok (.iconst 2, 1) := by decide +kernel
theorem dX12_isBound_73 : decode cX12_isBound 73 = .ok (.irem, 1) := by decide +kernel
theorem dX12_isBound_74 : decode cX12_isBound 74 = .ok (.ifCond .ne 5, 3) := by decide +kernel
theorem dX12_isBound_77 : decode cX12_isBound 77 = .ok (.iconst 0, 1) := by decide +kernel
theorem dX12_isBound_78 : decode cX12_isBound 78 = .ok (.ireturn, 1) := by decide +kernel
theorem dX12_isBound_79 : decode cX12_isBound 79 = .ok (.iload_n 1, 1) := by decide +kernel
theorem dX12_isBound_80 : decode cX12_isBound 80 = .ok (.invokestatic 385, 3) := by decide +kernel
theorem dX12_isBound_83 : decode cX12_isBound 83 = .ok (.ifCond .eq 28, 3) := by decide +kernel
theorem dX12_isBound_86 : decode cX12_isBound 86 = .ok (.aload_n 0, 1) := by decide +kernel
theorem dX12_isBound_87 : decode cX12_isBound 87 = .ok (.getfield 378, 3) := by decide +kernel
theorem dX12_isBound_90 : decode cX12_isBound 90 = .ok (.iload_n 1, 1) := by decide +kernel
theorem dX12_isBound_91 : decode cX12_isBound 91 = .ok (.invokestatic 385, 3) := by decide +kernel
theorem dX12_isBound_94 : decode cX12_isBound 94 = .ok (.iconst 1, 1) := by decide +kernel
theorem dX12_isBound_95 : decode cX12_isBound 95 = .ok (.if_icmp .ne 7, 3) := by decide +kernel
theorem dX12_isBound_98 : decode cX12_isBound 98 = .ok (.iconst 4, 1) := by decide +kernel
theorem dX12_isBound_99 : decode cX12_isBound 99 = .ok (.goto 5, 3) := by decide +kernel
theorem dX12_isBound_102 : decode cX12_isBound 102 = .ok (.bipush 8, 2) := by decide +kernel
theorem dX12_isBound_104 : decode cX12_isBound 104 = .ok (.idiv, 1) := by decide +kernel
theorem dX12_isBound_105 : decode cX12_isBound 105 = .ok (.iconst 2, 1) := by decide +kernel
theorem dX12_isBound_106 : decode cX12_isBound 106 = .ok (.irem, 1) := by decide +kernel
theorem dX12_isBound_107 : decode cX12_isBound 107 = .ok (.iconst 1, 1) := by decide +kernel
theorem dX12_isBound_108 : decode cX12_isBound 108 = .ok (.if_icmp .ne 7, 3) := by decide +kernel
theorem dX12_isBound_111 : decode cX12_isBound 111 = .ok (.iconst 1, 1) := by decide +kernel
theorem dX12_isBound_112 : decode cX12_isBound 112 = .ok (.goto 4, 3) := by decide +kernel
theorem dX12_isBound_115 : decode cX12_isBound 115 = .ok (.iconst 0, 1) := by decide +kernel
theorem dX12_isBound_116 : decode cX12_isBound 116 = .ok (.ireturn, 1) := by decide +kernel
theorem dX12_waysNow_0 : decode cX12_waysNow 0 = .ok (.iconst 0, 1) := by decide +kernel
theorem dX12_waysNow_1 : decode cX12_waysNow 1 = .ok (.istore_n 1, 1) := by decide +kernel
theorem dX12_waysNow_2 : decode cX12_waysNow 2 = .ok (.iconst 0, 1) := by decide +kernel
theorem dX12_waysNow_3 : decode cX12_waysNow 3 = .ok (.istore_n 2, 1) := by decide +kernel
theorem dX12_waysNow_4 : decode cX12_waysNow 4 = .ok (.iload_n 2, 1) := by decide +kernel
theorem dX12_waysNow_5 : decode cX12_waysNow 5 = .ok (.sipush 4500, 3) := by decide +kernel
theorem dX12_waysNow_8 : decode cX12_waysNow 8 = .ok (.if_icmp .ge 49, 3) := by decide +kernel
theorem dX12_waysNow_11 : decode cX12_waysNow 11 = .ok (.aload_n 0, 1) := by decide +kernel
theorem dX12_waysNow_12 : decode cX12_waysNow 12 = .ok (.iload_n 2, 1) := by decide +kernel
theorem dX12_waysNow_13 : decode cX12_waysNow 13 = .ok (.invokevirtual 476, 3) := by decide +kernel
theorem dX12_waysNow_16 : decode cX12_waysNow 16 = .ok (.ifCond .eq 35, 3) := by decide +kernel
theorem dX12_waysNow_19 : decode cX12_waysNow 19 = .ok (.aload_n 0, 1) := by decide +kernel
theorem dX12_waysNow_20 : decode cX12_waysNow 20 = .ok (.iload_n 2, 1) := by decide +kernel
theorem dX12_waysNow_21 : decode cX12_waysNow 21 = .ok (.invokevirtual 426, 3) := by decide +kernel
theorem dX12_waysNow_24 : decode cX12_waysNow 24 = .ok (.ifCond .eq 27, 3) := by decide +kernel
theorem dX12_waysNow_27 : decode cX12_waysNow 27 = .ok (.aload_n 0, 1) := by decide +kernel
theorem dX12_waysNow_28 : decode cX12_waysNow 28 = .ok (.bipush 84, 2) := by decide +kernel
theorem dX12_waysNow_30 : decode cX12_waysNow 30 = .ok (.iload_n 2, 1) := by decide +kernel
theorem dX12_waysNow_31 : decode cX12_waysNow 31 = .ok (.invokevirtual 473, 3) := by decide +kernel
theorem dX12_waysNow_34 : decode cX12_waysNow 34 = .ok (.iconst (-1), 1) := by decide +kernel
theorem dX12_waysNow_35 : decode cX12_waysNow 35 = .ok (.if_icmp .eq 6, 3) := by decide +kernel
theorem dX12_waysNow_38 : decode cX12_waysNow 38 = .ok (.goto 13, 3) := by decide +kernel
theorem dX12_waysNow_41 : decode cX12_waysNow 41 = .ok (.aload_n 0, 1) := by decide +kernel
theorem dX12_waysNow_42 : decode cX12_waysNow 42 = .ok (.getfield 145, 3) := by decide +kernel
theorem dX12_waysNow_45 : decode cX12_waysNow 45 = .ok (.iload_n 1, 1) := by decide +kernel
theorem dX12_waysNow_46 : decode cX12_waysNow 46 = .ok (.iload_n 2, 1) := by decide +kernel
theorem dX12_waysNow_47 : decode cX12_waysNow 47 = .ok (.iastore, 1) := by decide +kernel
theorem dX12_waysNow_48 : decode cX12_waysNow 48 = .ok (.iinc 1 1, 3) := by decide +kernel
theorem dX12_waysNow_51 : decode cX12_waysNow 51 = .ok (.iinc 2 1, 3) := by decide +kernel
theorem dX12_waysNow_54 : decode cX12_waysNow 54 = .ok (.goto (-50), 3) := by decide +kernel
theorem dX12_waysNow_57 : decode cX12_waysNow 57 = .ok (.iload_n 1, 1) := by decide +kernel
theorem dX12_waysNow_58 : decode cX12_waysNow 58 = .ok (.ireturn, 1) := by decide +kernel
theorem dX12_knows_0 : decode cX12_knows 0 = .ok (.aload_n 0, 1) := by decide +kernel
theorem dX12_knows_1 : decode cX12_knows 1 = .ok (.getfield 270, 3) := by decide +kernel
theorem dX12_knows_4 : decode cX12_knows 4 = .ok (.ifCond .eq 4, 3) := by decide +kernel
theorem dX12_knows_7 : decode cX12_knows 7 = .ok (.return_, 1) := by decide +kernel
theorem dX12_knows_8 : decode cX12_knows 8 = .ok (.aload_n 0, 1) := by decide +kernel
theorem dX12_knows_9 : decode cX12_knows 9 = .ok (.aload_n 0, 1) := by decide +kernel
theorem dX12_knows_10 : decode cX12_knows 10 = .ok (.invokevirtual 479, 3) := by decide +kernel
theorem dX12_knows_13 : decode cX12_knows 13 = .ok (.putfield 482, 3) := by decide +kernel
theorem dX12_knows_16 : decode cX12_knows 16 = .ok (.aload_n 0, 1) := by decide +kernel
theorem dX12_knows_17 : decode cX12_knows 17 = .ok (.invokevirtual 485, 3) := by decide +kernel
theorem dX12_knows_20 : decode cX12_knows 20 = .ok (.istore_n 1, 1) := by decide +kernel
theorem dX12_knows_21 : decode cX12_knows 21 = .ok (.iconst 0, 1) := by decide +kernel
theorem dX12_knows_22 : decode cX12_knows 22 = .ok (.istore_n 2, 1) := by decide +kernel
theorem dX12_knows_23 : decode cX12_knows 23 = .ok (.iload_n 2, 1) := by decide +kernel
theorem dX12_knows_24 : decode cX12_knows 24 = .ok (.iload_n 1, 1) := by decide +kernel
theorem dX12_knows_25 : decode cX12_knows 25 = .ok (.if_icmp .ge 75, 3) := by decide +kernel
theorem dX12_knows_28 : decode cX12_knows 28 = .ok (.iconst 0, 1) := by decide +kernel
theorem dX12_knows_29 : decode cX12_knows 29 = .ok (.istore_n 3, 1) := by decide +kernel
theorem dX12_knows_30 : decode cX12_knows 30 = .ok (.iload_n 3, 1) := by decide +kernel
theorem dX12_knows_31 : decode cX12_knows 31 = .ok (.iload_n 2, 1) := by decide +kernel
theorem dX12_knows_32 : decode cX12_knows 32 = .ok (.if_icmp .ge 62, 3) := by decide +kernel
theorem dX12_knows_35 : decode cX12_knows 35 = .ok (.aload_n 0, 1) := by decide +kernel
theorem dX12_knows_36 : decode cX12_knows 36 = .ok (.aload_n 0, 1) := by decide +kernel
theorem dX12_knows_37 : decode cX12_knows 37 = .ok (.getfield 145, 3) := by decide +kernel
theorem dX12_knows_40 : decode cX12_knows 40 = .ok (.iload_n 2, 1) := by decide +kernel
theorem dX12_knows_41 : decode cX12_knows 41 = .ok (.iaload, 1) := by decide +kernel
theorem dX12_knows_42 : decode cX12_knows 42 = .ok (.aload_n 0, 1) := by decide +kernel
theorem dX12_knows_43 : decode cX12_knows 43 = .ok (.getfield 145, 3) := by decide +kernel
theorem dX12_knows_46 : decode cX12_knows 46 = .ok (.iload_n 3, 1) := by decide +kernel
theorem dX12_knows_47 : decode cX12_knows 47 = .ok (.iaload, 1) := by decide +kernel
theorem dX12_knows_48 : decode cX12_knows 48 = .ok (.invokevirtual 473, 3) := by decide +kernel
theorem dX12_knows_51 : decode cX12_knows 51 = .ok (.iconst (-1), 1) := by decide +kernel
theorem dX12_knows_52 : decode cX12_knows 52 = .ok (.if_icmp .ne 7, 3) := by decide +kernel
theorem dX12_knows_55 : decode cX12_knows 55 = .ok (.iconst 1, 1) := by decide +kernel
theorem dX12_knows_56 : decode cX12_knows 56 = .ok (.goto 4, 3) := by decide +kernel
theorem dX12_knows_59 : decode cX12_knows 59 = .ok (.iconst 0, 1) := by decide +kernel
theorem dX12_knows_60 : decode cX12_knows 60 = .ok (.istore 4, 2) := by decide +kernel
theorem dX12_knows_62 : decode cX12_knows 62 = .ok (.aload_n 0, 1) := by decide +kernel
theorem dX12_knows_63 : decode cX12_knows 63 = .ok (.getfield 148, 3) := by decide +kernel
theorem dX12_knows_66 : decode cX12_knows 66 = .ok (.bipush 40, 2) := by decide +kernel
theorem dX12_knows_68 : decode cX12_knows 68 = .ok (.iload_n 2, 1) := by decide +kernel
theorem dX12_knows_69 : decode cX12_knows 69 = .ok (.imul, 1) := by decide +kernel
theorem dX12_knows_70 : decode cX12_knows 70 = .ok (.iload_n 3, 1) := by decide +kernel
theorem dX12_knows_71 : decode cX12_knows 71 = .ok (.iadd, 1) := by decide +kernel
theorem dX12_knows_72 : decode cX12_knows 72 = .ok (.iload 4, 2) := by decide +kernel
theorem dX12_knows_74 : decode cX12_knows 74 = .ok (.bastore, 1) := by decide +kernel
theorem dX12_knows_75 : decode cX12_knows 75 = .ok (.aload_n 0, 1) := by decide +kernel
theorem dX12_knows_76 : decode cX12_knows 76 = .ok (.getfield 148, 3) := by decide +kernel
theorem dX12_knows_79 : decode cX12_knows 79 = .ok (.bipush 40, 2) := by decide +kernel
theorem dX12_knows_81 : decode cX12_knows 81 = .ok (.iload_n 3, 1) := by decide +kernel
theorem dX12_knows_82 : decode cX12_knows 82 = .ok (.imul, 1) := by decide +kernel
theorem dX12_knows_83 : decode cX12_knows 83 = .ok (.iload_n 2, 1) := by decide +kernel
theorem dX12_knows_84 : decode cX12_knows 84 = .ok (.iadd, 1) := by decide +kernel
theorem dX12_knows_85 : decode cX12_knows 85 = .ok (.iload 4, 2) := by decide +kernel
theorem dX12_knows_87 : decode cX12_knows 87 = .ok (.bastore, 1) := by decide +kernel
theorem dX12_knows_88 : decode cX12_knows 88 = .ok (.iinc 3 1, 3) := by decide +kernel
theorem dX12_knows_91 : decode cX12_knows 91 = .ok (.goto (-61), 3) := by decide +kernel
theorem dX12_knows_94 : decode cX12_knows 94 = .ok (.iinc 2 1, 3) := by decide +kernel
theorem dX12_knows_97 : decode cX12_knows 97 = .ok (.goto (-74), 3) := by decide +kernel
theorem dX12_knows_100 : decode cX12_knows 100 = .ok (.aload_n 0, 1) := by decide +kernel
theorem dX12_knows_101 : decode cX12_knows 101 = .ok (.iconst 1, 1) := by decide +kernel
theorem dX12_knows_102 : decode cX12_knows 102 = .ok (.putfield 270, 3) := by decide +kernel
theorem dX12_knows_105 : decode cX12_knows 105 = .ok (.return_, 1) := by decide +kernel
theorem dX12_chosen_0 : decode cX12_chosen 0 = .ok (.aload_n 0, 1) := by decide +kernel
theorem dX12_chosen_1 : decode cX12_chosen 1 = .ok (.getfield 482, 3) := by decide +kernel
theorem dX12_chosen_4 : decode cX12_chosen 4 = .ok (.bipush 40, 2) := by decide +kernel
theorem dX12_chosen_6 : decode cX12_chosen 6 = .ok (.if_icmp .ge 10, 3) := by decide +kernel
theorem dX12_chosen_9 : decode cX12_chosen 9 = .ok (.aload_n 0, 1) := by decide +kernel
theorem dX12_chosen_10 : decode cX12_chosen 10 = .ok (.getfield 482, 3) := by decide +kernel
theorem dX12_chosen_13 : decode cX12_chosen 13 = .ok (.goto 5, 3) := by decide +kernel
theorem dX12_chosen_16 : decode cX12_chosen 16 = .ok (.bipush 40, 2) := by decide +kernel
theorem dX12_chosen_18 : decode cX12_chosen 18 = .ok (.ireturn, 1) := by decide +kernel
theorem dX12_bounds_0 : decode cX12_bounds 0 = .ok (.iload_n 1, 1) := by decide +kernel
theorem dX12_bounds_1 : decode cX12_bounds 1 = .ok (.i2l, 1) := by decide +kernel
theorem dX12_bounds_2 : decode cX12_bounds 2 = .ok (.lconst 0, 1) := by decide +kernel
theorem dX12_bounds_3 : decode cX12_bounds 3 = .ok (.ldc2_w 411, 3) := by decide +kernel
theorem dX12_bounds_6 : decode cX12_bounds 6 = .ok (.invokestatic 216, 3) := by decide +kernel
theorem dX12_bounds_9 : decode cX12_bounds 9 = .ok (.ifCond .eq 27, 3) := by decide +kernel
theorem dX12_bounds_12 : decode cX12_bounds 12 = .ok (.iload_n 2, 1) := by decide +kernel
theorem dX12_bounds_13 : decode cX12_bounds 13 = .ok (.i2l, 1) := by decide +kernel
theorem dX12_bounds_14 : decode cX12_bounds 14 = .ok (.lconst 0, 1) := by decide +kernel
theorem dX12_bounds_15 : decode cX12_bounds 15 = .ok (.ldc2_w 415, 3) := by decide +kernel
theorem dX12_bounds_18 : decode cX12_bounds 18 = .ok (.invokestatic 216, 3) := by decide +kernel
theorem dX12_bounds_21 : decode cX12_bounds 21 = .ok (.ifCond .eq 15, 3) := by decide +kernel
theorem dX12_bounds_24 : decode cX12_bounds 24 = .ok (.iload_n 3, 1) := by decide +kernel
theorem dX12_bounds_25 : decode cX12_bounds 25 = .ok (.i2l, 1) := by decide +kernel
theorem dX12_bounds_26 : decode cX12_bounds 26 = .ok (.lconst 0, 1) := by decide +kernel
theorem dX12_bounds_27 : decode cX12_bounds 27 = .ok (.ldc2_w 488, 3) := by decide +kernel
theorem dX12_bounds_30 : decode cX12_bounds 30 = .ok (.invokestatic 216, 3) := by decide +kernel
theorem dX12_bounds_33 : decode cX12_bounds 33 = .ok (.ifCond .ne 5, 3) := by decide +kernel
theorem dX12_bounds_36 : decode cX12_bounds 36 = .ok (.iconst (-1), 1) := by decide +kernel
theorem dX12_bounds_37 : decode cX12_bounds 37 = .ok (.ireturn, 1) := by decide +kernel
theorem dX12_bounds_38 : decode cX12_bounds 38 = .ok (.aload_n 0, 1) := by decide +kernel
theorem dX12_bounds_39 : decode cX12_bounds 39 = .ok (.iload_n 1, 1) := by decide +kernel
theorem dX12_bounds_40 : decode cX12_bounds 40 = .ok (.putfield 139, 3) := by decide +kernel
theorem dX12_bounds_43 : decode cX12_bounds 43 = .ok (.aload_n 0, 1) := by decide +kernel
theorem dX12_bounds_44 : decode cX12_bounds 44 = .ok (.iload_n 2, 1) := by decide +kernel
theorem dX12_bounds_45 : decode cX12_bounds 45 = .ok (.putfield 142, 3) := by decide +kernel
theorem dX12_bounds_48 : decode cX12_bounds 48 = .ok (.aload_n 0, 1) := by decide +kernel
theorem dX12_bounds_49 : decode cX12_bounds 49 = .ok (.iload_n 3, 1) := by decide +kernel
theorem dX12_bounds_50 : decode cX12_bounds 50 = .ok (.putfield 378, 3) := by decide +kernel
theorem dX12_bounds_53 : decode cX12_bounds 53 = .ok (.aload_n 0, 1) := by decide +kernel
theorem dX12_bounds_54 : decode cX12_bounds 54 = .ok (.iconst 0, 1) := by decide +kernel
theorem dX12_bounds_55 : decode cX12_bounds 55 = .ok (.putfield 270, 3) := by decide +kernel
theorem dX12_bounds_58 : decode cX12_bounds 58 = .ok (.iconst 0, 1) := by decide +kernel
theorem dX12_bounds_59 : decode cX12_bounds 59 = .ok (.istore 4, 2) := by decide +kernel
theorem dX12_bounds_61 : decode cX12_bounds 61 = .ok (.iconst 0, 1) := by decide +kernel
theorem dX12_bounds_62 : decode cX12_bounds 62 = .ok (.istore 5, 2) := by decide +kernel
theorem dX12_bounds_64 : decode cX12_bounds 64 = .ok (.iload 5, 2) := by decide +kernel
theorem dX12_bounds_66 : decode cX12_bounds 66 = .ok (.sipush 4500, 3) := by decide +kernel
theorem dX12_bounds_69 : decode cX12_bounds 69 = .ok (.if_icmp .ge 21, 3) := by decide +kernel
theorem dX12_bounds_72 : decode cX12_bounds 72 = .ok (.aload_n 0, 1) := by decide +kernel
theorem dX12_bounds_73 : decode cX12_bounds 73 = .ok (.iload 5, 2) := by decide +kernel
theorem dX12_bounds_75 : decode cX12_bounds 75 = .ok (.invokevirtual 476, 3) := by decide +kernel
theorem dX12_bounds_78 : decode cX12_bounds 78 = .ok (.ifCond .eq 6, 3) := by decide +kernel
theorem dX12_bounds_81 : decode cX12_bounds 81 = .ok (.iinc 4 1, 3) := by decide +kernel
theorem dX12_bounds_84 : decode cX12_bounds 84 = .ok (.iinc 5 1, 3) := by decide +kernel
theorem dX12_bounds_87 : decode cX12_bounds 87 = .ok (.goto (-23), 3) := by decide +kernel
theorem dX12_bounds_90 : decode cX12_bounds 90 = .ok (.iload 4, 2) := by decide +kernel
theorem dX12_bounds_92 : decode cX12_bounds 92 = .ok (.ireturn, 1) := by decide +kernel
theorem dX12_picks_0 : decode cX12_picks 0 = .ok (.aload_n 0, 1) := by decide +kernel
theorem dX12_picks_1 : decode cX12_picks 1 = .ok (.invokevirtual 490, 3) := by decide +kernel
theorem dX12_picks_4 : decode cX12_picks 4 = .ok (.iload_n 1, 1) := by decide +kernel
theorem dX12_picks_5 : decode cX12_picks 5 = .ok (.iconst 2, 1) := by decide +kernel
theorem dX12_picks_6 : decode cX12_picks 6 = .ok (.if_icmp .ne 26, 3) := by decide +kernel
theorem dX12_picks_9 : decode cX12_picks 9 = .ok (.aload_n 0, 1) := by decide +kernel
theorem dX12_picks_10 : decode cX12_picks 10 = .ok (.getfield 152, 3) := by decide +kernel
theorem dX12_picks_13 : decode cX12_picks 13 = .ok (.iconst 0, 1) := by decide +kernel
theorem dX12_picks_14 : decode cX12_picks 14 = .ok (.iload_n 2, 1) := by decide +kernel
theorem dX12_picks_15 : decode cX12_picks 15 = .ok (.iastore, 1) := by decide +kernel
theorem dX12_picks_16 : decode cX12_picks 16 = .ok (.iload_n 2, 1) := by decide +kernel
theorem dX12_picks_17 : decode cX12_picks 17 = .ok (.iconst (-1), 1) := by decide +kernel
theorem dX12_picks_18 : decode cX12_picks 18 = .ok (.if_icmp .ne 10, 3) := by decide +kernel
theorem dX12_picks_21 : decode cX12_picks 21 = .ok (.aload_n 0, 1) := by decide +kernel
theorem dX12_picks_22 : decode cX12_picks 22 = .ok (.getfield 482, 3) := by decide +kernel
theorem dX12_picks_25 : decode cX12_picks 25 = .ok (.goto 6, 3) := by decide +kernel
theorem dX12_picks_28 : decode cX12_picks 28 = .ok (.iload_n 2, 1) := by decide +kernel
theorem dX12_picks_29 : decode cX12_picks 29 = .ok (.iconst 1, 1) := by decide +kernel
theorem dX12_picks_30 : decode cX12_picks 30 = .ok (.iadd, 1) := by decide +kernel
theorem dX12_picks_31 : decode cX12_picks 31 = .ok (.ireturn, 1) := by decide +kernel
theorem dX12_picks_32 : decode cX12_picks 32 = .ok (.iconst 0, 1) := by decide +kernel
theorem dX12_picks_33 : decode cX12_picks 33 = .ok (.istore_n 3, 1) := by decide +kernel
theorem dX12_picks_34 : decode cX12_picks 34 = .ok (.iconst 0, 1) := by decide +kernel
theorem dX12_picks_35 : decode cX12_picks 35 = .ok (.istore 4, 2) := by decide +kernel
theorem dX12_picks_37 : decode cX12_picks 37 = .ok (.iload 4, 2) := by decide +kernel
theorem dX12_picks_39 : decode cX12_picks 39 = .ok (.aload_n 0, 1) := by decide +kernel
theorem dX12_picks_40 : decode cX12_picks 40 = .ok (.invokevirtual 485, 3) := by decide +kernel
theorem dX12_picks_43 : decode cX12_picks 43 = .ok (.if_icmp .ge 177, 3) := by decide +kernel
theorem dX12_picks_46 : decode cX12_picks 46 = .ok (.iload 4, 2) := by decide +kernel
theorem dX12_picks_48 : decode cX12_picks 48 = .ok (.iconst 1, 1) := by decide +kernel
theorem dX12_picks_49 : decode cX12_picks 49 = .ok (.iadd, 1) := by decide +kernel
theorem dX12_picks_50 : decode cX12_picks 50 = .ok (.istore 5, 2) := by decide +kernel
theorem dX12_picks_52 : decode cX12_picks 52 = .ok (.iload 5, 2) := by decide +kernel
theorem dX12_picks_54 : decode cX12_picks 54 = .ok (.aload_n 0, 1) := by decide +kernel
theorem dX12_picks_55 : decode cX12_picks 55 = .ok (.invokevirtual 485, 3) := by decide +kernel
theorem dX12_picks_58 : decode cX12_picks 58 = .ok (.if_icmp .ge 156, 3) := by decide +kernel
theorem dX12_picks_61 : decode cX12_picks 61 = .ok (.aload_n 0, 1) := by decide +kernel
theorem dX12_picks_62 : decode cX12_picks 62 = .ok (.getfield 148, 3) := by decide +kernel
theorem dX12_picks_65 : decode cX12_picks 65 = .ok (.bipush 40, 2) := by decide +kernel
theorem dX12_picks_67 : decode cX12_picks 67 = .ok (.iload 4, 2) := by decide +kernel
theorem dX12_picks_69 : decode cX12_picks 69 = .ok (.imul, 1) := by decide +kernel
theorem dX12_picks_70 : decode cX12_picks 70 = .ok (.iload 5, 2) := by decide +kernel
theorem dX12_picks_72 : decode cX12_picks 72 = .ok (.iadd, 1) := by decide +kernel
theorem dX12_picks_73 : decode cX12_picks 73 = .ok (.baload, 1) := by decide +kernel
theorem dX12_picks_74 : decode cX12_picks 74 = .ok (.ifCond .ne 6, 3) := by decide +kernel
theorem dX12_picks_77 : decode cX12_picks 77 = .ok (.goto 131, 3) := by decide +kernel
theorem dX12_picks_80 : decode cX12_picks 80 = .ok (.iload_n 1, 1) := by decide +kernel
theorem dX12_picks_81 : decode cX12_picks 81 = .ok (.iconst 3, 1) := by decide +kernel
theorem dX12_picks_82 : decode cX12_picks 82 = .ok (.if_icmp .ne 34, 3) := by decide +kernel
theorem dX12_picks_85 : decode cX12_picks 85 = .ok (.aload_n 0, 1) := by decide +kernel
theorem dX12_picks_86 : decode cX12_picks 86 = .ok (.getfield 152, 3) := by decide +kernel
theorem dX12_picks_89 : decode cX12_picks 89 = .ok (.iconst 0, 1) := by decide +kernel
theorem dX12_picks_90 : decode cX12_picks 90 = .ok (.iload 4, 2) := by decide +kernel
theorem dX12_picks_92 : decode cX12_picks 92 = .ok (.iastore, 1) := by decide +kernel
theorem dX12_picks_93 : decode cX12_picks 93 = .ok (.aload_n 0, 1) := by decide +kernel
theorem dX12_picks_94 : decode cX12_picks 94 = .ok (.getfield 152, 3) := by decide +kernel
theorem dX12_picks_97 : decode cX12_picks 97 = .ok (.iconst 1, 1) := by decide +kernel
theorem dX12_picks_98 : decode cX12_picks 98 = .ok (.iload 5, 2) := by decide +kernel
theorem dX12_picks_100 : decode cX12_picks 100 = .ok (.iastore, 1) := by decide +kernel
theorem dX12_picks_101 : decode cX12_picks 101 = .ok (.iload_n 3, 1) := by decide +kernel
theorem dX12_picks_102 : decode cX12_picks 102 = .ok (.iload_n 2, 1) := by decide +kernel
theorem dX12_picks_103 : decode cX12_picks 103 = .ok (.if_icmp .ne 7, 3) := by decide +kernel
theorem dX12_picks_106 : decode cX12_picks 106 = .ok (.iload_n 3, 1) := by decide +kernel
theorem dX12_picks_107 : decode cX12_picks 107 = .ok (.iconst 1, 1) := by decide +kernel
