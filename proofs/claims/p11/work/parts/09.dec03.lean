theorem dX11_round_29 : decode cX11_round 29 = .ok (.aload_n 0, 1) := by decide +kernel
theorem dX11_round_30 : decode cX11_round 30 = .ok (.getfield 19, 3) := by decide +kernel
theorem dX11_round_33 : decode cX11_round 33 = .ok (.aload_n 0, 1) := by decide +kernel
theorem dX11_round_34 : decode cX11_round 34 = .ok (.getfield 32, 3) := by decide +kernel
theorem dX11_round_37 : decode cX11_round 37 = .ok (.getfield 156, 3) := by decide +kernel
theorem dX11_round_40 : decode cX11_round 40 = .ok (.iload_n 1, 1) := by decide +kernel
theorem dX11_round_41 : decode cX11_round 41 = .ok (.invokevirtual 308, 3) := by decide +kernel
theorem dX11_round_44 : decode cX11_round 44 = .ok (.aload_n 0, 1) := by decide +kernel
theorem dX11_round_45 : decode cX11_round 45 = .ok (.getfield 53, 3) := by decide +kernel
theorem dX11_round_48 : decode cX11_round 48 = .ok (.aload_n 0, 1) := by decide +kernel
theorem dX11_round_49 : decode cX11_round 49 = .ok (.getfield 60, 3) := by decide +kernel
theorem dX11_round_52 : decode cX11_round 52 = .ok (.iconst 0, 1) := by decide +kernel
theorem dX11_round_53 : decode cX11_round 53 = .ok (.invokevirtual 232, 3) := by decide +kernel
theorem dX11_round_56 : decode cX11_round 56 = .ok (.istore_n 2, 1) := by decide +kernel
theorem dX11_round_57 : decode cX11_round 57 = .ok (.iload_n 2, 1) := by decide +kernel
theorem dX11_round_58 : decode cX11_round 58 = .ok (.iconst (-1), 1) := by decide +kernel
theorem dX11_round_59 : decode cX11_round 59 = .ok (.if_icmp .ne 7, 3) := by decide +kernel
theorem dX11_round_62 : decode cX11_round 62 = .ok (.iconst (-1), 1) := by decide +kernel
theorem dX11_round_63 : decode cX11_round 63 = .ok (.goto 11, 3) := by decide +kernel
theorem dX11_round_66 : decode cX11_round 66 = .ok (.aload_n 0, 1) := by decide +kernel
theorem dX11_round_67 : decode cX11_round 67 = .ok (.getfield 60, 3) := by decide +kernel
theorem dX11_round_70 : decode cX11_round 70 = .ok (.iload_n 2, 1) := by decide +kernel
theorem dX11_round_71 : decode cX11_round 71 = .ok (.invokevirtual 236, 3) := by decide +kernel
theorem dX11_round_74 : decode cX11_round 74 = .ok (.ireturn, 1) := by decide +kernel
theorem dX11_make_0 : decode cX11_make 0 = .ok (.iload_n 1, 1) := by decide +kernel
theorem dX11_make_1 : decode cX11_make 1 = .ok (.invokestatic 305, 3) := by decide +kernel
theorem dX11_make_4 : decode cX11_make 4 = .ok (.ifCond .eq 23, 3) := by decide +kernel
theorem dX11_make_7 : decode cX11_make 7 = .ok (.iload_n 2, 1) := by decide +kernel
theorem dX11_make_8 : decode cX11_make 8 = .ok (.iconst 1, 1) := by decide +kernel
theorem dX11_make_9 : decode cX11_make 9 = .ok (.if_icmp .lt 18, 3) := by decide +kernel
theorem dX11_make_12 : decode cX11_make 12 = .ok (.iload_n 2, 1) := by decide +kernel
theorem dX11_make_13 : decode cX11_make 13 = .ok (.bipush 6, 2) := by decide +kernel
theorem dX11_make_15 : decode cX11_make 15 = .ok (.if_icmp .gt 12, 3) := by decide +kernel
theorem dX11_make_18 : decode cX11_make 18 = .ok (.iload_n 3, 1) := by decide +kernel
theorem dX11_make_19 : decode cX11_make 19 = .ok (.ifCond .lt 8, 3) := by decide +kernel
theorem dX11_make_22 : decode cX11_make 22 = .ok (.iload_n 3, 1) := by decide +kernel
theorem dX11_make_23 : decode cX11_make 23 = .ok (.iconst 4, 1) := by decide +kernel
theorem dX11_make_24 : decode cX11_make 24 = .ok (.if_icmp .le 5, 3) := by decide +kernel
theorem dX11_make_27 : decode cX11_make 27 = .ok (.iconst (-1), 1) := by decide +kernel
theorem dX11_make_28 : decode cX11_make 28 = .ok (.ireturn, 1) := by decide +kernel
theorem dX11_make_29 : decode cX11_make 29 = .ok (.aload_n 0, 1) := by decide +kernel
theorem dX11_make_30 : decode cX11_make 30 = .ok (.iload_n 1, 1) := by decide +kernel
theorem dX11_make_31 : decode cX11_make 31 = .ok (.iload_n 2, 1) := by decide +kernel
theorem dX11_make_32 : decode cX11_make 32 = .ok (.iload_n 3, 1) := by decide +kernel
theorem dX11_make_33 : decode cX11_make 33 = .ok (.invokevirtual 312, 3) := by decide +kernel
theorem dX11_make_36 : decode cX11_make 36 = .ok (.ifCond .ne 5, 3) := by decide +kernel
theorem dX11_make_39 : decode cX11_make 39 = .ok (.iconst 0, 1) := by decide +kernel
theorem dX11_make_40 : decode cX11_make 40 = .ok (.ireturn, 1) := by decide +kernel
theorem dX11_make_41 : decode cX11_make 41 = .ok (.aload_n 0, 1) := by decide +kernel
theorem dX11_make_42 : decode cX11_make 42 = .ok (.invokevirtual 121, 3) := by decide +kernel
theorem dX11_make_45 : decode cX11_make 45 = .ok (.iconst 1, 1) := by decide +kernel
theorem dX11_make_46 : decode cX11_make 46 = .ok (.ireturn, 1) := by decide +kernel
theorem dX11_shortest_0 : decode cX11_shortest 0 = .ok (.iload_n 1, 1) := by decide +kernel
theorem dX11_shortest_1 : decode cX11_shortest 1 = .ok (.invokestatic 305, 3) := by decide +kernel
theorem dX11_shortest_4 : decode cX11_shortest 4 = .ok (.ifCond .eq 12, 3) := by decide +kernel
theorem dX11_shortest_7 : decode cX11_shortest 7 = .ok (.iload_n 2, 1) := by decide +kernel
theorem dX11_shortest_8 : decode cX11_shortest 8 = .ok (.ifCond .lt 8, 3) := by decide +kernel
theorem dX11_shortest_11 : decode cX11_shortest 11 = .ok (.iload_n 2, 1) := by decide +kernel
theorem dX11_shortest_12 : decode cX11_shortest 12 = .ok (.iconst 4, 1) := by decide +kernel
theorem dX11_shortest_13 : decode cX11_shortest 13 = .ok (.if_icmp .le 5, 3) := by decide +kernel
theorem dX11_shortest_16 : decode cX11_shortest 16 = .ok (.iconst (-1), 1) := by decide +kernel
theorem dX11_shortest_17 : decode cX11_shortest 17 = .ok (.ireturn, 1) := by decide +kernel
theorem dX11_shortest_18 : decode cX11_shortest 18 = .ok (.iconst 2, 1) := by decide +kernel
theorem dX11_shortest_19 : decode cX11_shortest 19 = .ok (.istore_n 3, 1) := by decide +kernel
theorem dX11_shortest_20 : decode cX11_shortest 20 = .ok (.iload_n 3, 1) := by decide +kernel
theorem dX11_shortest_21 : decode cX11_shortest 21 = .ok (.bipush 6, 2) := by decide +kernel
theorem dX11_shortest_23 : decode cX11_shortest 23 = .ok (.if_icmp .gt 21, 3) := by decide +kernel
theorem dX11_shortest_26 : decode cX11_shortest 26 = .ok (.aload_n 0, 1) := by decide +kernel
theorem dX11_shortest_27 : decode cX11_shortest 27 = .ok (.iload_n 1, 1) := by decide +kernel
theorem dX11_shortest_28 : decode cX11_shortest 28 = .ok (.iload_n 3, 1) := by decide +kernel
theorem dX11_shortest_29 : decode cX11_shortest 29 = .ok (.iload_n 2, 1) := by decide +kernel
theorem dX11_shortest_30 : decode cX11_shortest 30 = .ok (.invokevirtual 312, 3) := by decide +kernel
theorem dX11_shortest_33 : decode cX11_shortest 33 = .ok (.ifCond .eq 5, 3) := by decide +kernel
theorem dX11_shortest_36 : decode cX11_shortest 36 = .ok (.iload_n 3, 1) := by decide +kernel
theorem dX11_shortest_37 : decode cX11_shortest 37 = .ok (.ireturn, 1) := by decide +kernel
theorem dX11_shortest_38 : decode cX11_shortest 38 = .ok (.iinc 3 1, 3) := by decide +kernel
theorem dX11_shortest_41 : decode cX11_shortest 41 = .ok (.goto (-21), 3) := by decide +kernel
theorem dX11_shortest_44 : decode cX11_shortest 44 = .ok (.iconst (-1), 1) := by decide +kernel
theorem dX11_shortest_45 : decode cX11_shortest 45 = .ok (.ireturn, 1) := by decide +kernel
theorem dX11_richest_0 : decode cX11_richest 0 = .ok (.iload_n 1, 1) := by decide +kernel
theorem dX11_richest_1 : decode cX11_richest 1 = .ok (.iconst 1, 1) := by decide +kernel
theorem dX11_richest_2 : decode cX11_richest 2 = .ok (.if_icmp .lt 26, 3) := by decide +kernel
theorem dX11_richest_5 : decode cX11_richest 5 = .ok (.iload_n 1, 1) := by decide +kernel
theorem dX11_richest_6 : decode cX11_richest 6 = .ok (.iconst 4, 1) := by decide +kernel
theorem dX11_richest_7 : decode cX11_richest 7 = .ok (.if_icmp .gt 21, 3) := by decide +kernel
theorem dX11_richest_10 : decode cX11_richest 10 = .ok (.iload_n 2, 1) := by decide +kernel
theorem dX11_richest_11 : decode cX11_richest 11 = .ok (.ifCond .lt 17, 3) := by decide +kernel
theorem dX11_richest_14 : decode cX11_richest 14 = .ok (.iload_n 2, 1) := by decide +kernel
theorem dX11_richest_15 : decode cX11_richest 15 = .ok (.iconst 2, 1) := by decide +kernel
theorem dX11_richest_16 : decode cX11_richest 16 = .ok (.if_icmp .gt 12, 3) := by decide +kernel
theorem dX11_richest_19 : decode cX11_richest 19 = .ok (.iload_n 3, 1) := by decide +kernel
theorem dX11_richest_20 : decode cX11_richest 20 = .ok (.ifCond .lt 8, 3) := by decide +kernel
theorem dX11_richest_23 : decode cX11_richest 23 = .ok (.iload_n 3, 1) := by decide +kernel
theorem dX11_richest_24 : decode cX11_richest 24 = .ok (.iconst 1, 1) := by decide +kernel
theorem dX11_richest_25 : decode cX11_richest 25 = .ok (.if_icmp .le 5, 3) := by decide +kernel
theorem dX11_richest_28 : decode cX11_richest 28 = .ok (.iconst (-1), 1) := by decide +kernel
theorem dX11_richest_29 : decode cX11_richest 29 = .ok (.ireturn, 1) := by decide +kernel
theorem dX11_richest_30 : decode cX11_richest 30 = .ok (.iconst (-1), 1) := by decide +kernel
theorem dX11_richest_31 : decode cX11_richest 31 = .ok (.istore 4, 2) := by decide +kernel
theorem dX11_richest_33 : decode cX11_richest 33 = .ok (.aload_n 0, 1) := by decide +kernel
theorem dX11_richest_34 : decode cX11_richest 34 = .ok (.getfield 23, 3) := by decide +kernel
theorem dX11_richest_37 : decode cX11_richest 37 = .ok (.iload_n 1, 1) := by decide +kernel
theorem dX11_richest_38 : decode cX11_richest 38 = .ok (.iload_n 2, 1) := by decide +kernel
theorem dX11_richest_39 : decode cX11_richest 39 = .ok (.invokevirtual 316, 3) := by decide +kernel
theorem dX11_richest_42 : decode cX11_richest 42 = .ok (.istore 5, 2) := by decide +kernel
theorem dX11_richest_44 : decode cX11_richest 44 = .ok (.iconst 0, 1) := by decide +kernel
theorem dX11_richest_45 : decode cX11_richest 45 = .ok (.istore 6, 2) := by decide +kernel
theorem dX11_richest_47 : decode cX11_richest 47 = .ok (.iload 5, 2) := by decide +kernel
theorem dX11_richest_49 : decode cX11_richest 49 = .ok (.ifCond .eq 74, 3) := by decide +kernel
theorem dX11_richest_52 : decode cX11_richest 52 = .ok (.iload 6, 2) := by decide +kernel
theorem dX11_richest_54 : decode cX11_richest 54 = .ok (.sipush 20000, 3) := by decide +kernel
theorem dX11_richest_57 : decode cX11_richest 57 = .ok (.if_icmp .ge 66, 3) := by decide +kernel
theorem dX11_richest_60 : decode cX11_richest 60 = .ok (.aload_n 0, 1) := by decide +kernel
theorem dX11_richest_61 : decode cX11_richest 61 = .ok (.getfield 74, 3) := by decide +kernel
theorem dX11_richest_64 : decode cX11_richest 64 = .ok (.aload_n 0, 1) := by decide +kernel
theorem dX11_richest_65 : decode cX11_richest 65 = .ok (.getfield 23, 3) := by decide +kernel
theorem dX11_richest_68 : decode cX11_richest 68 = .ok (.aload_n 0, 1) := by decide +kernel
theorem dX11_richest_69 : decode cX11_richest 69 = .ok (.getfield 32, 3) := by decide +kernel
theorem dX11_richest_72 : decode cX11_richest 72 = .ok (.aload_n 0, 1) := by decide +kernel
theorem dX11_richest_73 : decode cX11_richest 73 = .ok (.getfield 53, 3) := by decide +kernel
theorem dX11_richest_76 : decode cX11_richest 76 = .ok (.aload_n 0, 1) := by decide +kernel
theorem dX11_richest_77 : decode cX11_richest 77 = .ok (.getfield 60, 3) := by decide +kernel
theorem dX11_richest_80 : decode cX11_richest 80 = .ok (.invokevirtual 319, 3) := by decide +kernel
theorem dX11_richest_83 : decode cX11_richest 83 = .ok (.istore 7, 2) := by decide +kernel
theorem dX11_richest_85 : decode cX11_richest 85 = .ok (.iload 7, 2) := by decide +kernel
theorem dX11_richest_87 : decode cX11_richest 87 = .ok (.iload 4, 2) := by decide +kernel
theorem dX11_richest_89 : decode cX11_richest 89 = .ok (.if_icmp .le 18, 3) := by decide +kernel
theorem dX11_richest_92 : decode cX11_richest 92 = .ok (.iload 7, 2) := by decide +kernel
theorem dX11_richest_94 : decode cX11_richest 94 = .ok (.istore 4, 2) := by decide +kernel
theorem dX11_richest_96 : decode cX11_richest 96 = .ok (.aload_n 0, 1) := by decide +kernel
theorem dX11_richest_97 : decode cX11_richest 97 = .ok (.getfield 26, 3) := by decide +kernel
theorem dX11_richest_100 : decode cX11_richest 100 = .ok (.aload_n 0, 1) := by decide +kernel
theorem dX11_richest_101 : decode cX11_richest 101 = .ok (.getfield 23, 3) := by decide +kernel
theorem dX11_richest_104 : decode cX11_richest 104 = .ok (.invokevirtual 323, 3) := by decide +kernel
theorem dX11_richest_107 : decode cX11_richest 107 = .ok (.aload_n 0, 1) := by decide +kernel
theorem dX11_richest_108 : decode cX11_richest 108 = .ok (.getfield 23, 3) := by decide +kernel
theorem dX11_richest_111 : decode cX11_richest 111 = .ok (.iload_n 2, 1) := by decide +kernel
theorem dX11_richest_112 : decode cX11_richest 112 = .ok (.invokevirtual 327, 3) := by decide +kernel
theorem dX11_richest_115 : decode cX11_richest 115 = .ok (.istore 5, 2) := by decide +kernel
theorem dX11_richest_117 : decode cX11_richest 117 = .ok (.iinc 6 1, 3) := by decide +kernel
theorem dX11_richest_120 : decode cX11_richest 120 = .ok (.goto (-73), 3) := by decide +kernel
theorem dX11_richest_123 : decode cX11_richest 123 = .ok (.aload_n 0, 1) := by decide +kernel
theorem dX11_richest_124 : decode cX11_richest 124 = .ok (.invokevirtual 131, 3) := by decide +kernel
theorem dX11_richest_127 : decode cX11_richest 127 = .ok (.iload 4, 2) := by decide +kernel
theorem dX11_richest_129 : decode cX11_richest 129 = .ok (.iconst (-1), 1) := by decide +kernel
theorem dX11_richest_130 : decode cX11_richest 130 = .ok (.if_icmp .eq 7, 3) := by decide +kernel
theorem dX11_richest_133 : decode cX11_richest 133 = .ok (.iload_n 3, 1) := by decide +kernel
theorem dX11_richest_134 : decode cX11_richest 134 = .ok (.ifCond .ne 6, 3) := by decide +kernel
theorem dX11_richest_137 : decode cX11_richest 137 = .ok (.iload 4, 2) := by decide +kernel
theorem dX11_richest_139 : decode cX11_richest 139 = .ok (.ireturn, 1) := by decide +kernel
theorem dX11_richest_140 : decode cX11_richest 140 = .ok (.aload_n 0, 1) := by decide +kernel
theorem dX11_richest_141 : decode cX11_richest 141 = .ok (.getfield 23, 3) := by decide +kernel
theorem dX11_richest_144 : decode cX11_richest 144 = .ok (.aload_n 0, 1) := by decide +kernel
theorem dX11_richest_145 : decode cX11_richest 145 = .ok (.getfield 26, 3) := by decide +kernel
theorem dX11_richest_148 : decode cX11_richest 148 = .ok (.invokevirtual 323, 3) := by decide +kernel
theorem dX11_richest_151 : decode cX11_richest 151 = .ok (.aload_n 0, 1) := by decide +kernel
theorem dX11_richest_152 : decode cX11_richest 152 = .ok (.invokevirtual 121, 3) := by decide +kernel
theorem dX11_richest_155 : decode cX11_richest 155 = .ok (.iload_n 1, 1) := by decide +kernel
theorem dX11_richest_156 : decode cX11_richest 156 = .ok (.ireturn, 1) := by decide +kernel
theorem dX11_wrong_0 : decode cX11_wrong 0 = .ok (.iload_n 2, 1) := by decide +kernel
theorem dX11_wrong_1 : decode cX11_wrong 1 = .ok (.iconst (-1), 1) := by decide +kernel
theorem dX11_wrong_2 : decode cX11_wrong 2 = .ok (.if_icmp .lt 11, 3) := by decide +kernel
theorem dX11_wrong_5 : decode cX11_wrong 5 = .ok (.aload_n 0, 1) := by decide +kernel
theorem dX11_wrong_6 : decode cX11_wrong 6 = .ok (.iload_n 1, 1) := by decide +kernel
theorem dX11_wrong_7 : decode cX11_wrong 7 = .ok (.invokevirtual 330, 3) := by decide +kernel
theorem dX11_wrong_10 : decode cX11_wrong 10 = .ok (.ifCond .ne 5, 3) := by decide +kernel
theorem dX11_wrong_13 : decode cX11_wrong 13 = .ok (.iconst (-1), 1) := by decide +kernel
theorem dX11_wrong_14 : decode cX11_wrong 14 = .ok (.ireturn, 1) := by decide +kernel
theorem dX11_wrong_15 : decode cX11_wrong 15 = .ok (.iload_n 2, 1) := by decide +kernel
theorem dX11_wrong_16 : decode cX11_wrong 16 = .ok (.iconst (-1), 1) := by decide +kernel
theorem dX11_wrong_17 : decode cX11_wrong 17 = .ok (.if_icmp .ne 8, 3) := by decide +kernel
theorem dX11_wrong_20 : decode cX11_wrong 20 = .ok (.aload_n 0, 1) := by decide +kernel
theorem dX11_wrong_21 : decode cX11_wrong 21 = .ok (.getfield 333, 3) := by decide +kernel
theorem dX11_wrong_24 : decode cX11_wrong 24 = .ok (.ireturn, 1) := by decide +kernel
theorem dX11_wrong_25 : decode cX11_wrong 25 = .ok (.iload_n 2, 1) := by decide +kernel
theorem dX11_wrong_26 : decode cX11_wrong 26 = .ok (.aload_n 0, 1) := by decide +kernel
theorem dX11_wrong_27 : decode cX11_wrong 27 = .ok (.getfield 333, 3) := by decide +kernel
theorem dX11_wrong_30 : decode cX11_wrong 30 = .ok (.if_icmp .ge 21, 3) := by decide +kernel
theorem dX11_wrong_33 : decode cX11_wrong 33 = .ok (.iload_n 2, 1) := by decide +kernel
theorem dX11_wrong_34 : decode cX11_wrong 34 = .ok (.aload_n 0, 1) := by decide +kernel
theorem dX11_wrong_35 : decode cX11_wrong 35 = .ok (.getfield 96, 3) := by decide +kernel
theorem dX11_wrong_38 : decode cX11_wrong 38 = .ok (.arraylength, 1) := by decide +kernel
theorem dX11_wrong_39 : decode cX11_wrong 39 = .ok (.if_icmp .ge 12, 3) := by decide +kernel
theorem dX11_wrong_42 : decode cX11_wrong 42 = .ok (.aload_n 0, 1) := by decide +kernel
theorem dX11_wrong_43 : decode cX11_wrong 43 = .ok (.getfield 96, 3) := by decide +kernel
theorem dX11_wrong_46 : decode cX11_wrong 46 = .ok (.iload_n 2, 1) := by decide +kernel
theorem dX11_wrong_47 : decode cX11_wrong 47 = .ok (.iaload, 1) := by decide +kernel
theorem dX11_wrong_48 : decode cX11_wrong 48 = .ok (.goto 4, 3) := by decide +kernel
theorem dX11_wrong_51 : decode cX11_wrong 51 = .ok (.iconst (-1), 1) := by decide +kernel
theorem dX11_wrong_52 : decode cX11_wrong 52 = .ok (.ireturn, 1) := by decide +kernel
theorem dX11_change_0 : decode cX11_change 0 = .ok (.iload_n 1, 1) := by decide +kernel
theorem dX11_change_1 : decode cX11_change 1 = .ok (.ifCond .lt 24, 3) := by decide +kernel
theorem dX11_change_4 : decode cX11_change 4 = .ok (.iload_n 1, 1) := by decide +kernel
theorem dX11_change_5 : decode cX11_change 5 = .ok (.aload_n 0, 1) := by decide +kernel
theorem dX11_change_6 : decode cX11_change 6 = .ok (.getfield 19, 3) := by decide +kernel
theorem dX11_change_9 : decode cX11_change 9 = .ok (.getfield 140, 3) := by decide +kernel
theorem dX11_change_12 : decode cX11_change 12 = .ok (.if_icmp .ge 13, 3) := by decide +kernel
theorem dX11_change_15 : decode cX11_change 15 = .ok (.iload_n 2, 1) := by decide +kernel
theorem dX11_change_16 : decode cX11_change 16 = .ok (.ifCond .lt 9, 3) := by decide +kernel
theorem dX11_change_19 : decode cX11_change 19 = .ok (.iload_n 2, 1) := by decide +kernel
theorem dX11_change_20 : decode cX11_change 20 = .ok (.bipush 28, 2) := by decide +kernel
theorem dX11_change_22 : decode cX11_change 22 = .ok (.if_icmp .le 5, 3) := by decide +kernel
theorem dX11_change_25 : decode cX11_change 25 = .ok (.iconst (-1), 1) := by decide +kernel
theorem dX11_change_26 : decode cX11_change 26 = .ok (.ireturn, 1) := by decide +kernel
theorem dX11_change_27 : decode cX11_change 27 = .ok (.aload_n 0, 1) := by decide +kernel
theorem dX11_change_28 : decode cX11_change 28 = .ok (.getfield 19, 3) := by decide +kernel
theorem dX11_change_31 : decode cX11_change 31 = .ok (.iload_n 1, 1) := by decide +kernel
theorem dX11_change_32 : decode cX11_change 32 = .ok (.invokevirtual 175, 3) := by decide +kernel
theorem dX11_change_35 : decode cX11_change 35 = .ok (.istore_n 3, 1) := by decide +kernel
theorem dX11_change_36 : decode cX11_change 36 = .ok (.aload_n 0, 1) := by decide +kernel
theorem dX11_change_37 : decode cX11_change 37 = .ok (.getfield 19, 3) := by decide +kernel
theorem dX11_change_40 : decode cX11_change 40 = .ok (.iload_n 1, 1) := by decide +kernel
theorem dX11_change_41 : decode cX11_change 41 = .ok (.iload_n 2, 1) := by decide +kernel
theorem dX11_change_42 : decode cX11_change 42 = .ok (.invokevirtual 336, 3) := by decide +kernel
theorem dX11_change_45 : decode cX11_change 45 = .ok (.aload_n 0, 1) := by decide +kernel
theorem dX11_change_46 : decode cX11_change 46 = .ok (.invokevirtual 131, 3) := by decide +kernel
theorem dX11_change_49 : decode cX11_change 49 = .ok (.iload_n 3, 1) := by decide +kernel
theorem dX11_change_50 : decode cX11_change 50 = .ok (.iconst (-1), 1) := by decide +kernel
theorem dX11_change_51 : decode cX11_change 51 = .ok (.if_icmp .ne 8, 3) := by decide +kernel
theorem dX11_change_54 : decode cX11_change 54 = .ok (.bipush (-2), 2) := by decide +kernel
theorem dX11_change_56 : decode cX11_change 56 = .ok (.goto 4, 3) := by decide +kernel
theorem dX11_change_59 : decode cX11_change 59 = .ok (.iload_n 3, 1) := by decide +kernel
theorem dX11_change_60 : decode cX11_change 60 = .ok (.ireturn, 1) := by decide +kernel
theorem dX11_draw_0 : decode cX11_draw 0 = .ok (.iload_n 1, 1) := by decide +kernel
theorem dX11_draw_1 : decode cX11_draw 1 = .ok (.iconst 1, 1) := by decide +kernel
theorem dX11_draw_2 : decode cX11_draw 2 = .ok (.if_icmp .lt 19, 3) := by decide +kernel
theorem dX11_draw_5 : decode cX11_draw 5 = .ok (.iload_n 1, 1) := by decide +kernel
theorem dX11_draw_6 : decode cX11_draw 6 = .ok (.bipush 24, 2) := by decide +kernel
theorem dX11_draw_8 : decode cX11_draw 8 = .ok (.if_icmp .gt 13, 3) := by decide +kernel
theorem dX11_draw_11 : decode cX11_draw 11 = .ok (.iload_n 2, 1) := by decide +kernel
theorem dX11_draw_12 : decode cX11_draw 12 = .ok (.ifCond .lt 9, 3) := by decide +kernel
theorem dX11_draw_15 : decode cX11_draw 15 = .ok (.iload_n 2, 1) := by decide +kernel
theorem dX11_draw_16 : decode cX11_draw 16 = .ok (.bipush 28, 2) := by decide +kernel
theorem dX11_draw_18 : decode cX11_draw 18 = .ok (.if_icmp .le 5, 3) := by decide +kernel
theorem dX11_draw_21 : decode cX11_draw 21 = .ok (.iconst (-1), 1) := by decide +kernel
theorem dX11_draw_22 : decode cX11_draw 22 = .ok (.ireturn, 1) := by decide +kernel
theorem dX11_draw_23 : decode cX11_draw 23 = .ok (.aload_n 0, 1) := by decide +kernel
theorem dX11_draw_24 : decode cX11_draw 24 = .ok (.getfield 19, 3) := by decide +kernel
theorem dX11_draw_27 : decode cX11_draw 27 = .ok (.invokevirtual 340, 3) := by decide +kernel
theorem dX11_draw_30 : decode cX11_draw 30 = .ok (.iload_n 3, 1) := by decide +kernel
theorem dX11_draw_31 : decode cX11_draw 31 = .ok (.istore 4, 2) := by decide +kernel
theorem dX11_draw_33 : decode cX11_draw 33 = .ok (.iconst 0, 1) := by decide +kernel
theorem dX11_draw_34 : decode cX11_draw 34 = .ok (.istore 5, 2) := by decide +kernel
theorem dX11_draw_36 : decode cX11_draw 36 = .ok (.iload 5, 2) := by decide +kernel
theorem dX11_draw_38 : decode cX11_draw 38 = .ok (.iload_n 1, 1) := by decide +kernel
theorem dX11_draw_39 : decode cX11_draw 39 = .ok (.if_icmp .ge 73, 3) := by decide +kernel
theorem dX11_draw_42 : decode cX11_draw 42 = .ok (.iload 4, 2) := by decide +kernel
theorem dX11_draw_44 : decode cX11_draw 44 = .ok (.invokestatic 343, 3) := by decide +kernel
theorem dX11_draw_47 : decode cX11_draw 47 = .ok (.istore 4, 2) := by decide +kernel
theorem dX11_draw_49 : decode cX11_draw 49 = .ok (.iload 4, 2) := by decide +kernel
theorem dX11_draw_51 : decode cX11_draw 51 = .ok (.bipush 64, 2) := by decide +kernel
theorem dX11_draw_53 : decode cX11_draw 53 = .ok (.idiv, 1) := by decide +kernel
theorem dX11_draw_54 : decode cX11_draw 54 = .ok (.iload_n 2, 1) := by decide +kernel
theorem dX11_draw_55 : decode cX11_draw 55 = .ok (.iconst 1, 1) := by decide +kernel
theorem dX11_draw_56 : decode cX11_draw 56 = .ok (.iadd, 1) := by decide +kernel
theorem dX11_draw_57 : decode cX11_draw 57 = .ok (.irem, 1) := by decide +kernel
theorem dX11_draw_58 : decode cX11_draw 58 = .ok (.istore 6, 2) := by decide +kernel
theorem dX11_draw_60 : decode cX11_draw 60 = .ok (.iload 4, 2) := by decide +kernel
theorem dX11_draw_62 : decode cX11_draw 62 = .ok (.invokestatic 343, 3) := by decide +kernel
theorem dX11_draw_65 : decode cX11_draw 65 = .ok (.istore 4, 2) := by decide +kernel
theorem dX11_draw_67 : decode cX11_draw 67 = .ok (.iload 4, 2) := by decide +kernel
theorem dX11_draw_69 : decode cX11_draw 69 = .ok (.bipush 64, 2) := by decide +kernel
theorem dX11_draw_71 : decode cX11_draw 71 = .ok (.idiv, 1) := by decide +kernel
theorem dX11_draw_72 : decode cX11_draw 72 = .ok (.iconst 4, 1) := by decide +kernel
theorem dX11_draw_73 : decode cX11_draw 73 = .ok (.irem, 1) := by decide +kernel
theorem dX11_draw_74 : decode cX11_draw 74 = .ok (.istore 7, 2) := by decide +kernel
theorem dX11_draw_76 : decode cX11_draw 76 = .ok (.aload_n 0, 1) := by decide +kernel
theorem dX11_draw_77 : decode cX11_draw 77 = .ok (.getfield 19, 3) := by decide +kernel
theorem dX11_draw_80 : decode cX11_draw 80 = .ok (.iload 6, 2) := by decide +kernel
theorem dX11_draw_82 : decode cX11_draw 82 = .ok (.iload 7, 2) := by decide +kernel
theorem dX11_draw_84 : decode cX11_draw 84 = .ok (.ifCond .ne 7, 3) := by decide +kernel
theorem dX11_draw_87 : decode cX11_draw 87 = .ok (.iconst 1, 1) := by decide +kernel
theorem dX11_draw_88 : decode cX11_draw 88 = .ok (.goto 14, 3) := by decide +kernel
theorem dX11_draw_91 : decode cX11_draw 91 = .ok (.iload 7, 2) := by decide +kernel
theorem dX11_draw_93 : decode cX11_draw 93 = .ok (.iconst 3, 1) := by decide +kernel
theorem dX11_draw_94 : decode cX11_draw 94 = .ok (.if_icmp .ne 7, 3) := by decide +kernel
theorem dX11_draw_97 : decode cX11_draw 97 = .ok (.iconst 4, 1) := by decide +kernel
theorem dX11_draw_98 : decode cX11_draw 98 = .ok (.goto 4, 3) := by decide +kernel
theorem dX11_draw_101 : decode cX11_draw 101 = .ok (.iconst 2, 1) := by decide +kernel
theorem dX11_draw_102 : decode cX11_draw 102 = .ok (.invokevirtual 346, 3) := by decide +kernel
theorem dX11_draw_105 : decode cX11_draw 105 = .ok (.pop, 1) := by decide +kernel
theorem dX11_draw_106 : decode cX11_draw 106 = .ok (.iinc 5 1, 3) := by decide +kernel
theorem dX11_draw_109 : decode cX11_draw 109 = .ok (.goto (-73), 3) := by decide +kernel
theorem dX11_draw_112 : decode cX11_draw 112 = .ok (.aload_n 0, 1) := by decide +kernel
theorem dX11_draw_113 : decode cX11_draw 113 = .ok (.invokevirtual 131, 3) := by decide +kernel
theorem dX11_draw_116 : decode cX11_draw 116 = .ok (.aload_n 0, 1) := by decide +kernel
theorem dX11_draw_117 : decode cX11_draw 117 = .ok (.getfield 19, 3) := by decide +kernel
theorem dX11_draw_120 : decode cX11_draw 120 = .ok (.getfield 147, 3) := by decide +kernel
theorem dX11_draw_123 : decode cX11_draw 123 = .ok (.ireturn, 1) := by decide +kernel
theorem dX11_image_0 : decode cX11_image 0 = .ok (.aload_n 0, 1) := by decide +kernel
theorem dX11_image_1 : decode cX11_image 1 = .ok (.getfield 92, 3) := by decide +kernel
theorem dX11_image_4 : decode cX11_image 4 = .ok (.iconst 0, 1) := by decide +kernel
theorem dX11_image_5 : decode cX11_image 5 = .ok (.aload_n 0, 1) := by decide +kernel
theorem dX11_image_6 : decode cX11_image 6 = .ok (.getfield 19, 3) := by decide +kernel
theorem dX11_image_9 : decode cX11_image 9 = .ok (.getfield 140, 3) := by decide +kernel
theorem dX11_image_12 : decode cX11_image 12 = .ok (.iastore, 1) := by decide +kernel
theorem dX11_image_13 : decode cX11_image 13 = .ok (.aload_n 0, 1) := by decide +kernel
theorem dX11_image_14 : decode cX11_image 14 = .ok (.iconst 1, 1) := by decide +kernel
theorem dX11_image_15 : decode cX11_image 15 = .ok (.putfield 349, 3) := by decide +kernel
theorem dX11_image_18 : decode cX11_image 18 = .ok (.iconst 0, 1) := by decide +kernel
theorem dX11_image_19 : decode cX11_image 19 = .ok (.istore_n 1, 1) := by decide +kernel
theorem dX11_image_20 : decode cX11_image 20 = .ok (.iload_n 1, 1) := by decide +kernel
theorem dX11_image_21 : decode cX11_image 21 = .ok (.aload_n 0, 1) := by decide +kernel
theorem dX11_image_22 : decode cX11_image 22 = .ok (.getfield 19, 3) := by decide +kernel
theorem dX11_image_25 : decode cX11_image 25 = .ok (.getfield 140, 3) := by decide +kernel
theorem dX11_image_28 : decode cX11_image 28 = .ok (.if_icmp .ge 82, 3) := by decide +kernel
theorem dX11_image_31 : decode cX11_image 31 = .ok (.aload_n 0, 1) := by decide +kernel
theorem dX11_image_32 : decode cX11_image 32 = .ok (.getfield 349, 3) := by decide +kernel
theorem dX11_image_35 : decode cX11_image 35 = .ok (.iconst 2, 1) := by decide +kernel
theorem dX11_image_36 : decode cX11_image 36 = .ok (.iadd, 1) := by decide +kernel
theorem dX11_image_37 : decode cX11_image 37 = .ok (.aload_n 0, 1) := by decide +kernel
theorem dX11_image_38 : decode cX11_image 38 = .ok (.getfield 92, 3) := by decide +kernel
theorem dX11_image_41 : decode cX11_image 41 = .ok (.arraylength, 1) := by decide +kernel
theorem dX11_image_42 : decode cX11_image 42 = .ok (.if_icmp .ge 68, 3) := by decide +kernel
theorem dX11_image_45 : decode cX11_image 45 = .ok (.aload_n 0, 1) := by decide +kernel
theorem dX11_image_46 : decode cX11_image 46 = .ok (.getfield 19, 3) := by decide +kernel
theorem dX11_image_49 : decode cX11_image 49 = .ok (.iload_n 1, 1) := by decide +kernel
theorem dX11_image_50 : decode cX11_image 50 = .ok (.invokevirtual 175, 3) := by decide +kernel
theorem dX11_image_53 : decode cX11_image 53 = .ok (.istore_n 2, 1) := by decide +kernel
theorem dX11_image_54 : decode cX11_image 54 = .ok (.aload_n 0, 1) := by decide +kernel
theorem dX11_image_55 : decode cX11_image 55 = .ok (.getfield 92, 3) := by decide +kernel
theorem dX11_image_58 : decode cX11_image 58 = .ok (.aload_n 0, 1) := by decide +kernel
theorem dX11_image_59 : decode cX11_image 59 = .ok (.getfield 349, 3) := by decide +kernel
theorem dX11_image_62 : decode cX11_image 62 = .ok (.iload_n 2, 1) := by decide +kernel
theorem dX11_image_63 : decode cX11_image 63 = .ok (.iconst (-1), 1) := by decide +kernel
theorem dX11_image_64 : decode cX11_image 64 = .ok (.if_icmp .ne 9, 3) := by decide +kernel
theorem dX11_image_67 : decode cX11_image 67 = .ok (.sipush 255, 3) := by decide +kernel
theorem dX11_image_70 : decode cX11_image 70 = .ok (.goto 4, 3) := by decide +kernel
theorem dX11_image_73 : decode cX11_image 73 = .ok (.iload_n 2, 1) := by decide +kernel
theorem dX11_image_74 : decode cX11_image 74 = .ok (.iastore, 1) := by decide +kernel
theorem dX11_image_75 : decode cX11_image 75 = .ok (.aload_n 0, 1) := by decide +kernel
theorem dX11_image_76 : decode cX11_image 76 = .ok (.getfield 92, 3) := by decide +kernel
theorem dX11_image_79 : decode cX11_image 79 = .ok (.aload_n 0, 1) := by decide +kernel
theorem dX11_image_80 : decode cX11_image 80 = .ok (.getfield 349, 3) := by decide +kernel
theorem dX11_image_83 : decode cX11_image 83 = .ok (.iconst 1, 1) := by decide +kernel
theorem dX11_image_84 : decode cX11_image 84 = .ok (.iadd, 1) := by decide +kernel
theorem dX11_image_85 : decode cX11_image 85 = .ok (.aload_n 0, 1) := by decide +kernel
theorem dX11_image_86 : decode cX11_image 86 = .ok (.getfield 19, 3) := by decide +kernel
theorem dX11_image_89 : decode cX11_image 89 = .ok (.iload_n 1, 1) := by decide +kernel
theorem dX11_image_90 : decode cX11_image 90 = .ok (.invokevirtual 179, 3) := by decide +kernel
theorem dX11_image_93 : decode cX11_image 93 = .ok (.iastore, 1) := by decide +kernel
theorem dX11_image_94 : decode cX11_image 94 = .ok (.aload_n 0, 1) := by decide +kernel
theorem dX11_image_95 : decode cX11_image 95 = .ok (.dup, 1) := by decide +kernel
theorem dX11_image_96 : decode cX11_image 96 = .ok (.getfield 349, 3) := by decide +kernel
theorem dX11_image_99 : decode cX11_image 99 = .ok (.iconst 2, 1) := by decide +kernel
theorem dX11_image_100 : decode cX11_image 100 = .ok (.iadd, 1) := by decide +kernel
theorem dX11_image_101 : decode cX11_image 101 = .ok (.putfield 349, 3) := by decide +kernel
theorem dX11_image_104 : decode cX11_image 104 = .ok (.iinc 1 1, 3) := by decide +kernel
theorem dX11_image_107 : decode cX11_image 107 = .ok (.goto (-87), 3) := by decide +kernel
theorem dX11_image_110 : decode cX11_image 110 = .ok (.bipush 23, 2) := by decide +kernel
theorem dX11_image_112 : decode cX11_image 112 = .ok (.istore_n 1, 1) := by decide +kernel
theorem dX11_image_113 : decode cX11_image 113 = .ok (.iconst 0, 1) := by decide +kernel
theorem dX11_image_114 : decode cX11_image 114 = .ok (.istore_n 2, 1) := by decide +kernel
theorem dX11_image_115 : decode cX11_image 115 = .ok (.iload_n 2, 1) := by decide +kernel
theorem dX11_image_116 : decode cX11_image 116 = .ok (.aload_n 0, 1) := by decide +kernel
theorem dX11_image_117 : decode cX11_image 117 = .ok (.getfield 349, 3) := by decide +kernel
theorem dX11_image_120 : decode cX11_image 120 = .ok (.if_icmp .ge 20, 3) := by decide +kernel
theorem dX11_image_123 : decode cX11_image 123 = .ok (.iload_n 1, 1) := by decide +kernel
theorem dX11_image_124 : decode cX11_image 124 = .ok (.aload_n 0, 1) := by decide +kernel
theorem dX11_image_125 : decode cX11_image 125 = .ok (.getfield 92, 3) := by decide +kernel
theorem dX11_image_128 : decode cX11_image 128 = .ok (.iload_n 2, 1) := by decide +kernel
theorem dX11_image_129 : decode cX11_image 129 = .ok (.iaload, 1) := by decide +kernel
theorem dX11_image_130 : decode cX11_image 130 = .ok (.invokestatic 352, 3) := by decide +kernel
theorem dX11_image_133 : decode cX11_image 133 = .ok (.istore_n 1, 1) := by decide +kernel
theorem dX11_image_134 : decode cX11_image 134 = .ok (.iinc 2 1, 3) := by decide +kernel
theorem dX11_image_137 : decode cX11_image 137 = .ok (.goto (-22), 3) := by decide +kernel
theorem dX11_image_140 : decode cX11_image 140 = .ok (.aload_n 0, 1) := by decide +kernel
theorem dX11_image_141 : decode cX11_image 141 = .ok (.getfield 92, 3) := by decide +kernel
theorem dX11_image_144 : decode cX11_image 144 = .ok (.aload_n 0, 1) := by decide +kernel
theorem dX11_image_145 : decode cX11_image 145 = .ok (.getfield 349, 3) := by decide +kernel
theorem dX11_image_148 : decode cX11_image 148 = .ok (.iload_n 1, 1) := by decide +kernel
theorem dX11_image_149 : decode cX11_image 149 = .ok (.iastore, 1) := by decide +kernel
theorem dX11_image_150 : decode cX11_image 150 = .ok (.aload_n 0, 1) := by decide +kernel
theorem dX11_image_151 : decode cX11_image 151 = .ok (.dup, 1) := by decide +kernel
theorem dX11_image_152 : decode cX11_image 152 = .ok (.getfield 349, 3) := by decide +kernel
theorem dX11_image_155 : decode cX11_image 155 = .ok (.iconst 1, 1) := by decide +kernel
theorem dX11_image_156 : decode cX11_image 156 = .ok (.iadd, 1) := by decide +kernel
theorem dX11_image_157 : decode cX11_image 157 = .ok (.putfield 349, 3) := by decide +kernel
theorem dX11_image_160 : decode cX11_image 160 = .ok (.aload_n 0, 1) := by decide +kernel
theorem dX11_image_161 : decode cX11_image 161 = .ok (.getfield 349, 3) := by decide +kernel
theorem dX11_image_164 : decode cX11_image 164 = .ok (.ireturn, 1) := by decide +kernel
theorem dX11_octet_0 : decode cX11_octet 0 = .ok (.iload_n 1, 1) := by decide +kernel
theorem dX11_octet_1 : decode cX11_octet 1 = .ok (.ifCond .lt 29, 3) := by decide +kernel
theorem dX11_octet_4 : decode cX11_octet 4 = .ok (.iload_n 1, 1) := by decide +kernel
theorem dX11_octet_5 : decode cX11_octet 5 = .ok (.aload_n 0, 1) := by decide +kernel
theorem dX11_octet_6 : decode cX11_octet 6 = .ok (.getfield 349, 3) := by decide +kernel
theorem dX11_octet_9 : decode cX11_octet 9 = .ok (.if_icmp .ge 21, 3) := by decide +kernel
theorem dX11_octet_12 : decode cX11_octet 12 = .ok (.iload_n 1, 1) := by decide +kernel
theorem dX11_octet_13 : decode cX11_octet 13 = .ok (.aload_n 0, 1) := by decide +kernel
theorem dX11_octet_14 : decode cX11_octet 14 = .ok (.getfield 92, 3) := by decide +kernel
theorem dX11_octet_17 : decode cX11_octet 17 = .ok (.arraylength, 1) := by decide +kernel
theorem dX11_octet_18 : decode cX11_octet 18 = .ok (.if_icmp .ge 12, 3) := by decide +kernel
theorem dX11_octet_21 : decode cX11_octet 21 = .ok (.aload_n 0, 1) := by decide +kernel
theorem dX11_octet_22 : decode cX11_octet 22 = .ok (.getfield 92, 3) := by decide +kernel
theorem dX11_octet_25 : decode cX11_octet 25 = .ok (.iload_n 1, 1) := by decide +kernel
theorem dX11_octet_26 : decode cX11_octet 26 = .ok (.iaload, 1) := by decide +kernel
theorem dX11_octet_27 : decode cX11_octet 27 = .ok (.goto 4, 3) := by decide +kernel
theorem dX11_octet_30 : decode cX11_octet 30 = .ok (.iconst (-1), 1) := by decide +kernel
theorem dX11_octet_31 : decode cX11_octet 31 = .ok (.ireturn, 1) := by decide +kernel
theorem dX11_on_0 : decode cX11_on 0 = .ok (.aload_n 0, 1) := by decide +kernel
theorem dX11_on_1 : decode cX11_on 1 = .ok (.invokevirtual 355, 3) := by decide +kernel
theorem dX11_on_4 : decode cX11_on 4 = .ok (.istore_n 1, 1) := by decide +kernel
theorem dX11_on_5 : decode cX11_on 5 = .ok (.aload_n 0, 1) := by decide +kernel
theorem dX11_on_6 : decode cX11_on 6 = .ok (.getfield 10, 3) := by decide +kernel
theorem dX11_on_9 : decode cX11_on 9 = .ok (.iconst 0, 1) := by decide +kernel
theorem dX11_on_10 : decode cX11_on 10 = .ok (.invokevirtual 114, 3) := by decide +kernel
theorem dX11_on_13 : decode cX11_on 13 = .ok (.pop, 1) := by decide +kernel
theorem dX11_on_14 : decode cX11_on 14 = .ok (.iload_n 1, 1) := by decide +kernel
theorem dX11_on_15 : decode cX11_on 15 = .ok (.ifCond .eq 7, 3) := by decide +kernel
theorem dX11_on_18 : decode cX11_on 18 = .ok (.aload_n 0, 1) := by decide +kernel
theorem dX11_on_19 : decode cX11_on 19 = .ok (.invokevirtual 121, 3) := by decide +kernel
theorem dX11_on_22 : decode cX11_on 22 = .ok (.iload_n 1, 1) := by decide +kernel
theorem dX11_on_23 : decode cX11_on 23 = .ok (.ireturn, 1) := by decide +kernel
theorem dX11_isCode_0 : decode cX11_isCode 0 = .ok (.iload_n 0, 1) := by decide +kernel
theorem dX11_isCode_1 : decode cX11_isCode 1 = .ok (.ifCond .lt 14, 3) := by decide +kernel
theorem dX11_isCode_4 : decode cX11_isCode 4 = .ok (.iload_n 0, 1) := by decide +kernel
theorem dX11_isCode_5 : decode cX11_isCode 5 = .ok (.sipush 4500, 3) := by decide +kernel
theorem dX11_isCode_8 : decode cX11_isCode 8 = .ok (.if_icmp .ge 7, 3) := by decide +kernel
theorem dX11_isCode_11 : decode cX11_isCode 11 = .ok (.iconst 1, 1) := by decide +kernel
theorem dX11_isCode_12 : decode cX11_isCode 12 = .ok (.goto 4, 3) := by decide +kernel
theorem dX11_isCode_15 : decode cX11_isCode 15 = .ok (.iconst 0, 1) := by decide +kernel
theorem dX11_isCode_16 : decode cX11_isCode 16 = .ok (.ireturn, 1) := by decide +kernel
theorem dX11_follows_0 : decode cX11_follows 0 = .ok (.iload_n 0, 1) := by decide +kernel
theorem dX11_follows_1 : decode cX11_follows 1 = .ok (.invokestatic 192, 3) := by decide +kernel
theorem dX11_follows_4 : decode cX11_follows 4 = .ok (.ifCond .eq 13, 3) := by decide +kernel
theorem dX11_follows_7 : decode cX11_follows 7 = .ok (.iload_n 0, 1) := by decide +kernel
theorem dX11_follows_8 : decode cX11_follows 8 = .ok (.bipush 84, 2) := by decide +kernel
theorem dX11_follows_10 : decode cX11_follows 10 = .ok (.if_icmp .eq 7, 3) := by decide +kernel
theorem dX11_follows_13 : decode cX11_follows 13 = .ok (.iconst 1, 1) := by decide +kernel
theorem dX11_follows_14 : decode cX11_follows 14 = .ok (.goto 4, 3) := by decide +kernel
theorem dX11_follows_17 : decode cX11_follows 17 = .ok (.iconst 0, 1) := by decide +kernel
theorem dX11_follows_18 : decode cX11_follows 18 = .ok (.ireturn, 1) := by decide +kernel
theorem dX11_codeOf_0 : decode cX11_codeOf 0 = .ok (.iload_n 0, 1) := by decide +kernel
theorem dX11_codeOf_1 : decode cX11_codeOf 1 = .ok (.bipush 15, 2) := by decide +kernel
theorem dX11_codeOf_3 : decode cX11_codeOf 3 = .ok (.imul, 1) := by decide +kernel
theorem dX11_codeOf_4 : decode cX11_codeOf 4 = .ok (.iload_n 1, 1) := by decide +kernel
theorem dX11_codeOf_5 : decode cX11_codeOf 5 = .ok (.iadd, 1) := by decide +kernel
theorem dX11_codeOf_6 : decode cX11_codeOf 6 = .ok (.bipush 7, 2) := by decide +kernel
theorem dX11_codeOf_8 : decode cX11_codeOf 8 = .ok (.iadd, 1) := by decide +kernel
theorem dX11_codeOf_9 : decode cX11_codeOf 9 = .ok (.bipush 12, 2) := by decide +kernel
theorem dX11_codeOf_11 : decode cX11_codeOf 11 = .ok (.imul, 1) := by decide +kernel
theorem dX11_codeOf_12 : decode cX11_codeOf 12 = .ok (.iload_n 2, 1) := by decide +kernel
theorem dX11_codeOf_13 : decode cX11_codeOf 13 = .ok (.iadd, 1) := by decide +kernel
theorem dX11_codeOf_14 : decode cX11_codeOf 14 = .ok (.ireturn, 1) := by decide +kernel
theorem dX11_canBe_0 : decode cX11_canBe 0 = .ok (.iload_n 1, 1) := by decide +kernel
theorem dX11_canBe_1 : decode cX11_canBe 1 = .ok (.iconst 3, 1) := by decide +kernel
theorem dX11_canBe_2 : decode cX11_canBe 2 = .ok (.irem, 1) := by decide +kernel
theorem dX11_canBe_3 : decode cX11_canBe 3 = .ok (.iconst 2, 1) := by decide +kernel
theorem dX11_canBe_4 : decode cX11_canBe 4 = .ok (.if_icmp .ne 10, 3) := by decide +kernel
theorem dX11_canBe_7 : decode cX11_canBe 7 = .ok (.aload_n 0, 1) := by decide +kernel
theorem dX11_canBe_8 : decode cX11_canBe 8 = .ok (.getfield 359, 3) := by decide +kernel
theorem dX11_canBe_11 : decode cX11_canBe 11 = .ok (.ifCond .ne 7, 3) := by decide +kernel
theorem dX11_canBe_14 : decode cX11_canBe 14 = .ok (.iconst 1, 1) := by decide +kernel
theorem dX11_canBe_15 : decode cX11_canBe 15 = .ok (.goto 4, 3) := by decide +kernel
theorem dX11_canBe_18 : decode cX11_canBe 18 = .ok (.iconst 0, 1) := by decide +kernel
theorem dX11_canBe_19 : decode cX11_canBe 19 = .ok (.ireturn, 1) := by decide +kernel
theorem dX11_lowestBit_0 : decode cX11_lowestBit 0 = .ok (.iload_n 0, 1) := by decide +kernel
theorem dX11_lowestBit_1 : decode cX11_lowestBit 1 = .ok (.iload_n 0, 1) := by decide +kernel
theorem dX11_lowestBit_2 : decode cX11_lowestBit 2 = .ok (.ineg, 1) := by decide +kernel
theorem dX11_lowestBit_3 : decode cX11_lowestBit 3 = .ok (.iand, 1) := by decide +kernel
theorem dX11_lowestBit_4 : decode cX11_lowestBit 4 = .ok (.ireturn, 1) := by decide +kernel
theorem dX11_nextSeed_0 : decode cX11_nextSeed 0 = .ok (.ldc_w 363, 3) := by decide +kernel
theorem dX11_nextSeed_3 : decode cX11_nextSeed 3 = .ok (.iload_n 0, 1) := by decide +kernel
theorem dX11_nextSeed_4 : decode cX11_nextSeed 4 = .ok (.imul, 1) := by decide +kernel
theorem dX11_nextSeed_5 : decode cX11_nextSeed 5 = .ok (.sipush 12345, 3) := by decide +kernel
theorem dX11_nextSeed_8 : decode cX11_nextSeed 8 = .ok (.iadd, 1) := by decide +kernel
theorem dX11_nextSeed_9 : decode cX11_nextSeed 9 = .ok (.ldc_w 364, 3) := by decide +kernel
theorem dX11_nextSeed_12 : decode cX11_nextSeed 12 = .ok (.iand, 1) := by decide +kernel
theorem dX11_nextSeed_13 : decode cX11_nextSeed 13 = .ok (.ireturn, 1) := by decide +kernel
theorem dX11_nextCheck_0 : decode cX11_nextCheck 0 = .ok (.bipush 7, 2) := by decide +kernel
theorem dX11_nextCheck_2 : decode cX11_nextCheck 2 = .ok (.iload_n 0, 1) := by decide +kernel
theorem dX11_nextCheck_3 : decode cX11_nextCheck 3 = .ok (.imul, 1) := by decide +kernel
theorem dX11_nextCheck_4 : decode cX11_nextCheck 4 = .ok (.iload_n 1, 1) := by decide +kernel
theorem dX11_nextCheck_5 : decode cX11_nextCheck 5 = .ok (.iadd, 1) := by decide +kernel
theorem dX11_nextCheck_6 : decode cX11_nextCheck 6 = .ok (.sipush 251, 3) := by decide +kernel
theorem dX11_nextCheck_9 : decode cX11_nextCheck 9 = .ok (.irem, 1) := by decide +kernel
theorem dX11_nextCheck_10 : decode cX11_nextCheck 10 = .ok (.ireturn, 1) := by decide +kernel
theorem dX11_takeSpare_0 : decode cX11_takeSpare 0 = .ok (.aload_n 0, 1) := by decide +kernel
theorem dX11_takeSpare_1 : decode cX11_takeSpare 1 = .ok (.getfield 19, 3) := by decide +kernel
theorem dX11_takeSpare_4 : decode cX11_takeSpare 4 = .ok (.astore_n 1, 1) := by decide +kernel
theorem dX11_takeSpare_5 : decode cX11_takeSpare 5 = .ok (.aload_n 0, 1) := by decide +kernel
theorem dX11_takeSpare_6 : decode cX11_takeSpare 6 = .ok (.aload_n 0, 1) := by decide +kernel
theorem dX11_takeSpare_7 : decode cX11_takeSpare 7 = .ok (.getfield 23, 3) := by decide +kernel
theorem dX11_takeSpare_10 : decode cX11_takeSpare 10 = .ok (.putfield 19, 3) := by decide +kernel
theorem dX11_takeSpare_13 : decode cX11_takeSpare 13 = .ok (.aload_n 0, 1) := by decide +kernel
theorem dX11_takeSpare_14 : decode cX11_takeSpare 14 = .ok (.aload_n 1, 1) := by decide +kernel
theorem dX11_takeSpare_15 : decode cX11_takeSpare 15 = .ok (.putfield 23, 3) := by decide +kernel
theorem dX11_takeSpare_18 : decode cX11_takeSpare 18 = .ok (.aload_n 0, 1) := by decide +kernel
theorem dX11_takeSpare_19 : decode cX11_takeSpare 19 = .ok (.invokevirtual 131, 3) := by decide +kernel
theorem dX11_takeSpare_22 : decode cX11_takeSpare 22 = .ok (.return_, 1) := by decide +kernel
theorem dX11_forget_0 : decode cX11_forget 0 = .ok (.aload_n 0, 1) := by decide +kernel
theorem dX11_forget_1 : decode cX11_forget 1 = .ok (.getfield 74, 3) := by decide +kernel
theorem dX11_forget_4 : decode cX11_forget 4 = .ok (.iconst 0, 1) := by decide +kernel
theorem dX11_forget_5 : decode cX11_forget 5 = .ok (.putfield 365, 3) := by decide +kernel
theorem dX11_forget_8 : decode cX11_forget 8 = .ok (.aload_n 0, 1) := by decide +kernel
theorem dX11_forget_9 : decode cX11_forget 9 = .ok (.getfield 81, 3) := by decide +kernel
theorem dX11_forget_12 : decode cX11_forget 12 = .ok (.iconst 0, 1) := by decide +kernel
theorem dX11_forget_13 : decode cX11_forget 13 = .ok (.putfield 368, 3) := by decide +kernel
theorem dX11_forget_16 : decode cX11_forget 16 = .ok (.aload_n 0, 1) := by decide +kernel
theorem dX11_forget_17 : decode cX11_forget 17 = .ok (.getfield 88, 3) := by decide +kernel
theorem dX11_forget_20 : decode cX11_forget 20 = .ok (.iconst 0, 1) := by decide +kernel
theorem dX11_forget_21 : decode cX11_forget 21 = .ok (.putfield 369, 3) := by decide +kernel
theorem dX11_forget_24 : decode cX11_forget 24 = .ok (.aload_n 0, 1) := by decide +kernel
theorem dX11_forget_25 : decode cX11_forget 25 = .ok (.iconst (-1), 1) := by decide +kernel
theorem dX11_forget_26 : decode cX11_forget 26 = .ok (.putfield 99, 3) := by decide +kernel
theorem dX11_forget_29 : decode cX11_forget 29 = .ok (.return_, 1) := by decide +kernel
theorem dX11_prepare_0 : decode cX11_prepare 0 = .ok (.aload_n 0, 1) := by decide +kernel
theorem dX11_prepare_1 : decode cX11_prepare 1 = .ok (.getfield 74, 3) := by decide +kernel
theorem dX11_prepare_4 : decode cX11_prepare 4 = .ok (.getfield 365, 3) := by decide +kernel
theorem dX11_prepare_7 : decode cX11_prepare 7 = .ok (.ifCond .ne 46, 3) := by decide +kernel
theorem dX11_prepare_10 : decode cX11_prepare 10 = .ok (.aload_n 0, 1) := by decide +kernel
theorem dX11_prepare_11 : decode cX11_prepare 11 = .ok (.getfield 74, 3) := by decide +kernel
theorem dX11_prepare_14 : decode cX11_prepare 14 = .ok (.aload_n 0, 1) := by decide +kernel
theorem dX11_prepare_15 : decode cX11_prepare 15 = .ok (.getfield 19, 3) := by decide +kernel
theorem dX11_prepare_18 : decode cX11_prepare 18 = .ok (.aload_n 0, 1) := by decide +kernel
theorem dX11_prepare_19 : decode cX11_prepare 19 = .ok (.getfield 32, 3) := by decide +kernel
theorem dX11_prepare_22 : decode cX11_prepare 22 = .ok (.aload_n 0, 1) := by decide +kernel
theorem dX11_prepare_23 : decode cX11_prepare 23 = .ok (.getfield 53, 3) := by decide +kernel
theorem dX11_prepare_26 : decode cX11_prepare 26 = .ok (.aload_n 0, 1) := by decide +kernel
theorem dX11_prepare_27 : decode cX11_prepare 27 = .ok (.getfield 60, 3) := by decide +kernel
theorem dX11_prepare_30 : decode cX11_prepare 30 = .ok (.invokevirtual 319, 3) := by decide +kernel
theorem dX11_prepare_33 : decode cX11_prepare 33 = .ok (.pop, 1) := by decide +kernel
theorem dX11_prepare_34 : decode cX11_prepare 34 = .ok (.aload_n 0, 1) := by decide +kernel
theorem dX11_prepare_35 : decode cX11_prepare 35 = .ok (.getfield 74, 3) := by decide +kernel
theorem dX11_prepare_38 : decode cX11_prepare 38 = .ok (.aload_n 0, 1) := by decide +kernel
theorem dX11_prepare_39 : decode cX11_prepare 39 = .ok (.getfield 32, 3) := by decide +kernel
theorem dX11_prepare_42 : decode cX11_prepare 42 = .ok (.invokevirtual 370, 3) := by decide +kernel
theorem dX11_prepare_45 : decode cX11_prepare 45 = .ok (.aload_n 0, 1) := by decide +kernel
theorem dX11_prepare_46 : decode cX11_prepare 46 = .ok (.getfield 74, 3) := by decide +kernel
theorem dX11_prepare_49 : decode cX11_prepare 49 = .ok (.iconst 1, 1) := by decide +kernel
theorem dX11_prepare_50 : decode cX11_prepare 50 = .ok (.putfield 365, 3) := by decide +kernel
theorem dX11_prepare_53 : decode cX11_prepare 53 = .ok (.iload_n 1, 1) := by decide +kernel
theorem dX11_prepare_54 : decode cX11_prepare 54 = .ok (.iconst 3, 1) := by decide +kernel
theorem dX11_prepare_55 : decode cX11_prepare 55 = .ok (.if_icmp .eq 8, 3) := by decide +kernel
theorem dX11_prepare_58 : decode cX11_prepare 58 = .ok (.iload_n 1, 1) := by decide +kernel
theorem dX11_prepare_59 : decode cX11_prepare 59 = .ok (.iconst 4, 1) := by decide +kernel
theorem dX11_prepare_60 : decode cX11_prepare 60 = .ok (.if_icmp .ne 48, 3) := by decide +kernel
theorem dX11_prepare_63 : decode cX11_prepare 63 = .ok (.aload_n 0, 1) := by decide +kernel
theorem dX11_prepare_64 : decode cX11_prepare 64 = .ok (.getfield 81, 3) := by decide +kernel
theorem dX11_prepare_67 : decode cX11_prepare 67 = .ok (.getfield 368, 3) := by decide +kernel
theorem dX11_prepare_70 : decode cX11_prepare 70 = .ok (.ifCond .ne 38, 3) := by decide +kernel
theorem dX11_prepare_73 : decode cX11_prepare 73 = .ok (.aload_n 0, 1) := by decide +kernel
theorem dX11_prepare_74 : decode cX11_prepare 74 = .ok (.getfield 81, 3) := by decide +kernel
theorem dX11_prepare_77 : decode cX11_prepare 77 = .ok (.aload_n 0, 1) := by decide +kernel
theorem dX11_prepare_78 : decode cX11_prepare 78 = .ok (.getfield 19, 3) := by decide +kernel
theorem dX11_prepare_81 : decode cX11_prepare 81 = .ok (.aload_n 0, 1) := by decide +kernel
theorem dX11_prepare_82 : decode cX11_prepare 82 = .ok (.getfield 32, 3) := by decide +kernel
theorem dX11_prepare_85 : decode cX11_prepare 85 = .ok (.aload_n 0, 1) := by decide +kernel
theorem dX11_prepare_86 : decode cX11_prepare 86 = .ok (.getfield 74, 3) := by decide +kernel
theorem dX11_prepare_89 : decode cX11_prepare 89 = .ok (.aload_n 0, 1) := by decide +kernel
theorem dX11_prepare_90 : decode cX11_prepare 90 = .ok (.getfield 53, 3) := by decide +kernel
theorem dX11_prepare_93 : decode cX11_prepare 93 = .ok (.aload_n 0, 1) := by decide +kernel
theorem dX11_prepare_94 : decode cX11_prepare 94 = .ok (.getfield 60, 3) := by decide +kernel
theorem dX11_prepare_97 : decode cX11_prepare 97 = .ok (.invokevirtual 373, 3) := by decide +kernel
theorem dX11_prepare_100 : decode cX11_prepare 100 = .ok (.aload_n 0, 1) := by decide +kernel
theorem dX11_prepare_101 : decode cX11_prepare 101 = .ok (.getfield 81, 3) := by decide +kernel
theorem dX11_prepare_104 : decode cX11_prepare 104 = .ok (.iconst 1, 1) := by decide +kernel
theorem dX11_prepare_105 : decode cX11_prepare 105 = .ok (.putfield 368, 3) := by decide +kernel
theorem dX11_prepare_108 : decode cX11_prepare 108 = .ok (.return_, 1) := by decide +kernel
theorem dX11_prepareLikeness_0 : decode cX11_prepareLikeness 0 = .ok (.aload_n 0, 1) := by decide +kernel
theorem dX11_prepareLikeness_1 : decode cX11_prepareLikeness 1 = .ok (.getfield 88, 3) := by decide +kernel
theorem dX11_prepareLikeness_4 : decode cX11_prepareLikeness 4 = .ok (.getfield 369, 3) := by decide +kernel
theorem dX11_prepareLikeness_7 : decode cX11_prepareLikeness 7 = .ok (.ifCond .ne 26, 3) := by decide +kernel
theorem dX11_prepareLikeness_10 : decode cX11_prepareLikeness 10 = .ok (.aload_n 0, 1) := by decide +kernel
theorem dX11_prepareLikeness_11 : decode cX11_prepareLikeness 11 = .ok (.getfield 88, 3) := by decide +kernel
theorem dX11_prepareLikeness_14 : decode cX11_prepareLikeness 14 = .ok (.aload_n 0, 1) := by decide +kernel
theorem dX11_prepareLikeness_15 : decode cX11_prepareLikeness 15 = .ok (.getfield 19, 3) := by decide +kernel
theorem dX11_prepareLikeness_18 : decode cX11_prepareLikeness 18 = .ok (.aload_n 0, 1) := by decide +kernel
theorem dX11_prepareLikeness_19 : decode cX11_prepareLikeness 19 = .ok (.getfield 74, 3) := by decide +kernel
theorem dX11_prepareLikeness_22 : decode cX11_prepareLikeness 22 = .ok (.invokevirtual 377, 3) := by decide +kernel
theorem dX11_prepareLikeness_25 : decode cX11_prepareLikeness 25 = .ok (.aload_n 0, 1) := by decide +kernel
theorem dX11_prepareLikeness_26 : decode cX11_prepareLikeness 26 = .ok (.getfield 88, 3) := by decide +kernel
theorem dX11_prepareLikeness_29 : decode cX11_prepareLikeness 29 = .ok (.iconst 1, 1) := by decide +kernel
theorem dX11_prepareLikeness_30 : decode cX11_prepareLikeness 30 = .ok (.putfield 369, 3) := by decide +kernel
theorem dX11_prepareLikeness_33 : decode cX11_prepareLikeness 33 = .ok (.return_, 1) := by decide +kernel
theorem dX11_howMany_0 : decode cX11_howMany 0 = .ok (.iload_n 1, 1) := by decide +kernel
theorem dX11_howMany_1 : decode cX11_howMany 1 = .ok (.tableswitch 51 2 4 #[27, 35, 43], 27) := by decide +kernel
theorem dX11_howMany_28 : decode cX11_howMany 28 = .ok (.aload_n 0, 1) := by decide +kernel
theorem dX11_howMany_29 : decode cX11_howMany 29 = .ok (.getfield 74, 3) := by decide +kernel
theorem dX11_howMany_32 : decode cX11_howMany 32 = .ok (.getfield 278, 3) := by decide +kernel
theorem dX11_howMany_35 : decode cX11_howMany 35 = .ok (.ireturn, 1) := by decide +kernel
theorem dX11_howMany_36 : decode cX11_howMany 36 = .ok (.aload_n 0, 1) := by decide +kernel
theorem dX11_howMany_37 : decode cX11_howMany 37 = .ok (.getfield 81, 3) := by decide +kernel
theorem dX11_howMany_40 : decode cX11_howMany 40 = .ok (.getfield 380, 3) := by decide +kernel
theorem dX11_howMany_43 : decode cX11_howMany 43 = .ok (.ireturn, 1) := by decide +kernel
theorem dX11_howMany_44 : decode cX11_howMany 44 = .ok (.aload_n 0, 1) := by decide +kernel
theorem dX11_howMany_45 : decode cX11_howMany 45 = .ok (.getfield 81, 3) := by decide +kernel
theorem dX11_howMany_48 : decode cX11_howMany 48 = .ok (.getfield 383, 3) := by decide +kernel
theorem dX11_howMany_51 : decode cX11_howMany 51 = .ok (.ireturn, 1) := by decide +kernel
theorem dX11_howMany_52 : decode cX11_howMany 52 = .ok (.iconst (-1), 1) := by decide +kernel
theorem dX11_howMany_53 : decode cX11_howMany 53 = .ok (.ireturn, 1) := by decide +kernel
theorem dX11_member_0 : decode cX11_member 0 = .ok (.iload_n 2, 1) := by decide +kernel
theorem dX11_member_1 : decode cX11_member 1 = .ok (.ifCond .lt 23, 3) := by decide +kernel
theorem dX11_member_4 : decode cX11_member 4 = .ok (.iload_n 2, 1) := by decide +kernel
theorem dX11_member_5 : decode cX11_member 5 = .ok (.aload_n 0, 1) := by decide +kernel
theorem dX11_member_6 : decode cX11_member 6 = .ok (.iload_n 1, 1) := by decide +kernel
theorem dX11_member_7 : decode cX11_member 7 = .ok (.invokevirtual 255, 3) := by decide +kernel
theorem dX11_member_10 : decode cX11_member 10 = .ok (.if_icmp .ge 14, 3) := by decide +kernel
theorem dX11_member_13 : decode cX11_member 13 = .ok (.iload_n 3, 1) := by decide +kernel
theorem dX11_member_14 : decode cX11_member 14 = .ok (.ifCond .lt 10, 3) := by decide +kernel
theorem dX11_member_17 : decode cX11_member 17 = .ok (.iload_n 3, 1) := by decide +kernel
theorem dX11_member_18 : decode cX11_member 18 = .ok (.iload_n 1, 1) := by decide +kernel
theorem dX11_member_19 : decode cX11_member 19 = .ok (.iconst 1, 1) := by decide +kernel
theorem dX11_member_20 : decode cX11_member 20 = .ok (.isub, 1) := by decide +kernel
theorem dX11_member_21 : decode cX11_member 21 = .ok (.if_icmp .lt 5, 3) := by decide +kernel
theorem dX11_member_24 : decode cX11_member 24 = .ok (.iconst (-1), 1) := by decide +kernel
theorem dX11_member_25 : decode cX11_member 25 = .ok (.ireturn, 1) := by decide +kernel
theorem dX11_member_26 : decode cX11_member 26 = .ok (.iload_n 1, 1) := by decide +kernel
theorem dX11_member_27 : decode cX11_member 27 = .ok (.iconst 2, 1) := by decide +kernel
theorem dX11_member_28 : decode cX11_member 28 = .ok (.if_icmp .ne 7, 3) := by decide +kernel
theorem dX11_member_31 : decode cX11_member 31 = .ok (.iload_n 2, 1) := by decide +kernel
theorem dX11_member_32 : decode cX11_member 32 = .ok (.goto 13, 3) := by decide +kernel
theorem dX11_member_35 : decode cX11_member 35 = .ok (.aload_n 0, 1) := by decide +kernel
theorem dX11_member_36 : decode cX11_member 36 = .ok (.getfield 81, 3) := by decide +kernel
theorem dX11_member_39 : decode cX11_member 39 = .ok (.iload_n 1, 1) := by decide +kernel
theorem dX11_member_40 : decode cX11_member 40 = .ok (.iload_n 2, 1) := by decide +kernel
theorem dX11_member_41 : decode cX11_member 41 = .ok (.iload_n 3, 1) := by decide +kernel
theorem dX11_member_42 : decode cX11_member 42 = .ok (.invokevirtual 386, 3) := by decide +kernel
theorem dX11_member_45 : decode cX11_member 45 = .ok (.ireturn, 1) := by decide +kernel
theorem dX11_hearTwo_0 : decode cX11_hearTwo 0 = .ok (.iload_n 1, 1) := by decide +kernel
theorem dX11_hearTwo_1 : decode cX11_hearTwo 1 = .ok (.invokestatic 192, 3) := by decide +kernel
theorem dX11_hearTwo_4 : decode cX11_hearTwo 4 = .ok (.ifCond .eq 15, 3) := by decide +kernel
theorem dX11_hearTwo_7 : decode cX11_hearTwo 7 = .ok (.iload_n 2, 1) := by decide +kernel
theorem dX11_hearTwo_8 : decode cX11_hearTwo 8 = .ok (.invokestatic 192, 3) := by decide +kernel
theorem dX11_hearTwo_11 : decode cX11_hearTwo 11 = .ok (.ifCond .eq 8, 3) := by decide +kernel
theorem dX11_hearTwo_14 : decode cX11_hearTwo 14 = .ok (.iload_n 1, 1) := by decide +kernel
theorem dX11_hearTwo_15 : decode cX11_hearTwo 15 = .ok (.iload_n 2, 1) := by decide +kernel
theorem dX11_hearTwo_16 : decode cX11_hearTwo 16 = .ok (.if_icmp .ne 5, 3) := by decide +kernel
theorem dX11_hearTwo_19 : decode cX11_hearTwo 19 = .ok (.iconst 0, 1) := by decide +kernel
theorem dX11_hearTwo_20 : decode cX11_hearTwo 20 = .ok (.ireturn, 1) := by decide +kernel
theorem dX11_hearTwo_21 : decode cX11_hearTwo 21 = .ok (.aload_n 0, 1) := by decide +kernel
theorem dX11_hearTwo_22 : decode cX11_hearTwo 22 = .ok (.getfield 19, 3) := by decide +kernel
theorem dX11_hearTwo_25 : decode cX11_hearTwo 25 = .ok (.iload_n 1, 1) := by decide +kernel
theorem dX11_hearTwo_26 : decode cX11_hearTwo 26 = .ok (.invokestatic 214, 3) := by decide +kernel
theorem dX11_hearTwo_29 : decode cX11_hearTwo 29 = .ok (.ifCond .eq 14, 3) := by decide +kernel
theorem dX11_hearTwo_32 : decode cX11_hearTwo 32 = .ok (.aload_n 0, 1) := by decide +kernel
theorem dX11_hearTwo_33 : decode cX11_hearTwo 33 = .ok (.getfield 19, 3) := by decide +kernel
theorem dX11_hearTwo_36 : decode cX11_hearTwo 36 = .ok (.iload_n 2, 1) := by decide +kernel
theorem dX11_hearTwo_37 : decode cX11_hearTwo 37 = .ok (.invokestatic 214, 3) := by decide +kernel
theorem dX11_hearTwo_40 : decode cX11_hearTwo 40 = .ok (.ifCond .ne 5, 3) := by decide +kernel
theorem dX11_hearTwo_43 : decode cX11_hearTwo 43 = .ok (.iconst 0, 1) := by decide +kernel
theorem dX11_hearTwo_44 : decode cX11_hearTwo 44 = .ok (.ireturn, 1) := by decide +kernel
theorem dX11_hearTwo_45 : decode cX11_hearTwo 45 = .ok (.aload_n 0, 1) := by decide +kernel
theorem dX11_hearTwo_46 : decode cX11_hearTwo 46 = .ok (.getfield 60, 3) := by decide +kernel
theorem dX11_hearTwo_49 : decode cX11_hearTwo 49 = .ok (.aload_n 0, 1) := by decide +kernel
theorem dX11_hearTwo_50 : decode cX11_hearTwo 50 = .ok (.getfield 19, 3) := by decide +kernel
theorem dX11_hearTwo_53 : decode cX11_hearTwo 53 = .ok (.aload_n 0, 1) := by decide +kernel
theorem dX11_hearTwo_54 : decode cX11_hearTwo 54 = .ok (.getfield 32, 3) := by decide +kernel
theorem dX11_hearTwo_57 : decode cX11_hearTwo 57 = .ok (.getfield 156, 3) := by decide +kernel
theorem dX11_hearTwo_60 : decode cX11_hearTwo 60 = .ok (.iload_n 1, 1) := by decide +kernel
theorem dX11_hearTwo_61 : decode cX11_hearTwo 61 = .ok (.iload_n 2, 1) := by decide +kernel
theorem dX11_hearTwo_62 : decode cX11_hearTwo 62 = .ok (.invokevirtual 389, 3) := by decide +kernel
theorem dX11_hearTwo_65 : decode cX11_hearTwo 65 = .ok (.iconst 1, 1) := by decide +kernel
theorem dX11_hearTwo_66 : decode cX11_hearTwo 66 = .ok (.ireturn, 1) := by decide +kernel
theorem dX11_agrees_0 : decode cX11_agrees 0 = .ok (.aload_n 1, 1) := by decide +kernel
theorem dX11_agrees_1 : decode cX11_agrees 1 = .ok (.iload_n 2, 1) := by decide +kernel
theorem dX11_agrees_2 : decode cX11_agrees 2 = .ok (.invokestatic 214, 3) := by decide +kernel
theorem dX11_agrees_5 : decode cX11_agrees 5 = .ok (.ifCond .ne 5, 3) := by decide +kernel
theorem dX11_agrees_8 : decode cX11_agrees 8 = .ok (.iconst 0, 1) := by decide +kernel
theorem dX11_agrees_9 : decode cX11_agrees 9 = .ok (.ireturn, 1) := by decide +kernel
theorem dX11_agrees_10 : decode cX11_agrees 10 = .ok (.aload_n 0, 1) := by decide +kernel
theorem dX11_agrees_11 : decode cX11_agrees 11 = .ok (.getfield 60, 3) := by decide +kernel
theorem dX11_agrees_14 : decode cX11_agrees 14 = .ok (.aload_n 1, 1) := by decide +kernel
theorem dX11_agrees_15 : decode cX11_agrees 15 = .ok (.aload_n 0, 1) := by decide +kernel
theorem dX11_agrees_16 : decode cX11_agrees 16 = .ok (.getfield 32, 3) := by decide +kernel
theorem dX11_agrees_19 : decode cX11_agrees 19 = .ok (.getfield 156, 3) := by decide +kernel
theorem dX11_agrees_22 : decode cX11_agrees 22 = .ok (.bipush 84, 2) := by decide +kernel
theorem dX11_agrees_24 : decode cX11_agrees 24 = .ok (.iload_n 2, 1) := by decide +kernel
theorem dX11_agrees_25 : decode cX11_agrees 25 = .ok (.invokevirtual 389, 3) := by decide +kernel
theorem dX11_agrees_28 : decode cX11_agrees 28 = .ok (.aload_n 0, 1) := by decide +kernel
theorem dX11_agrees_29 : decode cX11_agrees 29 = .ok (.getfield 53, 3) := by decide +kernel
theorem dX11_agrees_32 : decode cX11_agrees 32 = .ok (.aload_n 0, 1) := by decide +kernel
theorem dX11_agrees_33 : decode cX11_agrees 33 = .ok (.getfield 60, 3) := by decide +kernel
theorem dX11_agrees_36 : decode cX11_agrees 36 = .ok (.iconst 0, 1) := by decide +kernel
theorem dX11_agrees_37 : decode cX11_agrees 37 = .ok (.invokevirtual 232, 3) := by decide +kernel
theorem dX11_agrees_40 : decode cX11_agrees 40 = .ok (.iconst (-1), 1) := by decide +kernel
theorem dX11_agrees_41 : decode cX11_agrees 41 = .ok (.if_icmp .ne 7, 3) := by decide +kernel
theorem dX11_agrees_44 : decode cX11_agrees 44 = .ok (.iconst 1, 1) := by decide +kernel
theorem dX11_agrees_45 : decode cX11_agrees 45 = .ok (.goto 4, 3) := by decide +kernel
theorem dX11_agrees_48 : decode cX11_agrees 48 = .ok (.iconst 0, 1) := by decide +kernel
theorem dX11_agrees_49 : decode cX11_agrees 49 = .ok (.ireturn, 1) := by decide +kernel
theorem dX11_madeInSpare_0 : decode cX11_madeInSpare 0 = .ok (.aload_n 0, 1) := by decide +kernel
theorem dX11_madeInSpare_1 : decode cX11_madeInSpare 1 = .ok (.getfield 23, 3) := by decide +kernel
theorem dX11_madeInSpare_4 : decode cX11_madeInSpare 4 = .ok (.iload_n 2, 1) := by decide +kernel
theorem dX11_madeInSpare_5 : decode cX11_madeInSpare 5 = .ok (.iload_n 3, 1) := by decide +kernel
theorem dX11_madeInSpare_6 : decode cX11_madeInSpare 6 = .ok (.invokevirtual 316, 3) := by decide +kernel
theorem dX11_madeInSpare_9 : decode cX11_madeInSpare 9 = .ok (.istore 4, 2) := by decide +kernel
theorem dX11_madeInSpare_11 : decode cX11_madeInSpare 11 = .ok (.iconst 0, 1) := by decide +kernel
theorem dX11_madeInSpare_12 : decode cX11_madeInSpare 12 = .ok (.istore 5, 2) := by decide +kernel
theorem dX11_madeInSpare_14 : decode cX11_madeInSpare 14 = .ok (.iload 4, 2) := by decide +kernel
theorem dX11_madeInSpare_16 : decode cX11_madeInSpare 16 = .ok (.ifCond .eq 41, 3) := by decide +kernel
theorem dX11_madeInSpare_19 : decode cX11_madeInSpare 19 = .ok (.iload 5, 2) := by decide +kernel
theorem dX11_madeInSpare_21 : decode cX11_madeInSpare 21 = .ok (.sipush 20000, 3) := by decide +kernel
theorem dX11_madeInSpare_24 : decode cX11_madeInSpare 24 = .ok (.if_icmp .ge 33, 3) := by decide +kernel
theorem dX11_madeInSpare_27 : decode cX11_madeInSpare 27 = .ok (.aload_n 0, 1) := by decide +kernel
theorem dX11_madeInSpare_28 : decode cX11_madeInSpare 28 = .ok (.aload_n 0, 1) := by decide +kernel
theorem dX11_madeInSpare_29 : decode cX11_madeInSpare 29 = .ok (.getfield 23, 3) := by decide +kernel
theorem dX11_madeInSpare_32 : decode cX11_madeInSpare 32 = .ok (.iload_n 1, 1) := by decide +kernel
theorem dX11_madeInSpare_33 : decode cX11_madeInSpare 33 = .ok (.invokevirtual 393, 3) := by decide +kernel
theorem dX11_madeInSpare_36 : decode cX11_madeInSpare 36 = .ok (.ifCond .eq 5, 3) := by decide +kernel
theorem dX11_madeInSpare_39 : decode cX11_madeInSpare 39 = .ok (.iconst 1, 1) := by decide +kernel
theorem dX11_madeInSpare_40 : decode cX11_madeInSpare 40 = .ok (.ireturn, 1) := by decide +kernel
theorem dX11_madeInSpare_41 : decode cX11_madeInSpare 41 = .ok (.aload_n 0, 1) := by decide +kernel
theorem dX11_madeInSpare_42 : decode cX11_madeInSpare 42 = .ok (.getfield 23, 3) := by decide +kernel
theorem dX11_madeInSpare_45 : decode cX11_madeInSpare 45 = .ok (.iload_n 3, 1) := by decide +kernel
theorem dX11_madeInSpare_46 : decode cX11_madeInSpare 46 = .ok (.invokevirtual 327, 3) := by decide +kernel
theorem dX11_madeInSpare_49 : decode cX11_madeInSpare 49 = .ok (.istore 4, 2) := by decide +kernel
theorem dX11_madeInSpare_51 : decode cX11_madeInSpare 51 = .ok (.iinc 5 1, 3) := by decide +kernel
theorem dX11_madeInSpare_54 : decode cX11_madeInSpare 54 = .ok (.goto (-40), 3) := by decide +kernel
theorem dX11_madeInSpare_57 : decode cX11_madeInSpare 57 = .ok (.iconst 0, 1) := by decide +kernel
theorem dX11_madeInSpare_58 : decode cX11_madeInSpare 58 = .ok (.ireturn, 1) := by decide +kernel
theorem dX11_seekWrongs_0 : decode cX11_seekWrongs 0 = .ok (.iload_n 1, 1) := by decide +kernel
theorem dX11_seekWrongs_1 : decode cX11_seekWrongs 1 = .ok (.invokestatic 305, 3) := by decide +kernel
theorem dX11_seekWrongs_4 : decode cX11_seekWrongs 4 = .ok (.ifCond .eq 14, 3) := by decide +kernel
theorem dX11_seekWrongs_7 : decode cX11_seekWrongs 7 = .ok (.aload_n 0, 1) := by decide +kernel
theorem dX11_seekWrongs_8 : decode cX11_seekWrongs 8 = .ok (.getfield 19, 3) := by decide +kernel
theorem dX11_seekWrongs_11 : decode cX11_seekWrongs 11 = .ok (.iload_n 1, 1) := by decide +kernel
theorem dX11_seekWrongs_12 : decode cX11_seekWrongs 12 = .ok (.invokestatic 214, 3) := by decide +kernel
theorem dX11_seekWrongs_15 : decode cX11_seekWrongs 15 = .ok (.ifCond .ne 5, 3) := by decide +kernel
theorem dX11_seekWrongs_18 : decode cX11_seekWrongs 18 = .ok (.iconst 0, 1) := by decide +kernel
theorem dX11_seekWrongs_19 : decode cX11_seekWrongs 19 = .ok (.ireturn, 1) := by decide +kernel
theorem dX11_seekWrongs_20 : decode cX11_seekWrongs 20 = .ok (.iload_n 1, 1) := by decide +kernel
theorem dX11_seekWrongs_21 : decode cX11_seekWrongs 21 = .ok (.aload_n 0, 1) := by decide +kernel
theorem dX11_seekWrongs_22 : decode cX11_seekWrongs 22 = .ok (.getfield 99, 3) := by decide +kernel
theorem dX11_seekWrongs_25 : decode cX11_seekWrongs 25 = .ok (.if_icmp .ne 5, 3) := by decide +kernel
theorem dX11_seekWrongs_28 : decode cX11_seekWrongs 28 = .ok (.iconst 1, 1) := by decide +kernel
theorem dX11_seekWrongs_29 : decode cX11_seekWrongs 29 = .ok (.ireturn, 1) := by decide +kernel
theorem dX11_seekWrongs_30 : decode cX11_seekWrongs 30 = .ok (.aload_n 0, 1) := by decide +kernel
theorem dX11_seekWrongs_31 : decode cX11_seekWrongs 31 = .ok (.aload_n 0, 1) := by decide +kernel
theorem dX11_seekWrongs_32 : decode cX11_seekWrongs 32 = .ok (.getfield 19, 3) := by decide +kernel
theorem dX11_seekWrongs_35 : decode cX11_seekWrongs 35 = .ok (.iload_n 1, 1) := by decide +kernel
theorem dX11_seekWrongs_36 : decode cX11_seekWrongs 36 = .ok (.invokevirtual 393, 3) := by decide +kernel
theorem dX11_seekWrongs_39 : decode cX11_seekWrongs 39 = .ok (.ifCond .eq 5, 3) := by decide +kernel
theorem dX11_seekWrongs_42 : decode cX11_seekWrongs 42 = .ok (.iconst 0, 1) := by decide +kernel
theorem dX11_seekWrongs_43 : decode cX11_seekWrongs 43 = .ok (.ireturn, 1) := by decide +kernel
theorem dX11_seekWrongs_44 : decode cX11_seekWrongs 44 = .ok (.aload_n 0, 1) := by decide +kernel
theorem dX11_seekWrongs_45 : decode cX11_seekWrongs 45 = .ok (.iconst 0, 1) := by decide +kernel
theorem dX11_seekWrongs_46 : decode cX11_seekWrongs 46 = .ok (.putfield 333, 3) := by decide +kernel
theorem dX11_seekWrongs_49 : decode cX11_seekWrongs 49 = .ok (.aload_n 0, 1) := by decide +kernel
theorem dX11_seekWrongs_50 : decode cX11_seekWrongs 50 = .ok (.getfield 23, 3) := by decide +kernel
theorem dX11_seekWrongs_53 : decode cX11_seekWrongs 53 = .ok (.aload_n 0, 1) := by decide +kernel
theorem dX11_seekWrongs_54 : decode cX11_seekWrongs 54 = .ok (.getfield 19, 3) := by decide +kernel
theorem dX11_seekWrongs_57 : decode cX11_seekWrongs 57 = .ok (.invokevirtual 323, 3) := by decide +kernel
theorem dX11_seekWrongs_60 : decode cX11_seekWrongs 60 = .ok (.iconst 0, 1) := by decide +kernel
theorem dX11_seekWrongs_61 : decode cX11_seekWrongs 61 = .ok (.istore_n 2, 1) := by decide +kernel
theorem dX11_seekWrongs_62 : decode cX11_seekWrongs 62 = .ok (.iload_n 2, 1) := by decide +kernel
theorem dX11_seekWrongs_63 : decode cX11_seekWrongs 63 = .ok (.aload_n 0, 1) := by decide +kernel
theorem dX11_seekWrongs_64 : decode cX11_seekWrongs 64 = .ok (.getfield 19, 3) := by decide +kernel
theorem dX11_seekWrongs_67 : decode cX11_seekWrongs 67 = .ok (.getfield 140, 3) := by decide +kernel
theorem dX11_seekWrongs_70 : decode cX11_seekWrongs 70 = .ok (.if_icmp .ge 87, 3) := by decide +kernel
theorem dX11_seekWrongs_73 : decode cX11_seekWrongs 73 = .ok (.aload_n 0, 1) := by decide +kernel
theorem dX11_seekWrongs_74 : decode cX11_seekWrongs 74 = .ok (.getfield 19, 3) := by decide +kernel
theorem dX11_seekWrongs_77 : decode cX11_seekWrongs 77 = .ok (.iload_n 2, 1) := by decide +kernel
theorem dX11_seekWrongs_78 : decode cX11_seekWrongs 78 = .ok (.invokevirtual 175, 3) := by decide +kernel
theorem dX11_seekWrongs_81 : decode cX11_seekWrongs 81 = .ok (.istore_n 3, 1) := by decide +kernel
theorem dX11_seekWrongs_82 : decode cX11_seekWrongs 82 = .ok (.iconst 0, 1) := by decide +kernel
theorem dX11_seekWrongs_83 : decode cX11_seekWrongs 83 = .ok (.istore 4, 2) := by decide +kernel
theorem dX11_seekWrongs_85 : decode cX11_seekWrongs 85 = .ok (.iload 4, 2) := by decide +kernel
theorem dX11_seekWrongs_87 : decode cX11_seekWrongs 87 = .ok (.bipush 28, 2) := by decide +kernel
theorem dX11_seekWrongs_89 : decode cX11_seekWrongs 89 = .ok (.if_icmp .gt 53, 3) := by decide +kernel
theorem dX11_seekWrongs_92 : decode cX11_seekWrongs 92 = .ok (.iload_n 3, 1) := by decide +kernel
theorem dX11_seekWrongs_93 : decode cX11_seekWrongs 93 = .ok (.iconst (-1), 1) := by decide +kernel
theorem dX11_seekWrongs_94 : decode cX11_seekWrongs 94 = .ok (.if_icmp .eq 48, 3) := by decide +kernel
theorem dX11_seekWrongs_97 : decode cX11_seekWrongs 97 = .ok (.aload_n 0, 1) := by decide +kernel
theorem dX11_seekWrongs_98 : decode cX11_seekWrongs 98 = .ok (.getfield 23, 3) := by decide +kernel
theorem dX11_seekWrongs_101 : decode cX11_seekWrongs 101 = .ok (.iload_n 2, 1) := by decide +kernel
theorem dX11_seekWrongs_102 : decode cX11_seekWrongs 102 = .ok (.iload 4, 2) := by decide +kernel
theorem dX11_seekWrongs_104 : decode cX11_seekWrongs 104 = .ok (.invokevirtual 336, 3) := by decide +kernel
theorem dX11_seekWrongs_107 : decode cX11_seekWrongs 107 = .ok (.iload 4, 2) := by decide +kernel
theorem dX11_seekWrongs_109 : decode cX11_seekWrongs 109 = .ok (.iload_n 3, 1) := by decide +kernel
theorem dX11_seekWrongs_110 : decode cX11_seekWrongs 110 = .ok (.if_icmp .eq 26, 3) := by decide +kernel
theorem dX11_seekWrongs_113 : decode cX11_seekWrongs 113 = .ok (.aload_n 0, 1) := by decide +kernel
theorem dX11_seekWrongs_114 : decode cX11_seekWrongs 114 = .ok (.aload_n 0, 1) := by decide +kernel
theorem dX11_seekWrongs_115 : decode cX11_seekWrongs 115 = .ok (.getfield 23, 3) := by decide +kernel
theorem dX11_seekWrongs_118 : decode cX11_seekWrongs 118 = .ok (.iload_n 1, 1) := by decide +kernel
theorem dX11_seekWrongs_119 : decode cX11_seekWrongs 119 = .ok (.invokevirtual 393, 3) := by decide +kernel
theorem dX11_seekWrongs_122 : decode cX11_seekWrongs 122 = .ok (.ifCond .eq 14, 3) := by decide +kernel
theorem dX11_seekWrongs_125 : decode cX11_seekWrongs 125 = .ok (.aload_n 0, 1) := by decide +kernel
theorem dX11_seekWrongs_126 : decode cX11_seekWrongs 126 = .ok (.bipush 100, 2) := by decide +kernel
theorem dX11_seekWrongs_128 : decode cX11_seekWrongs 128 = .ok (.iload_n 2, 1) := by decide +kernel
theorem dX11_seekWrongs_129 : decode cX11_seekWrongs 129 = .ok (.imul, 1) := by decide +kernel
theorem dX11_seekWrongs_130 : decode cX11_seekWrongs 130 = .ok (.iload 4, 2) := by decide +kernel
theorem dX11_seekWrongs_132 : decode cX11_seekWrongs 132 = .ok (.iadd, 1) := by decide +kernel
theorem dX11_seekWrongs_133 : decode cX11_seekWrongs 133 = .ok (.invokevirtual 396, 3) := by decide +kernel
theorem dX11_seekWrongs_136 : decode cX11_seekWrongs 136 = .ok (.iinc 4 1, 3) := by decide +kernel
theorem dX11_seekWrongs_139 : decode cX11_seekWrongs 139 = .ok (.goto (-54), 3) := by decide +kernel
theorem dX11_seekWrongs_142 : decode cX11_seekWrongs 142 = .ok (.aload_n 0, 1) := by decide +kernel
theorem dX11_seekWrongs_143 : decode cX11_seekWrongs 143 = .ok (.getfield 23, 3) := by decide +kernel
theorem dX11_seekWrongs_146 : decode cX11_seekWrongs 146 = .ok (.iload_n 2, 1) := by decide +kernel
theorem dX11_seekWrongs_147 : decode cX11_seekWrongs 147 = .ok (.iload_n 3, 1) := by decide +kernel
theorem dX11_seekWrongs_148 : decode cX11_seekWrongs 148 = .ok (.invokevirtual 336, 3) := by decide +kernel
theorem dX11_seekWrongs_151 : decode cX11_seekWrongs 151 = .ok (.iinc 2 1, 3) := by decide +kernel
theorem dX11_seekWrongs_154 : decode cX11_seekWrongs 154 = .ok (.goto (-92), 3) := by decide +kernel
theorem dX11_seekWrongs_157 : decode cX11_seekWrongs 157 = .ok (.aload_n 0, 1) := by decide +kernel
theorem dX11_seekWrongs_158 : decode cX11_seekWrongs 158 = .ok (.iload_n 1, 1) := by decide +kernel
theorem dX11_seekWrongs_159 : decode cX11_seekWrongs 159 = .ok (.putfield 99, 3) := by decide +kernel
theorem dX11_seekWrongs_162 : decode cX11_seekWrongs 162 = .ok (.iconst 1, 1) := by decide +kernel
theorem dX11_seekWrongs_163 : decode cX11_seekWrongs 163 = .ok (.ireturn, 1) := by decide +kernel
theorem dX11_keepWrong_0 : decode cX11_keepWrong 0 = .ok (.aload_n 0, 1) := by decide +kernel
theorem dX11_keepWrong_1 : decode cX11_keepWrong 1 = .ok (.getfield 333, 3) := by decide +kernel
theorem dX11_keepWrong_4 : decode cX11_keepWrong 4 = .ok (.aload_n 0, 1) := by decide +kernel
theorem dX11_keepWrong_5 : decode cX11_keepWrong 5 = .ok (.getfield 96, 3) := by decide +kernel
theorem dX11_keepWrong_8 : decode cX11_keepWrong 8 = .ok (.arraylength, 1) := by decide +kernel
theorem dX11_keepWrong_9 : decode cX11_keepWrong 9 = .ok (.if_icmp .ge 23, 3) := by decide +kernel
theorem dX11_keepWrong_12 : decode cX11_keepWrong 12 = .ok (.aload_n 0, 1) := by decide +kernel
theorem dX11_keepWrong_13 : decode cX11_keepWrong 13 = .ok (.getfield 96, 3) := by decide +kernel
theorem dX11_keepWrong_16 : decode cX11_keepWrong 16 = .ok (.aload_n 0, 1) := by decide +kernel
theorem dX11_keepWrong_17 : decode cX11_keepWrong 17 = .ok (.getfield 333, 3) := by decide +kernel
theorem dX11_keepWrong_20 : decode cX11_keepWrong 20 = .ok (.iload_n 1, 1) := by decide +kernel
theorem dX11_keepWrong_21 : decode cX11_keepWrong 21 = .ok (.iastore, 1) := by decide +kernel
theorem dX11_keepWrong_22 : decode cX11_keepWrong 22 = .ok (.aload_n 0, 1) := by decide +kernel
theorem dX11_keepWrong_23 : decode cX11_keepWrong 23 = .ok (.dup, 1) := by decide +kernel
theorem dX11_keepWrong_24 : decode cX11_keepWrong 24 = .ok (.getfield 333, 3) := by decide +kernel
theorem dX11_keepWrong_27 : decode cX11_keepWrong 27 = .ok (.iconst 1, 1) := by decide +kernel
theorem dX11_keepWrong_28 : decode cX11_keepWrong 28 = .ok (.iadd, 1) := by decide +kernel
theorem dX11_keepWrong_29 : decode cX11_keepWrong 29 = .ok (.putfield 333, 3) := by decide +kernel
theorem dX11_keepWrong_32 : decode cX11_keepWrong 32 = .ok (.return_, 1) := by decide +kernel
theorem dX11_imageInSpare_0 : decode cX11_imageInSpare 0 = .ok (.aload_n 0, 1) := by decide +kernel
theorem dX11_imageInSpare_1 : decode cX11_imageInSpare 1 = .ok (.getfield 10, 3) := by decide +kernel
theorem dX11_imageInSpare_4 : decode cX11_imageInSpare 4 = .ok (.iconst 0, 1) := by decide +kernel
theorem dX11_imageInSpare_5 : decode cX11_imageInSpare 5 = .ok (.invokevirtual 399, 3) := by decide +kernel
theorem dX11_imageInSpare_8 : decode cX11_imageInSpare 8 = .ok (.istore_n 1, 1) := by decide +kernel
theorem dX11_imageInSpare_9 : decode cX11_imageInSpare 9 = .ok (.iload_n 1, 1) := by decide +kernel
theorem dX11_imageInSpare_10 : decode cX11_imageInSpare 10 = .ok (.ifCond .lt 24, 3) := by decide +kernel
theorem dX11_imageInSpare_13 : decode cX11_imageInSpare 13 = .ok (.iload_n 1, 1) := by decide +kernel
theorem dX11_imageInSpare_14 : decode cX11_imageInSpare 14 = .ok (.bipush 24, 2) := by decide +kernel
theorem dX11_imageInSpare_16 : decode cX11_imageInSpare 16 = .ok (.if_icmp .gt 18, 3) := by decide +kernel
theorem dX11_imageInSpare_19 : decode cX11_imageInSpare 19 = .ok (.aload_n 0, 1) := by decide +kernel
theorem dX11_imageInSpare_20 : decode cX11_imageInSpare 20 = .ok (.getfield 10, 3) := by decide +kernel
theorem dX11_imageInSpare_23 : decode cX11_imageInSpare 23 = .ok (.getfield 111, 3) := by decide +kernel
theorem dX11_imageInSpare_26 : decode cX11_imageInSpare 26 = .ok (.iconst 2, 1) := by decide +kernel
theorem dX11_imageInSpare_27 : decode cX11_imageInSpare 27 = .ok (.iload_n 1, 1) := by decide +kernel
theorem dX11_imageInSpare_28 : decode cX11_imageInSpare 28 = .ok (.imul, 1) := by decide +kernel
theorem dX11_imageInSpare_29 : decode cX11_imageInSpare 29 = .ok (.iconst 2, 1) := by decide +kernel
theorem dX11_imageInSpare_30 : decode cX11_imageInSpare 30 = .ok (.iadd, 1) := by decide +kernel
theorem dX11_imageInSpare_31 : decode cX11_imageInSpare 31 = .ok (.if_icmp .eq 5, 3) := by decide +kernel
theorem dX11_imageInSpare_34 : decode cX11_imageInSpare 34 = .ok (.iconst 0, 1) := by decide +kernel
theorem dX11_imageInSpare_35 : decode cX11_imageInSpare 35 = .ok (.ireturn, 1) := by decide +kernel
theorem dX11_imageInSpare_36 : decode cX11_imageInSpare 36 = .ok (.bipush 23, 2) := by decide +kernel
theorem dX11_imageInSpare_38 : decode cX11_imageInSpare 38 = .ok (.istore_n 2, 1) := by decide +kernel
theorem dX11_imageInSpare_39 : decode cX11_imageInSpare 39 = .ok (.iconst 0, 1) := by decide +kernel
theorem dX11_imageInSpare_40 : decode cX11_imageInSpare 40 = .ok (.istore_n 3, 1) := by decide +kernel
theorem dX11_imageInSpare_41 : decode cX11_imageInSpare 41 = .ok (.iload_n 3, 1) := by decide +kernel
theorem dX11_imageInSpare_42 : decode cX11_imageInSpare 42 = .ok (.iconst 2, 1) := by decide +kernel
theorem dX11_imageInSpare_43 : decode cX11_imageInSpare 43 = .ok (.iload_n 1, 1) := by decide +kernel
theorem dX11_imageInSpare_44 : decode cX11_imageInSpare 44 = .ok (.imul, 1) := by decide +kernel
theorem dX11_imageInSpare_45 : decode cX11_imageInSpare 45 = .ok (.if_icmp .gt 22, 3) := by decide +kernel
theorem dX11_imageInSpare_48 : decode cX11_imageInSpare 48 = .ok (.iload_n 2, 1) := by decide +kernel
theorem dX11_imageInSpare_49 : decode cX11_imageInSpare 49 = .ok (.aload_n 0, 1) := by decide +kernel
theorem dX11_imageInSpare_50 : decode cX11_imageInSpare 50 = .ok (.getfield 10, 3) := by decide +kernel
theorem dX11_imageInSpare_53 : decode cX11_imageInSpare 53 = .ok (.iload_n 3, 1) := by decide +kernel
theorem dX11_imageInSpare_54 : decode cX11_imageInSpare 54 = .ok (.invokevirtual 399, 3) := by decide +kernel
theorem dX11_imageInSpare_57 : decode cX11_imageInSpare 57 = .ok (.invokestatic 352, 3) := by decide +kernel
theorem dX11_imageInSpare_60 : decode cX11_imageInSpare 60 = .ok (.istore_n 2, 1) := by decide +kernel
theorem dX11_imageInSpare_61 : decode cX11_imageInSpare 61 = .ok (.iinc 3 1, 3) := by decide +kernel
theorem dX11_imageInSpare_64 : decode cX11_imageInSpare 64 = .ok (.goto (-23), 3) := by decide +kernel
theorem dX11_imageInSpare_67 : decode cX11_imageInSpare 67 = .ok (.aload_n 0, 1) := by decide +kernel
theorem dX11_imageInSpare_68 : decode cX11_imageInSpare 68 = .ok (.getfield 10, 3) := by decide +kernel
theorem dX11_imageInSpare_71 : decode cX11_imageInSpare 71 = .ok (.iconst 2, 1) := by decide +kernel
theorem dX11_imageInSpare_72 : decode cX11_imageInSpare 72 = .ok (.iload_n 1, 1) := by decide +kernel
theorem dX11_imageInSpare_73 : decode cX11_imageInSpare 73 = .ok (.imul, 1) := by decide +kernel
theorem dX11_imageInSpare_74 : decode cX11_imageInSpare 74 = .ok (.iconst 1, 1) := by decide +kernel
theorem dX11_imageInSpare_75 : decode cX11_imageInSpare 75 = .ok (.iadd, 1) := by decide +kernel
theorem dX11_imageInSpare_76 : decode cX11_imageInSpare 76 = .ok (.invokevirtual 399, 3) := by decide +kernel
theorem dX11_imageInSpare_79 : decode cX11_imageInSpare 79 = .ok (.iload_n 2, 1) := by decide +kernel
theorem dX11_imageInSpare_80 : decode cX11_imageInSpare 80 = .ok (.if_icmp .eq 5, 3) := by decide +kernel
theorem dX11_imageInSpare_83 : decode cX11_imageInSpare 83 = .ok (.iconst 0, 1) := by decide +kernel
theorem dX11_imageInSpare_84 : decode cX11_imageInSpare 84 = .ok (.ireturn, 1) := by decide +kernel
theorem dX11_imageInSpare_85 : decode cX11_imageInSpare 85 = .ok (.aload_n 0, 1) := by decide +kernel
theorem dX11_imageInSpare_86 : decode cX11_imageInSpare 86 = .ok (.getfield 23, 3) := by decide +kernel
theorem dX11_imageInSpare_89 : decode cX11_imageInSpare 89 = .ok (.invokevirtual 340, 3) := by decide +kernel
theorem dX11_imageInSpare_92 : decode cX11_imageInSpare 92 = .ok (.iconst 0, 1) := by decide +kernel
theorem dX11_imageInSpare_93 : decode cX11_imageInSpare 93 = .ok (.istore_n 3, 1) := by decide +kernel
theorem dX11_imageInSpare_94 : decode cX11_imageInSpare 94 = .ok (.iload_n 3, 1) := by decide +kernel
theorem dX11_imageInSpare_95 : decode cX11_imageInSpare 95 = .ok (.iload_n 1, 1) := by decide +kernel
theorem dX11_imageInSpare_96 : decode cX11_imageInSpare 96 = .ok (.if_icmp .ge 61, 3) := by decide +kernel
theorem dX11_imageInSpare_99 : decode cX11_imageInSpare 99 = .ok (.aload_n 0, 1) := by decide +kernel
theorem dX11_imageInSpare_100 : decode cX11_imageInSpare 100 = .ok (.getfield 10, 3) := by decide +kernel
theorem dX11_imageInSpare_103 : decode cX11_imageInSpare 103 = .ok (.iconst 2, 1) := by decide +kernel
theorem dX11_imageInSpare_104 : decode cX11_imageInSpare 104 = .ok (.iload_n 3, 1) := by decide +kernel
theorem dX11_imageInSpare_105 : decode cX11_imageInSpare 105 = .ok (.imul, 1) := by decide +kernel
theorem dX11_imageInSpare_106 : decode cX11_imageInSpare 106 = .ok (.iconst 1, 1) := by decide +kernel
theorem dX11_imageInSpare_107 : decode cX11_imageInSpare 107 = .ok (.iadd, 1) := by decide +kernel
theorem dX11_imageInSpare_108 : decode cX11_imageInSpare 108 = .ok (.invokevirtual 399, 3) := by decide +kernel
theorem dX11_imageInSpare_111 : decode cX11_imageInSpare 111 = .ok (.istore 4, 2) := by decide +kernel
theorem dX11_imageInSpare_113 : decode cX11_imageInSpare 113 = .ok (.aload_n 0, 1) := by decide +kernel
theorem dX11_imageInSpare_114 : decode cX11_imageInSpare 114 = .ok (.getfield 23, 3) := by decide +kernel
theorem dX11_imageInSpare_117 : decode cX11_imageInSpare 117 = .ok (.iload 4, 2) := by decide +kernel
theorem dX11_imageInSpare_119 : decode cX11_imageInSpare 119 = .ok (.sipush 255, 3) := by decide +kernel
theorem dX11_imageInSpare_122 : decode cX11_imageInSpare 122 = .ok (.if_icmp .ne 7, 3) := by decide +kernel
theorem dX11_imageInSpare_125 : decode cX11_imageInSpare 125 = .ok (.iconst (-1), 1) := by decide +kernel
theorem dX11_imageInSpare_126 : decode cX11_imageInSpare 126 = .ok (.goto 5, 3) := by decide +kernel
theorem dX11_imageInSpare_129 : decode cX11_imageInSpare 129 = .ok (.iload 4, 2) := by decide +kernel
theorem dX11_imageInSpare_131 : decode cX11_imageInSpare 131 = .ok (.aload_n 0, 1) := by decide +kernel
theorem dX11_imageInSpare_132 : decode cX11_imageInSpare 132 = .ok (.getfield 10, 3) := by decide +kernel
theorem dX11_imageInSpare_135 : decode cX11_imageInSpare 135 = .ok (.iconst 2, 1) := by decide +kernel
theorem dX11_imageInSpare_136 : decode cX11_imageInSpare 136 = .ok (.iload_n 3, 1) := by decide +kernel
theorem dX11_imageInSpare_137 : decode cX11_imageInSpare 137 = .ok (.imul, 1) := by decide +kernel
theorem dX11_imageInSpare_138 : decode cX11_imageInSpare 138 = .ok (.iconst 2, 1) := by decide +kernel
theorem dX11_imageInSpare_139 : decode cX11_imageInSpare 139 = .ok (.iadd, 1) := by decide +kernel
theorem dX11_imageInSpare_140 : decode cX11_imageInSpare 140 = .ok (.invokevirtual 399, 3) := by decide +kernel
theorem dX11_imageInSpare_143 : decode cX11_imageInSpare 143 = .ok (.invokevirtual 346, 3) := by decide +kernel
theorem dX11_imageInSpare_146 : decode cX11_imageInSpare 146 = .ok (.ifCond .ne 5, 3) := by decide +kernel
theorem dX11_imageInSpare_149 : decode cX11_imageInSpare 149 = .ok (.iconst 0, 1) := by decide +kernel
theorem dX11_imageInSpare_150 : decode cX11_imageInSpare 150 = .ok (.ireturn, 1) := by decide +kernel
theorem dX11_imageInSpare_151 : decode cX11_imageInSpare 151 = .ok (.iinc 3 1, 3) := by decide +kernel
theorem dX11_imageInSpare_154 : decode cX11_imageInSpare 154 = .ok (.goto (-60), 3) := by decide +kernel
theorem dX11_imageInSpare_157 : decode cX11_imageInSpare 157 = .ok (.iconst 1, 1) := by decide +kernel
theorem dX11_imageInSpare_158 : decode cX11_imageInSpare 158 = .ok (.ireturn, 1) := by decide +kernel
theorem dX12_init_0 : decode cX12_init 0 = .ok (.aload_n 0, 1) := by decide +kernel
theorem dX12_init_1 : decode cX12_init 1 = .ok (.invokespecial 1, 3) := by decide +kernel
theorem dX12_init_4 : decode cX12_init 4 = .ok (.aload_n 0, 1) := by decide +kernel
theorem dX12_init_5 : decode cX12_init 5 = .ok (.sipush 1600, 3) := by decide +kernel
theorem dX12_init_8 : decode cX12_init 8 = .ok (.newarray .int, 2) := by decide +kernel
theorem dX12_init_10 : decode cX12_init 10 = .ok (.putfield 7, 3) := by decide +kernel
theorem dX12_init_13 : decode cX12_init 13 = .ok (.aload_n 0, 1) := by decide +kernel
theorem dX12_init_14 : decode cX12_init 14 = .ok (.iconst (-1), 1) := by decide +kernel
theorem dX12_init_15 : decode cX12_init 15 = .ok (.putfield 13, 3) := by decide +kernel
theorem dX12_init_18 : decode cX12_init 18 = .ok (.aload_n 0, 1) := by decide +kernel
theorem dX12_init_19 : decode cX12_init 19 = .ok (.iconst 4, 1) := by decide +kernel
theorem dX12_init_20 : decode cX12_init 20 = .ok (.newarray .char, 2) := by decide +kernel
theorem dX12_init_22 : decode cX12_init 22 = .ok (.dup, 1) := by decide +kernel
theorem dX12_init_23 : decode cX12_init 23 = .ok (.iconst 0, 1) := by decide +kernel
theorem dX12_init_24 : decode cX12_init 24 = .ok (.bipush 115, 2) := by decide +kernel
theorem dX12_init_26 : decode cX12_init 26 = .ok (.castore, 1) := by decide +kernel
theorem dX12_init_27 : decode cX12_init 27 = .ok (.dup, 1) := by decide +kernel
theorem dX12_init_28 : decode cX12_init 28 = .ok (.iconst 1, 1) := by decide +kernel
theorem dX12_init_29 : decode cX12_init 29 = .ok (.bipush 116, 2) := by decide +kernel
theorem dX12_init_31 : decode cX12_init 31 = .ok (.castore, 1) := by decide +kernel
theorem dX12_init_32 : decode cX12_init 32 = .ok (.dup, 1) := by decide +kernel
theorem dX12_init_33 : decode cX12_init 33 = .ok (.iconst 2, 1) := by decide +kernel
theorem dX12_init_34 : decode cX12_init 34 = .ok (.bipush 101, 2) := by decide +kernel
theorem dX12_init_36 : decode cX12_init 36 = .ok (.castore, 1) := by decide +kernel
theorem dX12_init_37 : decode cX12_init 37 = .ok (.dup, 1) := by decide +kernel
theorem dX12_init_38 : decode cX12_init 38 = .ok (.iconst 3, 1) := by decide +kernel
theorem dX12_init_39 : decode cX12_init 39 = .ok (.bipush 112, 2) := by decide +kernel
theorem dX12_init_41 : decode cX12_init 41 = .ok (.castore, 1) := by decide +kernel
theorem dX12_init_42 : decode cX12_init 42 = .ok (.putfield 17, 3) := by decide +kernel
theorem dX12_init_45 : decode cX12_init 45 = .ok (.aload_n 0, 1) := by decide +kernel
theorem dX12_init_46 : decode cX12_init 46 = .ok (.iconst 3, 1) := by decide +kernel
theorem dX12_init_47 : decode cX12_init 47 = .ok (.newarray .char, 2) := by decide +kernel
theorem dX12_init_49 : decode cX12_init 49 = .ok (.dup, 1) := by decide +kernel
theorem dX12_init_50 : decode cX12_init 50 = .ok (.iconst 0, 1) := by decide +kernel
theorem dX12_init_51 : decode cX12_init 51 = .ok (.bipush 102, 2) := by decide +kernel
theorem dX12_init_53 : decode cX12_init 53 = .ok (.castore, 1) := by decide +kernel
theorem dX12_init_54 : decode cX12_init 54 = .ok (.dup, 1) := by decide +kernel
theorem dX12_init_55 : decode cX12_init 55 = .ok (.iconst 1, 1) := by decide +kernel
theorem dX12_init_56 : decode cX12_init 56 = .ok (.bipush 111, 2) := by decide +kernel
theorem dX12_init_58 : decode cX12_init 58 = .ok (.castore, 1) := by decide +kernel
theorem dX12_init_59 : decode cX12_init 59 = .ok (.dup, 1) := by decide +kernel
theorem dX12_init_60 : decode cX12_init 60 = .ok (.iconst 2, 1) := by decide +kernel
theorem dX12_init_61 : decode cX12_init 61 = .ok (.bipush 114, 2) := by decide +kernel
theorem dX12_init_63 : decode cX12_init 63 = .ok (.castore, 1) := by decide +kernel
theorem dX12_init_64 : decode cX12_init 64 = .ok (.putfield 21, 3) := by decide +kernel
theorem dX12_init_67 : decode cX12_init 67 = .ok (.aload_n 0, 1) := by decide +kernel
theorem dX12_init_68 : decode cX12_init 68 = .ok (.iconst 4, 1) := by decide +kernel
theorem dX12_init_69 : decode cX12_init 69 = .ok (.newarray .char, 2) := by decide +kernel
theorem dX12_init_71 : decode cX12_init 71 = .ok (.dup, 1) := by decide +kernel
theorem dX12_init_72 : decode cX12_init 72 = .ok (.iconst 0, 1) := by decide +kernel
theorem dX12_init_73 : decode cX12_init 73 = .ok (.bipush 114, 2) := by decide +kernel
theorem dX12_init_75 : decode cX12_init 75 = .ok (.castore, 1) := by decide +kernel
theorem dX12_init_76 : decode cX12_init 76 = .ok (.dup, 1) := by decide +kernel
theorem dX12_init_77 : decode cX12_init 77 = .ok (.iconst 1, 1) := by decide +kernel
theorem dX12_init_78 : decode cX12_init 78 = .ok (.bipush 101, 2) := by decide +kernel
theorem dX12_init_80 : decode cX12_init 80 = .ok (.castore, 1) := by decide +kernel
theorem dX12_init_81 : decode cX12_init 81 = .ok (.dup, 1) := by decide +kernel
theorem dX12_init_82 : decode cX12_init 82 = .ok (.iconst 2, 1) := by decide +kernel
theorem dX12_init_83 : decode cX12_init 83 = .ok (.bipush 115, 2) := by decide +kernel
theorem dX12_init_85 : decode cX12_init 85 = .ok (.castore, 1) := by decide +kernel
theorem dX12_init_86 : decode cX12_init 86 = .ok (.dup, 1) := by decide +kernel
theorem dX12_init_87 : decode cX12_init 87 = .ok (.iconst 3, 1) := by decide +kernel
theorem dX12_init_88 : decode cX12_init 88 = .ok (.bipush 116, 2) := by decide +kernel
theorem dX12_init_90 : decode cX12_init 90 = .ok (.castore, 1) := by decide +kernel
theorem dX12_init_91 : decode cX12_init 91 = .ok (.putfield 24, 3) := by decide +kernel
theorem dX12_init_94 : decode cX12_init 94 = .ok (.aload_n 0, 1) := by decide +kernel
theorem dX12_init_95 : decode cX12_init 95 = .ok (.bipush 7, 2) := by decide +kernel
theorem dX12_init_97 : decode cX12_init 97 = .ok (.newarray .char, 2) := by decide +kernel
theorem dX12_init_99 : decode cX12_init 99 = .ok (.dup, 1) := by decide +kernel
theorem dX12_init_100 : decode cX12_init 100 = .ok (.iconst 0, 1) := by decide +kernel
theorem dX12_init_101 : decode cX12_init 101 = .ok (.bipush 109, 2) := by decide +kernel
theorem dX12_init_103 : decode cX12_init 103 = .ok (.castore, 1) := by decide +kernel
theorem dX12_init_104 : decode cX12_init 104 = .ok (.dup, 1) := by decide +kernel
theorem dX12_init_105 : decode cX12_init 105 = .ok (.iconst 1, 1) := by decide +kernel
theorem dX12_init_106 : decode cX12_init 106 = .ok (.bipush 101, 2) := by decide +kernel
theorem dX12_init_108 : decode cX12_init 108 = .ok (.castore, 1) := by decide +kernel
theorem dX12_init_109 : decode cX12_init 109 = .ok (.dup, 1) := by decide +kernel
theorem dX12_init_110 : decode cX12_init 110 = .ok (.iconst 2, 1) := by decide +kernel
theorem dX12_init_111 : decode cX12_init 111 = .ok (.bipush 97, 2) := by decide +kernel
theorem dX12_init_113 : decode cX12_init 113 = .ok (.castore, 1) := by decide +kernel
theorem dX12_init_114 : decode cX12_init 114 = .ok (.dup, 1) := by decide +kernel
theorem dX12_init_115 : decode cX12_init 115 = .ok (.iconst 3, 1) := by decide +kernel
theorem dX12_init_116 : decode cX12_init 116 = .ok (.bipush 115, 2) := by decide +kernel
theorem dX12_init_118 : decode cX12_init 118 = .ok (.castore, 1) := by decide +kernel
theorem dX12_init_119 : decode cX12_init 119 = .ok (.dup, 1) := by decide +kernel
theorem dX12_init_120 : decode cX12_init 120 = .ok (.iconst 4, 1) := by decide +kernel
theorem dX12_init_121 : decode cX12_init 121 = .ok (.bipush 117, 2) := by decide +kernel
theorem dX12_init_123 : decode cX12_init 123 = .ok (.castore, 1) := by decide +kernel
theorem dX12_init_124 : decode cX12_init 124 = .ok (.dup, 1) := by decide +kernel
theorem dX12_init_125 : decode cX12_init 125 = .ok (.iconst 5, 1) := by decide +kernel
theorem dX12_init_126 : decode cX12_init 126 = .ok (.bipush 114, 2) := by decide +kernel
theorem dX12_init_128 : decode cX12_init 128 = .ok (.castore, 1) := by decide +kernel
theorem dX12_init_129 : decode cX12_init 129 = .ok (.dup, 1) := by decide +kernel
theorem dX12_init_130 : decode cX12_init 130 = .ok (.bipush 6, 2) := by decide +kernel
theorem dX12_init_132 : decode cX12_init 132 = .ok (.bipush 101, 2) := by decide +kernel
theorem dX12_init_134 : decode cX12_init 134 = .ok (.castore, 1) := by decide +kernel
theorem dX12_init_135 : decode cX12_init 135 = .ok (.putfield 27, 3) := by decide +kernel
theorem dX12_init_138 : decode cX12_init 138 = .ok (.aload_n 0, 1) := by decide +kernel
theorem dX12_init_139 : decode cX12_init 139 = .ok (.iconst 3, 1) := by decide +kernel
theorem dX12_init_140 : decode cX12_init 140 = .ok (.newarray .char, 2) := by decide +kernel
theorem dX12_init_142 : decode cX12_init 142 = .ok (.dup, 1) := by decide +kernel
theorem dX12_init_143 : decode cX12_init 143 = .ok (.iconst 0, 1) := by decide +kernel
theorem dX12_init_144 : decode cX12_init 144 = .ok (.bipush 98, 2) := by decide +kernel
theorem dX12_init_146 : decode cX12_init 146 = .ok (.castore, 1) := by decide +kernel
theorem dX12_init_147 : decode cX12_init 147 = .ok (.dup, 1) := by decide +kernel
theorem dX12_init_148 : decode cX12_init 148 = .ok (.iconst 1, 1) := by decide +kernel
theorem dX12_init_149 : decode cX12_init 149 = .ok (.bipush 97, 2) := by decide +kernel
theorem dX12_init_151 : decode cX12_init 151 = .ok (.castore, 1) := by decide +kernel
theorem dX12_init_152 : decode cX12_init 152 = .ok (.dup, 1) := by decide +kernel
theorem dX12_init_153 : decode cX12_init 153 = .ok (.iconst 2, 1) := by decide +kernel
theorem dX12_init_154 : decode cX12_init 154 = .ok (.bipush 100, 2) := by decide +kernel
theorem dX12_init_156 : decode cX12_init 156 = .ok (.castore, 1) := by decide +kernel
theorem dX12_init_157 : decode cX12_init 157 = .ok (.putfield 30, 3) := by decide +kernel
theorem dX12_init_160 : decode cX12_init 160 = .ok (.aload_n 0, 1) := by decide +kernel
theorem dX12_init_161 : decode cX12_init 161 = .ok (.iconst 5, 1) := by decide +kernel
theorem dX12_init_162 : decode cX12_init 162 = .ok (.newarray .char, 2) := by decide +kernel
theorem dX12_init_164 : decode cX12_init 164 = .ok (.dup, 1) := by decide +kernel
theorem dX12_init_165 : decode cX12_init 165 = .ok (.iconst 0, 1) := by decide +kernel
theorem dX12_init_166 : decode cX12_init 166 = .ok (.bipush 109, 2) := by decide +kernel
theorem dX12_init_168 : decode cX12_init 168 = .ok (.castore, 1) := by decide +kernel
theorem dX12_init_169 : decode cX12_init 169 = .ok (.dup, 1) := by decide +kernel
theorem dX12_init_170 : decode cX12_init 170 = .ok (.iconst 1, 1) := by decide +kernel
theorem dX12_init_171 : decode cX12_init 171 = .ok (.bipush 111, 2) := by decide +kernel
theorem dX12_init_173 : decode cX12_init 173 = .ok (.castore, 1) := by decide +kernel
theorem dX12_init_174 : decode cX12_init 174 = .ok (.dup, 1) := by decide +kernel
theorem dX12_init_175 : decode cX12_init 175 = .ok (.iconst 2, 1) := by decide +kernel
theorem dX12_init_176 : decode cX12_init 176 = .ok (.bipush 116, 2) := by decide +kernel
theorem dX12_init_178 : decode cX12_init 178 = .ok (.castore, 1) := by decide +kernel
theorem dX12_init_179 : decode cX12_init 179 = .ok (.dup, 1) := by decide +kernel
theorem dX12_init_180 : decode cX12_init 180 = .ok (.iconst 3, 1) := by decide +kernel
theorem dX12_init_181 : decode cX12_init 181 = .ok (.bipush 116, 2) := by decide +kernel
theorem dX12_init_183 : decode cX12_init 183 = .ok (.castore, 1) := by decide +kernel
theorem dX12_init_184 : decode cX12_init 184 = .ok (.dup, 1) := by decide +kernel
theorem dX12_init_185 : decode cX12_init 185 = .ok (.iconst 4, 1) := by decide +kernel
theorem dX12_init_186 : decode cX12_init 186 = .ok (.bipush 111, 2) := by decide +kernel
theorem dX12_init_188 : decode cX12_init 188 = .ok (.castore, 1) := by decide +kernel
theorem dX12_init_189 : decode cX12_init 189 = .ok (.putfield 33, 3) := by decide +kernel
theorem dX12_init_192 : decode cX12_init 192 = .ok (.aload_n 0, 1) := by decide +kernel
theorem dX12_init_193 : decode cX12_init 193 = .ok (.iconst 4, 1) := by decide +kernel
theorem dX12_init_194 : decode cX12_init 194 = .ok (.newarray .char, 2) := by decide +kernel
theorem dX12_init_196 : decode cX12_init 196 = .ok (.dup, 1) := by decide +kernel
theorem dX12_init_197 : decode cX12_init 197 = .ok (.iconst 0, 1) := by decide +kernel
theorem dX12_init_198 : decode cX12_init 198 = .ok (.bipush 119, 2) := by decide +kernel
theorem dX12_init_200 : decode cX12_init 200 = .ok (.castore, 1) := by decide +kernel
theorem dX12_init_201 : decode cX12_init 201 = .ok (.dup, 1) := by decide +kernel
theorem dX12_init_202 : decode cX12_init 202 = .ok (.iconst 1, 1) := by decide +kernel
theorem dX12_init_203 : decode cX12_init 203 = .ok (.bipush 104, 2) := by decide +kernel
theorem dX12_init_205 : decode cX12_init 205 = .ok (.castore, 1) := by decide +kernel
theorem dX12_init_206 : decode cX12_init 206 = .ok (.dup, 1) := by decide +kernel
theorem dX12_init_207 : decode cX12_init 207 = .ok (.iconst 2, 1) := by decide +kernel
theorem dX12_init_208 : decode cX12_init 208 = .ok (.bipush 101, 2) := by decide +kernel
theorem dX12_init_210 : decode cX12_init 210 = .ok (.castore, 1) := by decide +kernel
theorem dX12_init_211 : decode cX12_init 211 = .ok (.dup, 1) := by decide +kernel
theorem dX12_init_212 : decode cX12_init 212 = .ok (.iconst 3, 1) := by decide +kernel
theorem dX12_init_213 : decode cX12_init 213 = .ok (.bipush 110, 2) := by decide +kernel
theorem dX12_init_215 : decode cX12_init 215 = .ok (.castore, 1) := by decide +kernel
theorem dX12_init_216 : decode cX12_init 216 = .ok (.putfield 36, 3) := by decide +kernel
theorem dX12_init_219 : decode cX12_init 219 = .ok (.aload_n 0, 1) := by decide +kernel
theorem dX12_init_220 : decode cX12_init 220 = .ok (.iconst 2, 1) := by decide +kernel
theorem dX12_init_221 : decode cX12_init 221 = .ok (.newarray .char, 2) := by decide +kernel
theorem dX12_init_223 : decode cX12_init 223 = .ok (.dup, 1) := by decide +kernel
theorem dX12_init_224 : decode cX12_init 224 = .ok (.iconst 0, 1) := by decide +kernel
theorem dX12_init_225 : decode cX12_init 225 = .ok (.bipush 111, 2) := by decide +kernel
theorem dX12_init_227 : decode cX12_init 227 = .ok (.castore, 1) := by decide +kernel
theorem dX12_init_228 : decode cX12_init 228 = .ok (.dup, 1) := by decide +kernel
theorem dX12_init_229 : decode cX12_init 229 = .ok (.iconst 1, 1) := by decide +kernel
theorem dX12_init_230 : decode cX12_init 230 = .ok (.bipush 114, 2) := by decide +kernel
theorem dX12_init_232 : decode cX12_init 232 = .ok (.castore, 1) := by decide +kernel
theorem dX12_init_233 : decode cX12_init 233 = .ok (.putfield 39, 3) := by decide +kernel
theorem dX12_init_236 : decode cX12_init 236 = .ok (.aload_n 0, 1) := by decide +kernel
theorem dX12_init_237 : decode cX12_init 237 = .ok (.iconst 3, 1) := by decide +kernel
theorem dX12_init_238 : decode cX12_init 238 = .ok (.newarray .char, 2) := by decide +kernel
theorem dX12_init_240 : decode cX12_init 240 = .ok (.dup, 1) := by decide +kernel
theorem dX12_init_241 : decode cX12_init 241 = .ok (.iconst 0, 1) := by decide +kernel
theorem dX12_init_242 : decode cX12_init 242 = .ok (.bipush 97, 2) := by decide +kernel
theorem dX12_init_244 : decode cX12_init 244 = .ok (.castore, 1) := by decide +kernel
theorem dX12_init_245 : decode cX12_init 245 = .ok (.dup, 1) := by decide +kernel
theorem dX12_init_246 : decode cX12_init 246 = .ok (.iconst 1, 1) := by decide +kernel
theorem dX12_init_247 : decode cX12_init 247 = .ok (.bipush 110, 2) := by decide +kernel
theorem dX12_init_249 : decode cX12_init 249 = .ok (.castore, 1) := by decide +kernel
theorem dX12_init_250 : decode cX12_init 250 = .ok (.dup, 1) := by decide +kernel
theorem dX12_init_251 : decode cX12_init 251 = .ok (.iconst 2, 1) := by decide +kernel
theorem dX12_init_252 : decode cX12_init 252 = .ok (.bipush 100, 2) := by decide +kernel
theorem dX12_init_254 : decode cX12_init 254 = .ok (.castore, 1) := by decide +kernel
theorem dX12_init_255 : decode cX12_init 255 = .ok (.putfield 42, 3) := by decide +kernel
theorem dX12_init_258 : decode cX12_init 258 = .ok (.aload_n 0, 1) := by decide +kernel
theorem dX12_init_259 : decode cX12_init 259 = .ok (.iconst 3, 1) := by decide +kernel
theorem dX12_init_260 : decode cX12_init 260 = .ok (.newarray .char, 2) := by decide +kernel
theorem dX12_init_262 : decode cX12_init 262 = .ok (.dup, 1) := by decide +kernel
theorem dX12_init_263 : decode cX12_init 263 = .ok (.iconst 0, 1) := by decide +kernel
theorem dX12_init_264 : decode cX12_init 264 = .ok (.bipush 110, 2) := by decide +kernel
theorem dX12_init_266 : decode cX12_init 266 = .ok (.castore, 1) := by decide +kernel
theorem dX12_init_267 : decode cX12_init 267 = .ok (.dup, 1) := by decide +kernel
theorem dX12_init_268 : decode cX12_init 268 = .ok (.iconst 1, 1) := by decide +kernel
theorem dX12_init_269 : decode cX12_init 269 = .ok (.bipush 111, 2) := by decide +kernel
theorem dX12_init_271 : decode cX12_init 271 = .ok (.castore, 1) := by decide +kernel
theorem dX12_init_272 : decode cX12_init 272 = .ok (.dup, 1) := by decide +kernel
theorem dX12_init_273 : decode cX12_init 273 = .ok (.iconst 2, 1) := by decide +kernel
theorem dX12_init_274 : decode cX12_init 274 = .ok (.bipush 116, 2) := by decide +kernel
theorem dX12_init_276 : decode cX12_init 276 = .ok (.castore, 1) := by decide +kernel
theorem dX12_init_277 : decode cX12_init 277 = .ok (.putfield 45, 3) := by decide +kernel
theorem dX12_init_280 : decode cX12_init 280 = .ok (.aload_n 0, 1) := by decide +kernel
theorem dX12_init_281 : decode cX12_init 281 = .ok (.iconst 3, 1) := by decide +kernel
theorem dX12_init_282 : decode cX12_init 282 = .ok (.newarray .char, 2) := by decide +kernel
theorem dX12_init_284 : decode cX12_init 284 = .ok (.dup, 1) := by decide +kernel
theorem dX12_init_285 : decode cX12_init 285 = .ok (.iconst 0, 1) := by decide +kernel
theorem dX12_init_286 : decode cX12_init 286 = .ok (.bipush 97, 2) := by decide +kernel
theorem dX12_init_288 : decode cX12_init 288 = .ok (.castore, 1) := by decide +kernel
theorem dX12_init_289 : decode cX12_init 289 = .ok (.dup, 1) := by decide +kernel
theorem dX12_init_290 : decode cX12_init 290 = .ok (.iconst 1, 1) := by decide +kernel
theorem dX12_init_291 : decode cX12_init 291 = .ok (.bipush 108, 2) := by decide +kernel
theorem dX12_init_293 : decode cX12_init 293 = .ok (.castore, 1) := by decide +kernel
theorem dX12_init_294 : decode cX12_init 294 = .ok (.dup, 1) := by decide +kernel
theorem dX12_init_295 : decode cX12_init 295 = .ok (.iconst 2, 1) := by decide +kernel
theorem dX12_init_296 : decode cX12_init 296 = .ok (.bipush 108, 2) := by decide +kernel
theorem dX12_init_298 : decode cX12_init 298 = .ok (.castore, 1) := by decide +kernel
theorem dX12_init_299 : decode cX12_init 299 = .ok (.putfield 48, 3) := by decide +kernel
theorem dX12_init_302 : decode cX12_init 302 = .ok (.aload_n 0, 1) := by decide +kernel
theorem dX12_init_303 : decode cX12_init 303 = .ok (.iconst 3, 1) := by decide +kernel
theorem dX12_init_304 : decode cX12_init 304 = .ok (.newarray .char, 2) := by decide +kernel
theorem dX12_init_306 : decode cX12_init 306 = .ok (.dup, 1) := by decide +kernel
theorem dX12_init_307 : decode cX12_init 307 = .ok (.iconst 0, 1) := by decide +kernel
theorem dX12_init_308 : decode cX12_init 308 = .ok (.bipush 103, 2) := by decide +kernel
theorem dX12_init_310 : decode cX12_init 310 = .ok (.castore, 1) := by decide +kernel
theorem dX12_init_311 : decode cX12_init 311 = .ok (.dup, 1) := by decide +kernel
theorem dX12_init_312 : decode cX12_init 312 = .ok (.iconst 1, 1) := by decide +kernel
theorem dX12_init_313 : decode cX12_init 313 = .ok (.bipush 97, 2) := by decide +kernel
theorem dX12_init_315 : decode cX12_init 315 = .ok (.castore, 1) := by decide +kernel
theorem dX12_init_316 : decode cX12_init 316 = .ok (.dup, 1) := by decide +kernel
theorem dX12_init_317 : decode cX12_init 317 = .ok (.iconst 2, 1) := by decide +kernel
theorem dX12_init_318 : decode cX12_init 318 = .ok (.bipush 112, 2) := by decide +kernel
theorem dX12_init_320 : decode cX12_init 320 = .ok (.castore, 1) := by decide +kernel
theorem dX12_init_321 : decode cX12_init 321 = .ok (.putfield 51, 3) := by decide +kernel
theorem dX12_init_324 : decode cX12_init 324 = .ok (.aload_n 0, 1) := by decide +kernel
theorem dX12_init_325 : decode cX12_init 325 = .ok (.iconst 4, 1) := by decide +kernel
theorem dX12_init_326 : decode cX12_init 326 = .ok (.newarray .char, 2) := by decide +kernel
theorem dX12_init_328 : decode cX12_init 328 = .ok (.dup, 1) := by decide +kernel
theorem dX12_init_329 : decode cX12_init 329 = .ok (.iconst 0, 1) := by decide +kernel
theorem dX12_init_330 : decode cX12_init 330 = .ok (.bipush 115, 2) := by decide +kernel
theorem dX12_init_332 : decode cX12_init 332 = .ok (.castore, 1) := by decide +kernel
theorem dX12_init_333 : decode cX12_init 333 = .ok (.dup, 1) := by decide +kernel
theorem dX12_init_334 : decode cX12_init 334 = .ok (.iconst 1, 1) := by decide +kernel
theorem dX12_init_335 : decode cX12_init 335 = .ok (.bipush 111, 2) := by decide +kernel
theorem dX12_init_337 : decode cX12_init 337 = .ok (.castore, 1) := by decide +kernel
theorem dX12_init_338 : decode cX12_init 338 = .ok (.dup, 1) := by decide +kernel
theorem dX12_init_339 : decode cX12_init 339 = .ok (.iconst 2, 1) := by decide +kernel
theorem dX12_init_340 : decode cX12_init 340 = .ok (.bipush 114, 2) := by decide +kernel
theorem dX12_init_342 : decode cX12_init 342 = .ok (.castore, 1) := by decide +kernel
theorem dX12_init_343 : decode cX12_init 343 = .ok (.dup, 1) := by decide +kernel
theorem dX12_init_344 : decode cX12_init 344 = .ok (.iconst 3, 1) := by decide +kernel
theorem dX12_init_345 : decode cX12_init 345 = .ok (.bipush 116, 2) := by decide +kernel
theorem dX12_init_347 : decode cX12_init 347 = .ok (.castore, 1) := by decide +kernel
theorem dX12_init_348 : decode cX12_init 348 = .ok (.putfield 54, 3) := by decide +kernel
theorem dX12_init_351 : decode cX12_init 351 = .ok (.aload_n 0, 1) := by decide +kernel
theorem dX12_init_352 : decode cX12_init 352 = .ok (.iconst 5, 1) := by decide +kernel
theorem dX12_init_353 : decode cX12_init 353 = .ok (.newarray .char, 2) := by decide +kernel
theorem dX12_init_355 : decode cX12_init 355 = .ok (.dup, 1) := by decide +kernel
theorem dX12_init_356 : decode cX12_init 356 = .ok (.iconst 0, 1) := by decide +kernel
theorem dX12_init_357 : decode cX12_init 357 = .ok (.bipush 117, 2) := by decide +kernel
theorem dX12_init_359 : decode cX12_init 359 = .ok (.castore, 1) := by decide +kernel
theorem dX12_init_360 : decode cX12_init 360 = .ok (.dup, 1) := by decide +kernel
theorem dX12_init_361 : decode cX12_init 361 = .ok (.iconst 1, 1) := by decide +kernel
theorem dX12_init_362 : decode cX12_init 362 = .ok (.bipush 110, 2) := by decide +kernel
theorem dX12_init_364 : decode cX12_init 364 = .ok (.castore, 1) := by decide +kernel
theorem dX12_init_365 : decode cX12_init 365 = .ok (.dup, 1) := by decide +kernel
theorem dX12_init_366 : decode cX12_init 366 = .ok (.iconst 2, 1) := by decide +kernel
theorem dX12_init_367 : decode cX12_init 367 = .ok (.bipush 100, 2) := by decide +kernel
theorem dX12_init_369 : decode cX12_init 369 = .ok (.castore, 1) := by decide +kernel
theorem dX12_init_370 : decode cX12_init 370 = .ok (.dup, 1) := by decide +kernel
theorem dX12_init_371 : decode cX12_init 371 = .ok (.iconst 3, 1) := by decide +kernel
theorem dX12_init_372 : decode cX12_init 372 = .ok (.bipush 101, 2) := by decide +kernel
theorem dX12_init_374 : decode cX12_init 374 = .ok (.castore, 1) := by decide +kernel
theorem dX12_init_375 : decode cX12_init 375 = .ok (.dup, 1) := by decide +kernel
theorem dX12_init_376 : decode cX12_init 376 = .ok (.iconst 4, 1) := by decide +kernel
theorem dX12_init_377 : decode cX12_init 377 = .ok (.bipush 114, 2) := by decide +kernel
theorem dX12_init_379 : decode cX12_init 379 = .ok (.castore, 1) := by decide +kernel
theorem dX12_init_380 : decode cX12_init 380 = .ok (.putfield 57, 3) := by decide +kernel
theorem dX12_init_383 : decode cX12_init 383 = .ok (.aload_n 0, 1) := by decide +kernel
theorem dX12_init_384 : decode cX12_init 384 = .ok (.iconst 4, 1) := by decide +kernel
theorem dX12_init_385 : decode cX12_init 385 = .ok (.newarray .char, 2) := by decide +kernel
theorem dX12_init_387 : decode cX12_init 387 = .ok (.dup, 1) := by decide +kernel
theorem dX12_init_388 : decode cX12_init 388 = .ok (.iconst 0, 1) := by decide +kernel
theorem dX12_init_389 : decode cX12_init 389 = .ok (.bipush 98, 2) := by decide +kernel
theorem dX12_init_391 : decode cX12_init 391 = .ok (.castore, 1) := by decide +kernel
theorem dX12_init_392 : decode cX12_init 392 = .ok (.dup, 1) := by decide +kernel
theorem dX12_init_393 : decode cX12_init 393 = .ok (.iconst 1, 1) := by decide +kernel
theorem dX12_init_394 : decode cX12_init 394 = .ok (.bipush 101, 2) := by decide +kernel
theorem dX12_init_396 : decode cX12_init 396 = .ok (.castore, 1) := by decide +kernel
theorem dX12_init_397 : decode cX12_init 397 = .ok (.dup, 1) := by decide +kernel
theorem dX12_init_398 : decode cX12_init 398 = .ok (.iconst 2, 1) := by decide +kernel
theorem dX12_init_399 : decode cX12_init 399 = .ok (.bipush 97, 2) := by decide +kernel
theorem dX12_init_401 : decode cX12_init 401 = .ok (.castore, 1) := by decide +kernel
theorem dX12_init_402 : decode cX12_init 402 = .ok (.dup, 1) := by decide +kernel
theorem dX12_init_403 : decode cX12_init 403 = .ok (.iconst 3, 1) := by decide +kernel
theorem dX12_init_404 : decode cX12_init 404 = .ok (.bipush 116, 2) := by decide +kernel
theorem dX12_init_406 : decode cX12_init 406 = .ok (.castore, 1) := by decide +kernel
theorem dX12_init_407 : decode cX12_init 407 = .ok (.putfield 60, 3) := by decide +kernel
theorem dX12_init_410 : decode cX12_init 410 = .ok (.aload_n 0, 1) := by decide +kernel
theorem dX12_init_411 : decode cX12_init 411 = .ok (.iconst 4, 1) := by decide +kernel
theorem dX12_init_412 : decode cX12_init 412 = .ok (.newarray .char, 2) := by decide +kernel
theorem dX12_init_414 : decode cX12_init 414 = .ok (.dup, 1) := by decide +kernel
theorem dX12_init_415 : decode cX12_init 415 = .ok (.iconst 0, 1) := by decide +kernel
theorem dX12_init_416 : decode cX12_init 416 = .ok (.bipush 114, 2) := by decide +kernel
theorem dX12_init_418 : decode cX12_init 418 = .ok (.castore, 1) := by decide +kernel
theorem dX12_init_419 : decode cX12_init 419 = .ok (.dup, 1) := by decide +kernel
theorem dX12_init_420 : decode cX12_init 420 = .ok (.iconst 1, 1) := by decide +kernel
theorem dX12_init_421 : decode cX12_init 421 = .ok (.bipush 105, 2) := by decide +kernel
theorem dX12_init_423 : decode cX12_init 423 = .ok (.castore, 1) := by decide +kernel
theorem dX12_init_424 : decode cX12_init 424 = .ok (.dup, 1) := by decide +kernel
theorem dX12_init_425 : decode cX12_init 425 = .ok (.iconst 2, 1) := by decide +kernel
theorem dX12_init_426 : decode cX12_init 426 = .ok (.bipush 115, 2) := by decide +kernel
theorem dX12_init_428 : decode cX12_init 428 = .ok (.castore, 1) := by decide +kernel
theorem dX12_init_429 : decode cX12_init 429 = .ok (.dup, 1) := by decide +kernel
theorem dX12_init_430 : decode cX12_init 430 = .ok (.iconst 3, 1) := by decide +kernel
theorem dX12_init_431 : decode cX12_init 431 = .ok (.bipush 101, 2) := by decide +kernel
theorem dX12_init_433 : decode cX12_init 433 = .ok (.castore, 1) := by decide +kernel
theorem dX12_init_434 : decode cX12_init 434 = .ok (.putfield 63, 3) := by decide +kernel
theorem dX12_init_437 : decode cX12_init 437 = .ok (.aload_n 0, 1) := by decide +kernel
theorem dX12_init_438 : decode cX12_init 438 = .ok (.iconst 5, 1) := by decide +kernel
theorem dX12_init_439 : decode cX12_init 439 = .ok (.newarray .char, 2) := by decide +kernel
theorem dX12_init_441 : decode cX12_init 441 = .ok (.dup, 1) := by decide +kernel
theorem dX12_init_442 : decode cX12_init 442 = .ok (.iconst 0, 1) := by decide +kernel
theorem dX12_init_443 : decode cX12_init 443 = .ok (.bipush 99, 2) := by decide +kernel
theorem dX12_init_445 : decode cX12_init 445 = .ok (.castore, 1) := by decide +kernel
theorem dX12_init_446 : decode cX12_init 446 = .ok (.dup, 1) := by decide +kernel
theorem dX12_init_447 : decode cX12_init 447 = .ok (.iconst 1, 1) := by decide +kernel
theorem dX12_init_448 : decode cX12_init 448 = .ok (.bipush 108, 2) := by decide +kernel
theorem dX12_init_450 : decode cX12_init 450 = .ok (.castore, 1) := by decide +kernel
theorem dX12_init_451 : decode cX12_init 451 = .ok (.dup, 1) := by decide +kernel
theorem dX12_init_452 : decode cX12_init 452 = .ok (.iconst 2, 1) := by decide +kernel
theorem dX12_init_453 : decode cX12_init 453 = .ok (.bipush 105, 2) := by decide +kernel
theorem dX12_init_455 : decode cX12_init 455 = .ok (.castore, 1) := by decide +kernel
theorem dX12_init_456 : decode cX12_init 456 = .ok (.dup, 1) := by decide +kernel
theorem dX12_init_457 : decode cX12_init 457 = .ok (.iconst 3, 1) := by decide +kernel
theorem dX12_init_458 : decode cX12_init 458 = .ok (.bipush 109, 2) := by decide +kernel
theorem dX12_init_460 : decode cX12_init 460 = .ok (.castore, 1) := by decide +kernel
theorem dX12_init_461 : decode cX12_init 461 = .ok (.dup, 1) := by decide +kernel
theorem dX12_init_462 : decode cX12_init 462 = .ok (.iconst 4, 1) := by decide +kernel
theorem dX12_init_463 : decode cX12_init 463 = .ok (.bipush 98, 2) := by decide +kernel
theorem dX12_init_465 : decode cX12_init 465 = .ok (.castore, 1) := by decide +kernel
theorem dX12_init_466 : decode cX12_init 466 = .ok (.putfield 66, 3) := by decide +kernel
theorem dX12_init_469 : decode cX12_init 469 = .ok (.aload_n 0, 1) := by decide +kernel
theorem dX12_init_470 : decode cX12_init 470 = .ok (.iconst 3, 1) := by decide +kernel
theorem dX12_init_471 : decode cX12_init 471 = .ok (.newarray .char, 2) := by decide +kernel
theorem dX12_init_473 : decode cX12_init 473 = .ok (.dup, 1) := by decide +kernel
theorem dX12_init_474 : decode cX12_init 474 = .ok (.iconst 0, 1) := by decide +kernel
theorem dX12_init_475 : decode cX12_init 475 = .ok (.bipush 119, 2) := by decide +kernel
theorem dX12_init_477 : decode cX12_init 477 = .ok (.castore, 1) := by decide +kernel
theorem dX12_init_478 : decode cX12_init 478 = .ok (.dup, 1) := by decide +kernel
theorem dX12_init_479 : decode cX12_init 479 = .ok (.iconst 1, 1) := by decide +kernel
theorem dX12_init_480 : decode cX12_init 480 = .ok (.bipush 97, 2) := by decide +kernel
theorem dX12_init_482 : decode cX12_init 482 = .ok (.castore, 1) := by decide +kernel
theorem dX12_init_483 : decode cX12_init 483 = .ok (.dup, 1) := by decide +kernel
theorem dX12_init_484 : decode cX12_init 484 = .ok (.iconst 2, 1) := by decide +kernel
theorem dX12_init_485 : decode cX12_init 485 = .ok (.bipush 115, 2) := by decide +kernel
theorem dX12_init_487 : decode cX12_init 487 = .ok (.castore, 1) := by decide +kernel
theorem dX12_init_488 : decode cX12_init 488 = .ok (.putfield 69, 3) := by decide +kernel
theorem dX12_init_491 : decode cX12_init 491 = .ok (.aload_n 0, 1) := by decide +kernel
theorem dX12_init_492 : decode cX12_init 492 = .ok (.iconst 4, 1) := by decide +kernel
theorem dX12_init_493 : decode cX12_init 493 = .ok (.newarray .char, 2) := by decide +kernel
theorem dX12_init_495 : decode cX12_init 495 = .ok (.dup, 1) := by decide +kernel
theorem dX12_init_496 : decode cX12_init 496 = .ok (.iconst 0, 1) := by decide +kernel
theorem dX12_init_497 : decode cX12_init 497 = .ok (.bipush 108, 2) := by decide +kernel
theorem dX12_init_499 : decode cX12_init 499 = .ok (.castore, 1) := by decide +kernel
theorem dX12_init_500 : decode cX12_init 500 = .ok (.dup, 1) := by decide +kernel
theorem dX12_init_501 : decode cX12_init 501 = .ok (.iconst 1, 1) := by decide +kernel
theorem dX12_init_502 : decode cX12_init 502 = .ok (.bipush 97, 2) := by decide +kernel
theorem dX12_init_504 : decode cX12_init 504 = .ok (.castore, 1) := by decide +kernel
theorem dX12_init_505 : decode cX12_init 505 = .ok (.dup, 1) := by decide +kernel
theorem dX12_init_506 : decode cX12_init 506 = .ok (.iconst 2, 1) := by decide +kernel
theorem dX12_init_507 : decode cX12_init 507 = .ok (.bipush 115, 2) := by decide +kernel
theorem dX12_init_509 : decode cX12_init 509 = .ok (.castore, 1) := by decide +kernel
theorem dX12_init_510 : decode cX12_init 510 = .ok (.dup, 1) := by decide +kernel
theorem dX12_init_511 : decode cX12_init 511 = .ok (.iconst 3, 1) := by decide +kernel
theorem dX12_init_512 : decode cX12_init 512 = .ok (.bipush 116, 2) := by decide +kernel
theorem dX12_init_514 : decode cX12_init 514 = .ok (.castore, 1) := by decide +kernel
theorem dX12_init_515 : decode cX12_init 515 = .ok (.putfield 72, 3) := by decide +kernel
theorem dX12_init_518 : decode cX12_init 518 = .ok (.aload_n 0, 1) := by decide +kernel
theorem dX12_init_519 : decode cX12_init 519 = .ok (.iconst 5, 1) := by decide +kernel
theorem dX12_init_520 : decode cX12_init 520 = .ok (.newarray .char, 2) := by decide +kernel
theorem dX12_init_522 : decode cX12_init 522 = .ok (.dup, 1) := by decide +kernel
theorem dX12_init_523 : decode cX12_init 523 = .ok (.iconst 0, 1) := by decide +kernel
theorem dX12_init_524 : decode cX12_init 524 = .ok (.bipush 100, 2) := by decide +kernel
theorem dX12_init_526 : decode cX12_init 526 = .ok (.castore, 1) := by decide +kernel
theorem dX12_init_527 : decode cX12_init 527 = .ok (.dup, 1) := by decide +kernel
theorem dX12_init_528 : decode cX12_init 528 = .ok (.iconst 1, 1) := by decide +kernel
theorem dX12_init_529 : decode cX12_init 529 = .ok (.bipush 101, 2) := by decide +kernel
theorem dX12_init_531 : decode cX12_init 531 = .ok (.castore, 1) := by decide +kernel
theorem dX12_init_532 : decode cX12_init 532 = .ok (.dup, 1) := by decide +kernel
theorem dX12_init_533 : decode cX12_init 533 = .ok (.iconst 2, 1) := by decide +kernel
theorem dX12_init_534 : decode cX12_init 534 = .ok (.bipush 108, 2) := by decide +kernel
theorem dX12_init_536 : decode cX12_init 536 = .ok (.castore, 1) := by decide +kernel
theorem dX12_init_537 : decode cX12_init 537 = .ok (.dup, 1) := by decide +kernel
theorem dX12_init_538 : decode cX12_init 538 = .ok (.iconst 3, 1) := by decide +kernel
theorem dX12_init_539 : decode cX12_init 539 = .ok (.bipush 97, 2) := by decide +kernel
theorem dX12_init_541 : decode cX12_init 541 = .ok (.castore, 1) := by decide +kernel
theorem dX12_init_542 : decode cX12_init 542 = .ok (.dup, 1) := by decide +kernel
theorem dX12_init_543 : decode cX12_init 543 = .ok (.iconst 4, 1) := by decide +kernel
theorem dX12_init_544 : decode cX12_init 544 = .ok (.bipush 121, 2) := by decide +kernel
theorem dX12_init_546 : decode cX12_init 546 = .ok (.castore, 1) := by decide +kernel
theorem dX12_init_547 : decode cX12_init 547 = .ok (.putfield 75, 3) := by decide +kernel
theorem dX12_init_550 : decode cX12_init 550 = .ok (.aload_n 0, 1) := by decide +kernel
theorem dX12_init_551 : decode cX12_init 551 = .ok (.iconst 4, 1) := by decide +kernel
theorem dX12_init_552 : decode cX12_init 552 = .ok (.newarray .char, 2) := by decide +kernel
theorem dX12_init_554 : decode cX12_init 554 = .ok (.dup, 1) := by decide +kernel
theorem dX12_init_555 : decode cX12_init 555 = .ok (.iconst 0, 1) := by decide +kernel
theorem dX12_init_556 : decode cX12_init 556 = .ok (.bipush 104, 2) := by decide +kernel
theorem dX12_init_558 : decode cX12_init 558 = .ok (.castore, 1) := by decide +kernel
theorem dX12_init_559 : decode cX12_init 559 = .ok (.dup, 1) := by decide +kernel
theorem dX12_init_560 : decode cX12_init 560 = .ok (.iconst 1, 1) := by decide +kernel
theorem dX12_init_561 : decode cX12_init 561 = .ok (.bipush 105, 2) := by decide +kernel
theorem dX12_init_563 : decode cX12_init 563 = .ok (.castore, 1) := by decide +kernel
theorem dX12_init_564 : decode cX12_init 564 = .ok (.dup, 1) := by decide +kernel
theorem dX12_init_565 : decode cX12_init 565 = .ok (.iconst 2, 1) := by decide +kernel
theorem dX12_init_566 : decode cX12_init 566 = .ok (.bipush 103, 2) := by decide +kernel
theorem dX12_init_568 : decode cX12_init 568 = .ok (.castore, 1) := by decide +kernel
theorem dX12_init_569 : decode cX12_init 569 = .ok (.dup, 1) := by decide +kernel
theorem dX12_init_570 : decode cX12_init 570 = .ok (.iconst 3, 1) := by decide +kernel
theorem dX12_init_571 : decode cX12_init 571 = .ok (.bipush 104, 2) := by decide +kernel
theorem dX12_init_573 : decode cX12_init 573 = .ok (.castore, 1) := by decide +kernel
theorem dX12_init_574 : decode cX12_init 574 = .ok (.putfield 78, 3) := by decide +kernel
theorem dX12_init_577 : decode cX12_init 577 = .ok (.aload_n 0, 1) := by decide +kernel
theorem dX12_init_578 : decode cX12_init 578 = .ok (.bipush 6, 2) := by decide +kernel
theorem dX12_init_580 : decode cX12_init 580 = .ok (.newarray .char, 2) := by decide +kernel
theorem dX12_init_582 : decode cX12_init 582 = .ok (.dup, 1) := by decide +kernel
theorem dX12_init_583 : decode cX12_init 583 = .ok (.iconst 0, 1) := by decide +kernel
theorem dX12_init_584 : decode cX12_init 584 = .ok (.bipush 109, 2) := by decide +kernel
theorem dX12_init_586 : decode cX12_init 586 = .ok (.castore, 1) := by decide +kernel
theorem dX12_init_587 : decode cX12_init 587 = .ok (.dup, 1) := by decide +kernel
theorem dX12_init_588 : decode cX12_init 588 = .ok (.iconst 1, 1) := by decide +kernel
theorem dX12_init_589 : decode cX12_init 589 = .ok (.bipush 105, 2) := by decide +kernel
theorem dX12_init_591 : decode cX12_init 591 = .ok (.castore, 1) := by decide +kernel
theorem dX12_init_592 : decode cX12_init 592 = .ok (.dup, 1) := by decide +kernel
theorem dX12_init_593 : decode cX12_init 593 = .ok (.iconst 2, 1) := by decide +kernel
theorem dX12_init_594 : decode cX12_init 594 = .ok (.bipush 114, 2) := by decide +kernel
theorem dX12_init_596 : decode cX12_init 596 = .ok (.castore, 1) := by decide +kernel
theorem dX12_init_597 : decode cX12_init 597 = .ok (.dup, 1) := by decide +kernel
theorem dX12_init_598 : decode cX12_init 598 = .ok (.iconst 3, 1) := by decide +kernel
theorem dX12_init_599 : decode cX12_init 599 = .ok (.bipush 114, 2) := by decide +kernel
theorem dX12_init_601 : decode cX12_init 601 = .ok (.castore, 1) := by decide +kernel
theorem dX12_init_602 : decode cX12_init 602 = .ok (.dup, 1) := by decide +kernel
theorem dX12_init_603 : decode cX12_init 603 = .ok (.iconst 4, 1) := by decide +kernel
theorem dX12_init_604 : decode cX12_init 604 = .ok (.bipush 111, 2) := by decide +kernel
theorem dX12_init_606 : decode cX12_init 606 = .ok (.castore, 1) := by decide +kernel
theorem dX12_init_607 : decode cX12_init 607 = .ok (.dup, 1) := by decide +kernel
theorem dX12_init_608 : decode cX12_init 608 = .ok (.iconst 5, 1) := by decide +kernel
theorem dX12_init_609 : decode cX12_init 609 = .ok (.bipush 114, 2) := by decide +kernel
theorem dX12_init_611 : decode cX12_init 611 = .ok (.castore, 1) := by decide +kernel
theorem dX12_init_612 : decode cX12_init 612 = .ok (.putfield 81, 3) := by decide +kernel
theorem dX12_init_615 : decode cX12_init 615 = .ok (.aload_n 0, 1) := by decide +kernel
theorem dX12_init_616 : decode cX12_init 616 = .ok (.iconst 4, 1) := by decide +kernel
theorem dX12_init_617 : decode cX12_init 617 = .ok (.newarray .char, 2) := by decide +kernel
theorem dX12_init_619 : decode cX12_init 619 = .ok (.dup, 1) := by decide +kernel
theorem dX12_init_620 : decode cX12_init 620 = .ok (.iconst 0, 1) := by decide +kernel
theorem dX12_init_621 : decode cX12_init 621 = .ok (.bipush 98, 2) := by decide +kernel
theorem dX12_init_623 : decode cX12_init 623 = .ok (.castore, 1) := by decide +kernel
theorem dX12_init_624 : decode cX12_init 624 = .ok (.dup, 1) := by decide +kernel
theorem dX12_init_625 : decode cX12_init 625 = .ok (.iconst 1, 1) := by decide +kernel
theorem dX12_init_626 : decode cX12_init 626 = .ok (.bipush 97, 2) := by decide +kernel
theorem dX12_init_628 : decode cX12_init 628 = .ok (.castore, 1) := by decide +kernel
theorem dX12_init_629 : decode cX12_init 629 = .ok (.dup, 1) := by decide +kernel
theorem dX12_init_630 : decode cX12_init 630 = .ok (.iconst 2, 1) := by decide +kernel
theorem dX12_init_631 : decode cX12_init 631 = .ok (.bipush 99, 2) := by decide +kernel
theorem dX12_init_633 : decode cX12_init 633 = .ok (.castore, 1) := by decide +kernel
theorem dX12_init_634 : decode cX12_init 634 = .ok (.dup, 1) := by decide +kernel
theorem dX12_init_635 : decode cX12_init 635 = .ok (.iconst 3, 1) := by decide +kernel
theorem dX12_init_636 : decode cX12_init 636 = .ok (.bipush 107, 2) := by decide +kernel
theorem dX12_init_638 : decode cX12_init 638 = .ok (.castore, 1) := by decide +kernel
theorem dX12_init_639 : decode cX12_init 639 = .ok (.putfield 84, 3) := by decide +kernel
theorem dX12_init_642 : decode cX12_init 642 = .ok (.aload_n 0, 1) := by decide +kernel
theorem dX12_init_643 : decode cX12_init 643 = .ok (.iconst 4, 1) := by decide +kernel
theorem dX12_init_644 : decode cX12_init 644 = .ok (.newarray .char, 2) := by decide +kernel
theorem dX12_init_646 : decode cX12_init 646 = .ok (.dup, 1) := by decide +kernel
theorem dX12_init_647 : decode cX12_init 647 = .ok (.iconst 0, 1) := by decide +kernel
theorem dX12_init_648 : decode cX12_init 648 = .ok (.bipush 112, 2) := by decide +kernel
theorem dX12_init_650 : decode cX12_init 650 = .ok (.castore, 1) := by decide +kernel
theorem dX12_init_651 : decode cX12_init 651 = .ok (.dup, 1) := by decide +kernel
theorem dX12_init_652 : decode cX12_init 652 = .ok (.iconst 1, 1) := by decide +kernel
theorem dX12_init_653 : decode cX12_init 653 = .ok (.bipush 97, 2) := by decide +kernel
theorem dX12_init_655 : decode cX12_init 655 = .ok (.castore, 1) := by decide +kernel
theorem dX12_init_656 : decode cX12_init 656 = .ok (.dup, 1) := by decide +kernel
theorem dX12_init_657 : decode cX12_init 657 = .ok (.iconst 2, 1) := by decide +kernel
theorem dX12_init_658 : decode cX12_init 658 = .ok (.bipush 99, 2) := by decide +kernel
theorem dX12_init_660 : decode cX12_init 660 = .ok (.castore, 1) := by decide +kernel
theorem dX12_init_661 : decode cX12_init 661 = .ok (.dup, 1) := by decide +kernel
theorem dX12_init_662 : decode cX12_init 662 = .ok (.iconst 3, 1) := by decide +kernel
theorem dX12_init_663 : decode cX12_init 663 = .ok (.bipush 101, 2) := by decide +kernel
theorem dX12_init_665 : decode cX12_init 665 = .ok (.castore, 1) := by decide +kernel
theorem dX12_init_666 : decode cX12_init 666 = .ok (.putfield 87, 3) := by decide +kernel
theorem dX12_init_669 : decode cX12_init 669 = .ok (.aload_n 0, 1) := by decide +kernel
theorem dX12_init_670 : decode cX12_init 670 = .ok (.iconst 3, 1) := by decide +kernel
theorem dX12_init_671 : decode cX12_init 671 = .ok (.newarray .char, 2) := by decide +kernel
theorem dX12_init_673 : decode cX12_init 673 = .ok (.dup, 1) := by decide +kernel
theorem dX12_init_674 : decode cX12_init 674 = .ok (.iconst 0, 1) := by decide +kernel
theorem dX12_init_675 : decode cX12_init 675 = .ok (.bipush 109, 2) := by decide +kernel
theorem dX12_init_677 : decode cX12_init 677 = .ok (.castore, 1) := by decide +kernel
theorem dX12_init_678 : decode cX12_init 678 = .ok (.dup, 1) := by decide +kernel
theorem dX12_init_679 : decode cX12_init 679 = .ok (.iconst 1, 1) := by decide +kernel
theorem dX12_init_680 : decode cX12_init 680 = .ok (.bipush 105, 2) := by decide +kernel
theorem dX12_init_682 : decode cX12_init 682 = .ok (.castore, 1) := by decide +kernel
theorem dX12_init_683 : decode cX12_init 683 = .ok (.dup, 1) := by decide +kernel
theorem dX12_init_684 : decode cX12_init 684 = .ok (.iconst 2, 1) := by decide +kernel
theorem dX12_init_685 : decode cX12_init 685 = .ok (.bipush 110, 2) := by decide +kernel
theorem dX12_init_687 : decode cX12_init 687 = .ok (.castore, 1) := by decide +kernel
theorem dX12_init_688 : decode cX12_init 688 = .ok (.putfield 90, 3) := by decide +kernel
theorem dX12_init_691 : decode cX12_init 691 = .ok (.aload_n 0, 1) := by decide +kernel
theorem dX12_init_692 : decode cX12_init 692 = .ok (.iconst 3, 1) := by decide +kernel
theorem dX12_init_693 : decode cX12_init 693 = .ok (.newarray .char, 2) := by decide +kernel
theorem dX12_init_695 : decode cX12_init 695 = .ok (.dup, 1) := by decide +kernel
theorem dX12_init_696 : decode cX12_init 696 = .ok (.iconst 0, 1) := by decide +kernel
theorem dX12_init_697 : decode cX12_init 697 = .ok (.bipush 109, 2) := by decide +kernel
theorem dX12_init_699 : decode cX12_init 699 = .ok (.castore, 1) := by decide +kernel
theorem dX12_init_700 : decode cX12_init 700 = .ok (.dup, 1) := by decide +kernel
theorem dX12_init_701 : decode cX12_init 701 = .ok (.iconst 1, 1) := by decide +kernel
theorem dX12_init_702 : decode cX12_init 702 = .ok (.bipush 97, 2) := by decide +kernel
theorem dX12_init_704 : decode cX12_init 704 = .ok (.castore, 1) := by decide +kernel
theorem dX12_init_705 : decode cX12_init 705 = .ok (.dup, 1) := by decide +kernel
theorem dX12_init_706 : decode cX12_init 706 = .ok (.iconst 2, 1) := by decide +kernel
theorem dX12_init_707 : decode cX12_init 707 = .ok (.bipush 120, 2) := by decide +kernel
theorem dX12_init_709 : decode cX12_init 709 = .ok (.castore, 1) := by decide +kernel
theorem dX12_init_710 : decode cX12_init 710 = .ok (.putfield 93, 3) := by decide +kernel
theorem dX12_init_713 : decode cX12_init 713 = .ok (.aload_n 0, 1) := by decide +kernel
theorem dX12_init_714 : decode cX12_init 714 = .ok (.bipush 48, 2) := by decide +kernel
theorem dX12_init_716 : decode cX12_init 716 = .ok (.newarray .int, 2) := by decide +kernel
theorem dX12_init_718 : decode cX12_init 718 = .ok (.putfield 96, 3) := by decide +kernel
theorem dX12_init_721 : decode cX12_init 721 = .ok (.aload_n 0, 1) := by decide +kernel
theorem dX12_init_722 : decode cX12_init 722 = .ok (.bipush 48, 2) := by decide +kernel
theorem dX12_init_724 : decode cX12_init 724 = .ok (.newarray .int, 2) := by decide +kernel
theorem dX12_init_726 : decode cX12_init 726 = .ok (.putfield 99, 3) := by decide +kernel
theorem dX12_init_729 : decode cX12_init 729 = .ok (.aload_n 0, 1) := by decide +kernel
theorem dX12_init_730 : decode cX12_init 730 = .ok (.bipush 96, 2) := by decide +kernel
theorem dX12_init_732 : decode cX12_init 732 = .ok (.newarray .int, 2) := by decide +kernel
theorem dX12_init_734 : decode cX12_init 734 = .ok (.putfield 102, 3) := by decide +kernel
theorem dX12_init_737 : decode cX12_init 737 = .ok (.aload_n 0, 1) := by decide +kernel
theorem dX12_init_738 : decode cX12_init 738 = .ok (.iconst (-1), 1) := by decide +kernel
theorem dX12_init_739 : decode cX12_init 739 = .ok (.putfield 105, 3) := by decide +kernel
theorem dX12_init_742 : decode cX12_init 742 = .ok (.aload_n 0, 1) := by decide +kernel
theorem dX12_init_743 : decode cX12_init 743 = .ok (.sipush 3200, 3) := by decide +kernel
theorem dX12_init_746 : decode cX12_init 746 = .ok (.newarray .int, 2) := by decide +kernel
theorem dX12_init_748 : decode cX12_init 748 = .ok (.putfield 108, 3) := by decide +kernel
theorem dX12_init_751 : decode cX12_init 751 = .ok (.aload_n 0, 1) := by decide +kernel
theorem dX12_init_752 : decode cX12_init 752 = .ok (.sipush 1700, 3) := by decide +kernel
theorem dX12_init_755 : decode cX12_init 755 = .ok (.newarray .int, 2) := by decide +kernel
theorem dX12_init_757 : decode cX12_init 757 = .ok (.putfield 111, 3) := by decide +kernel
theorem dX12_init_760 : decode cX12_init 760 = .ok (.aload_n 0, 1) := by decide +kernel
theorem dX12_init_761 : decode cX12_init 761 = .ok (.iconst 4, 1) := by decide +kernel
theorem dX12_init_762 : decode cX12_init 762 = .ok (.newarray .int, 2) := by decide +kernel
theorem dX12_init_764 : decode cX12_init 764 = .ok (.putfield 114, 3) := by decide +kernel
theorem dX12_init_767 : decode cX12_init 767 = .ok (.aload_n 0, 1) := by decide +kernel
theorem dX12_init_768 : decode cX12_init 768 = .ok (.bipush 48, 2) := by decide +kernel
theorem dX12_init_770 : decode cX12_init 770 = .ok (.newarray .int, 2) := by decide +kernel
theorem dX12_init_772 : decode cX12_init 772 = .ok (.putfield 117, 3) := by decide +kernel
theorem dX12_init_775 : decode cX12_init 775 = .ok (.aload_n 0, 1) := by decide +kernel
theorem dX12_init_776 : decode cX12_init 776 = .ok (.bipush 48, 2) := by decide +kernel
theorem dX12_init_778 : decode cX12_init 778 = .ok (.newarray .int, 2) := by decide +kernel
theorem dX12_init_780 : decode cX12_init 780 = .ok (.putfield 120, 3) := by decide +kernel
theorem dX12_init_783 : decode cX12_init 783 = .ok (.aload_n 0, 1) := by decide +kernel
theorem dX12_init_784 : decode cX12_init 784 = .ok (.bipush 12, 2) := by decide +kernel
theorem dX12_init_786 : decode cX12_init 786 = .ok (.newarray .long, 2) := by decide +kernel
theorem dX12_init_788 : decode cX12_init 788 = .ok (.putfield 123, 3) := by decide +kernel
theorem dX12_init_791 : decode cX12_init 791 = .ok (.aload_n 0, 1) := by decide +kernel
theorem dX12_init_792 : decode cX12_init 792 = .ok (.iconst 4, 1) := by decide +kernel
theorem dX12_init_793 : decode cX12_init 793 = .ok (.putfield 127, 3) := by decide +kernel
theorem dX12_init_796 : decode cX12_init 796 = .ok (.aload_n 0, 1) := by decide +kernel
theorem dX12_init_797 : decode cX12_init 797 = .ok (.sipush 1700, 3) := by decide +kernel
theorem dX12_init_800 : decode cX12_init 800 = .ok (.newarray .long, 2) := by decide +kernel
theorem dX12_init_802 : decode cX12_init 802 = .ok (.putfield 130, 3) := by decide +kernel
theorem dX12_init_805 : decode cX12_init 805 = .ok (.aload_n 0, 1) := by decide +kernel
theorem dX12_init_806 : decode cX12_init 806 = .ok (.bipush 8, 2) := by decide +kernel
theorem dX12_init_808 : decode cX12_init 808 = .ok (.newarray .int, 2) := by decide +kernel
theorem dX12_init_810 : decode cX12_init 810 = .ok (.putfield 133, 3) := by decide +kernel
theorem dX12_init_813 : decode cX12_init 813 = .ok (.aload_n 0, 1) := by decide +kernel
theorem dX12_init_814 : decode cX12_init 814 = .ok (.iconst (-1), 1) := by decide +kernel
theorem dX12_init_815 : decode cX12_init 815 = .ok (.putfield 136, 3) := by decide +kernel
theorem dX12_init_818 : decode cX12_init 818 = .ok (.aload_n 0, 1) := by decide +kernel
theorem dX12_init_819 : decode cX12_init 819 = .ok (.bipush 8, 2) := by decide +kernel
theorem dX12_init_821 : decode cX12_init 821 = .ok (.putfield 139, 3) := by decide +kernel
theorem dX12_init_824 : decode cX12_init 824 = .ok (.aload_n 0, 1) := by decide +kernel
theorem dX12_init_825 : decode cX12_init 825 = .ok (.iconst 4, 1) := by decide +kernel
theorem dX12_init_826 : decode cX12_init 826 = .ok (.putfield 142, 3) := by decide +kernel
theorem dX12_init_829 : decode cX12_init 829 = .ok (.aload_n 0, 1) := by decide +kernel
theorem dX12_init_830 : decode cX12_init 830 = .ok (.sipush 4500, 3) := by decide +kernel
theorem dX12_init_833 : decode cX12_init 833 = .ok (.newarray .int, 2) := by decide +kernel
theorem dX12_init_835 : decode cX12_init 835 = .ok (.putfield 145, 3) := by decide +kernel
theorem dX12_init_838 : decode cX12_init 838 = .ok (.aload_n 0, 1) := by decide +kernel
theorem dX12_init_839 : decode cX12_init 839 = .ok (.sipush 1600, 3) := by decide +kernel
theorem dX12_init_842 : decode cX12_init 842 = .ok (.newarray .boolean, 2) := by decide +kernel
theorem dX12_init_844 : decode cX12_init 844 = .ok (.putfield 148, 3) := by decide +kernel
theorem dX12_init_847 : decode cX12_init 847 = .ok (.aload_n 0, 1) := by decide +kernel
theorem dX12_init_848 : decode cX12_init 848 = .ok (.iconst 3, 1) := by decide +kernel
theorem dX12_init_849 : decode cX12_init 849 = .ok (.newarray .int, 2) := by decide +kernel
theorem dX12_init_851 : decode cX12_init 851 = .ok (.putfield 152, 3) := by decide +kernel
theorem dX12_init_854 : decode cX12_init 854 = .ok (.aload_n 0, 1) := by decide +kernel
theorem dX12_init_855 : decode cX12_init 855 = .ok (.bipush 30, 2) := by decide +kernel
theorem dX12_init_857 : decode cX12_init 857 = .ok (.newarray .int, 2) := by decide +kernel
theorem dX12_init_859 : decode cX12_init 859 = .ok (.putfield 155, 3) := by decide +kernel
theorem dX12_init_862 : decode cX12_init 862 = .ok (.aload_n 0, 1) := by decide +kernel
theorem dX12_init_863 : decode cX12_init 863 = .ok (.bipush 24, 2) := by decide +kernel
theorem dX12_init_865 : decode cX12_init 865 = .ok (.newarray .int, 2) := by decide +kernel
theorem dX12_init_867 : decode cX12_init 867 = .ok (.putfield 158, 3) := by decide +kernel
theorem dX12_init_870 : decode cX12_init 870 = .ok (.aload_n 0, 1) := by decide +kernel
theorem dX12_init_871 : decode cX12_init 871 = .ok (.bipush 24, 2) := by decide +kernel
theorem dX12_init_873 : decode cX12_init 873 = .ok (.newarray .int, 2) := by decide +kernel
theorem dX12_init_875 : decode cX12_init 875 = .ok (.putfield 161, 3) := by decide +kernel
theorem dX12_init_878 : decode cX12_init 878 = .ok (.aload_n 0, 1) := by decide +kernel
theorem dX12_init_879 : decode cX12_init 879 = .ok (.iconst 4, 1) := by decide +kernel
theorem dX12_init_880 : decode cX12_init 880 = .ok (.newarray .int, 2) := by decide +kernel
theorem dX12_init_882 : decode cX12_init 882 = .ok (.putfield 164, 3) := by decide +kernel
theorem dX12_init_885 : decode cX12_init 885 = .ok (.aload_n 0, 1) := by decide +kernel
theorem dX12_init_886 : decode cX12_init 886 = .ok (.bipush 60, 2) := by decide +kernel
theorem dX12_init_888 : decode cX12_init 888 = .ok (.newarray .int, 2) := by decide +kernel
theorem dX12_init_890 : decode cX12_init 890 = .ok (.putfield 167, 3) := by decide +kernel
theorem dX12_init_893 : decode cX12_init 893 = .ok (.return_, 1) := by decide +kernel
theorem dX12_isIn_0 : decode cX12_isIn 0 = .ok (.lload_n 0, 1) := by decide +kernel
theorem dX12_isIn_1 : decode cX12_isIn 1 = .ok (.lload_n 2, 1) := by decide +kernel
theorem dX12_isIn_2 : decode cX12_isIn 2 = .ok (.lcmp, 1) := by decide +kernel
theorem dX12_isIn_3 : decode cX12_isIn 3 = .ok (.ifCond .lt 14, 3) := by decide +kernel
theorem dX12_isIn_6 : decode cX12_isIn 6 = .ok (.lload_n 0, 1) := by decide +kernel
theorem dX12_isIn_7 : decode cX12_isIn 7 = .ok (.lload 4, 2) := by decide +kernel
theorem dX12_isIn_9 : decode cX12_isIn 9 = .ok (.lcmp, 1) := by decide +kernel
theorem dX12_isIn_10 : decode cX12_isIn 10 = .ok (.ifCond .gt 7, 3) := by decide +kernel
theorem dX12_isIn_13 : decode cX12_isIn 13 = .ok (.iconst 1, 1) := by decide +kernel
theorem dX12_isIn_14 : decode cX12_isIn 14 = .ok (.goto 4, 3) := by decide +kernel
theorem dX12_isIn_17 : decode cX12_isIn 17 = .ok (.iconst 0, 1) := by decide +kernel
theorem dX12_isIn_18 : decode cX12_isIn 18 = .ok (.ireturn, 1) := by decide +kernel
theorem dX12_feed_0 : decode cX12_feed 0 = .ok (.aload_n 0, 1) := by decide +kernel
theorem dX12_feed_1 : decode cX12_feed 1 = .ok (.getfield 170, 3) := by decide +kernel
theorem dX12_feed_4 : decode cX12_feed 4 = .ok (.bipush 20, 2) := by decide +kernel
theorem dX12_feed_6 : decode cX12_feed 6 = .ok (.iadd, 1) := by decide +kernel
theorem dX12_feed_7 : decode cX12_feed 7 = .ok (.sipush 1600, 3) := by decide +kernel
theorem dX12_feed_10 : decode cX12_feed 10 = .ok (.if_icmp .le 5, 3) := by decide +kernel
theorem dX12_feed_13 : decode cX12_feed 13 = .ok (.iconst (-1), 1) := by decide +kernel
theorem dX12_feed_14 : decode cX12_feed 14 = .ok (.ireturn, 1) := by decide +kernel
theorem dX12_feed_15 : decode cX12_feed 15 = .ok (.iconst 0, 1) := by decide +kernel
theorem dX12_feed_16 : decode cX12_feed 16 = .ok (.istore 6, 2) := by decide +kernel
theorem dX12_feed_18 : decode cX12_feed 18 = .ok (.iload 6, 2) := by decide +kernel
theorem dX12_feed_20 : decode cX12_feed 20 = .ok (.bipush 20, 2) := by decide +kernel
theorem dX12_feed_22 : decode cX12_feed 22 = .ok (.if_icmp .ge 92, 3) := by decide +kernel
theorem dX12_feed_25 : decode cX12_feed 25 = .ok (.iload 6, 2) := by decide +kernel
theorem dX12_feed_27 : decode cX12_feed 27 = .ok (.iconst 4, 1) := by decide +kernel
theorem dX12_feed_28 : decode cX12_feed 28 = .ok (.if_icmp .ge 7, 3) := by decide +kernel
theorem dX12_feed_31 : decode cX12_feed 31 = .ok (.iload_n 1, 1) := by decide +kernel
theorem dX12_feed_32 : decode cX12_feed 32 = .ok (.goto 39, 3) := by decide +kernel
theorem dX12_feed_35 : decode cX12_feed 35 = .ok (.iload 6, 2) := by decide +kernel
theorem dX12_feed_37 : decode cX12_feed 37 = .ok (.bipush 8, 2) := by decide +kernel
theorem dX12_feed_39 : decode cX12_feed 39 = .ok (.if_icmp .ge 7, 3) := by decide +kernel
theorem dX12_feed_42 : decode cX12_feed 42 = .ok (.iload_n 2, 1) := by decide +kernel
theorem dX12_feed_43 : decode cX12_feed 43 = .ok (.goto 28, 3) := by decide +kernel
theorem dX12_feed_46 : decode cX12_feed 46 = .ok (.iload 6, 2) := by decide +kernel
theorem dX12_feed_48 : decode cX12_feed 48 = .ok (.bipush 12, 2) := by decide +kernel
theorem dX12_feed_50 : decode cX12_feed 50 = .ok (.if_icmp .ge 7, 3) := by decide +kernel
theorem dX12_feed_53 : decode cX12_feed 53 = .ok (.iload_n 3, 1) := by decide +kernel
theorem dX12_feed_54 : decode cX12_feed 54 = .ok (.goto 17, 3) := by decide +kernel
theorem dX12_feed_57 : decode cX12_feed 57 = .ok (.iload 6, 2) := by decide +kernel
theorem dX12_feed_59 : decode cX12_feed 59 = .ok (.bipush 16, 2) := by decide +kernel
theorem dX12_feed_61 : decode cX12_feed 61 = .ok (.if_icmp .ge 8, 3) := by decide +kernel
theorem dX12_feed_64 : decode cX12_feed 64 = .ok (.iload 4, 2) := by decide +kernel
theorem dX12_feed_66 : decode cX12_feed 66 = .ok (.goto 5, 3) := by decide +kernel
theorem dX12_feed_69 : decode cX12_feed 69 = .ok (.iload 5, 2) := by decide +kernel
theorem dX12_feed_71 : decode cX12_feed 71 = .ok (.istore 7, 2) := by decide +kernel
theorem dX12_feed_73 : decode cX12_feed 73 = .ok (.aload_n 0, 1) := by decide +kernel
theorem dX12_feed_74 : decode cX12_feed 74 = .ok (.getfield 7, 3) := by decide +kernel
theorem dX12_feed_77 : decode cX12_feed 77 = .ok (.aload_n 0, 1) := by decide +kernel
theorem dX12_feed_78 : decode cX12_feed 78 = .ok (.getfield 170, 3) := by decide +kernel
theorem dX12_feed_81 : decode cX12_feed 81 = .ok (.iload 7, 2) := by decide +kernel
theorem dX12_feed_83 : decode cX12_feed 83 = .ok (.bipush 8, 2) := by decide +kernel
theorem dX12_feed_85 : decode cX12_feed 85 = .ok (.iconst 3, 1) := by decide +kernel
theorem dX12_feed_86 : decode cX12_feed 86 = .ok (.iload 6, 2) := by decide +kernel
theorem dX12_feed_88 : decode cX12_feed 88 = .ok (.iconst 4, 1) := by decide +kernel
theorem dX12_feed_89 : decode cX12_feed 89 = .ok (.irem, 1) := by decide +kernel
theorem dX12_feed_90 : decode cX12_feed 90 = .ok (.isub, 1) := by decide +kernel
theorem dX12_feed_91 : decode cX12_feed 91 = .ok (.imul, 1) := by decide +kernel
theorem dX12_feed_92 : decode cX12_feed 92 = .ok (.ishr, 1) := by decide +kernel
theorem dX12_feed_93 : decode cX12_feed 93 = .ok (.sipush 255, 3) := by decide +kernel
theorem dX12_feed_96 : decode cX12_feed 96 = .ok (.iand, 1) := by decide +kernel
theorem dX12_feed_97 : decode cX12_feed 97 = .ok (.iastore, 1) := by decide +kernel
theorem dX12_feed_98 : decode cX12_feed 98 = .ok (.aload_n 0, 1) := by decide +kernel
theorem dX12_feed_99 : decode cX12_feed 99 = .ok (.dup, 1) := by decide +kernel
theorem dX12_feed_100 : decode cX12_feed 100 = .ok (.getfield 170, 3) := by decide +kernel
theorem dX12_feed_103 : decode cX12_feed 103 = .ok (.iconst 1, 1) := by decide +kernel
theorem dX12_feed_104 : decode cX12_feed 104 = .ok (.iadd, 1) := by decide +kernel
theorem dX12_feed_105 : decode cX12_feed 105 = .ok (.putfield 170, 3) := by decide +kernel
theorem dX12_feed_108 : decode cX12_feed 108 = .ok (.iinc 6 1, 3) := by decide +kernel
theorem dX12_feed_111 : decode cX12_feed 111 = .ok (.goto (-93), 3) := by decide +kernel
theorem dX12_feed_114 : decode cX12_feed 114 = .ok (.aload_n 0, 1) := by decide +kernel
theorem dX12_feed_115 : decode cX12_feed 115 = .ok (.getfield 170, 3) := by decide +kernel
theorem dX12_feed_118 : decode cX12_feed 118 = .ok (.ireturn, 1) := by decide +kernel
theorem dX12_end_0 : decode cX12_end 0 = .ok (.iload_n 1, 1) := by decide +kernel
theorem dX12_end_1 : decode cX12_end 1 = .ok (.ifCond .lt 11, 3) := by decide +kernel
theorem dX12_end_4 : decode cX12_end 4 = .ok (.iload_n 1, 1) := by decide +kernel
theorem dX12_end_5 : decode cX12_end 5 = .ok (.aload_n 0, 1) := by decide +kernel
theorem dX12_end_6 : decode cX12_end 6 = .ok (.getfield 170, 3) := by decide +kernel
theorem dX12_end_9 : decode cX12_end 9 = .ok (.if_icmp .le 5, 3) := by decide +kernel
theorem dX12_end_12 : decode cX12_end 12 = .ok (.iconst 0, 1) := by decide +kernel
theorem dX12_end_13 : decode cX12_end 13 = .ok (.ireturn, 1) := by decide +kernel
theorem dX12_end_14 : decode cX12_end 14 = .ok (.aload_n 0, 1) := by decide +kernel
theorem dX12_end_15 : decode cX12_end 15 = .ok (.iload_n 1, 1) := by decide +kernel
theorem dX12_end_16 : decode cX12_end 16 = .ok (.putfield 170, 3) := by decide +kernel
theorem dX12_end_19 : decode cX12_end 19 = .ok (.iconst 1, 1) := by decide +kernel
theorem dX12_end_20 : decode cX12_end 20 = .ok (.ireturn, 1) := by decide +kernel
theorem dX12_fail_0 : decode cX12_fail 0 = .ok (.aload_n 0, 1) := by decide +kernel
theorem dX12_fail_1 : decode cX12_fail 1 = .ok (.getfield 173, 3) := by decide +kernel
theorem dX12_fail_4 : decode cX12_fail 4 = .ok (.ifCond .eq 4, 3) := by decide +kernel
theorem dX12_fail_7 : decode cX12_fail 7 = .ok (.return_, 1) := by decide +kernel
theorem dX12_fail_8 : decode cX12_fail 8 = .ok (.aload_n 0, 1) := by decide +kernel
theorem dX12_fail_9 : decode cX12_fail 9 = .ok (.iload_n 1, 1) := by decide +kernel
theorem dX12_fail_10 : decode cX12_fail 10 = .ok (.putfield 173, 3) := by decide +kernel
theorem dX12_fail_13 : decode cX12_fail 13 = .ok (.aload_n 0, 1) := by decide +kernel
theorem dX12_fail_14 : decode cX12_fail 14 = .ok (.iload_n 2, 1) := by decide +kernel
theorem dX12_fail_15 : decode cX12_fail 15 = .ok (.putfield 176, 3) := by decide +kernel
theorem dX12_fail_18 : decode cX12_fail 18 = .ok (.return_, 1) := by decide +kernel
theorem dX12_isLetter_0 : decode cX12_isLetter 0 = .ok (.iload_n 0, 1) := by decide +kernel
theorem dX12_isLetter_1 : decode cX12_isLetter 1 = .ok (.bipush 97, 2) := by decide +kernel
theorem dX12_isLetter_3 : decode cX12_isLetter 3 = .ok (.if_icmp .lt 13, 3) := by decide +kernel
theorem dX12_isLetter_6 : decode cX12_isLetter 6 = .ok (.iload_n 0, 1) := by decide +kernel
theorem dX12_isLetter_7 : decode cX12_isLetter 7 = .ok (.bipush 122, 2) := by decide +kernel
theorem dX12_isLetter_9 : decode cX12_isLetter 9 = .ok (.if_icmp .gt 7, 3) := by decide +kernel
theorem dX12_isLetter_12 : decode cX12_isLetter 12 = .ok (.iconst 1, 1) := by decide +kernel
theorem dX12_isLetter_13 : decode cX12_isLetter 13 = .ok (.goto 4, 3) := by decide +kernel
theorem dX12_isLetter_16 : decode cX12_isLetter 16 = .ok (.iconst 0, 1) := by decide +kernel
theorem dX12_isLetter_17 : decode cX12_isLetter 17 = .ok (.ireturn, 1) := by decide +kernel
theorem dX12_isDigit_0 : decode cX12_isDigit 0 = .ok (.iload_n 0, 1) := by decide +kernel
theorem dX12_isDigit_1 : decode cX12_isDigit 1 = .ok (.bipush 48, 2) := by decide +kernel
theorem dX12_isDigit_3 : decode cX12_isDigit 3 = .ok (.if_icmp .lt 13, 3) := by decide +kernel
theorem dX12_isDigit_6 : decode cX12_isDigit 6 = .ok (.iload_n 0, 1) := by decide +kernel
theorem dX12_isDigit_7 : decode cX12_isDigit 7 = .ok (.bipush 57, 2) := by decide +kernel
theorem dX12_isDigit_9 : decode cX12_isDigit 9 = .ok (.if_icmp .gt 7, 3) := by decide +kernel
theorem dX12_isDigit_12 : decode cX12_isDigit 12 = .ok (.iconst 1, 1) := by decide +kernel
theorem dX12_isDigit_13 : decode cX12_isDigit 13 = .ok (.goto 4, 3) := by decide +kernel
theorem dX12_isDigit_16 : decode cX12_isDigit 16 = .ok (.iconst 0, 1) := by decide +kernel
theorem dX12_isDigit_17 : decode cX12_isDigit 17 = .ok (.ireturn, 1) := by decide +kernel
theorem dX12_look_0 : decode cX12_look 0 = .ok (.aload_n 0, 1) := by decide +kernel
theorem dX12_look_1 : decode cX12_look 1 = .ok (.getfield 179, 3) := by decide +kernel
theorem dX12_look_4 : decode cX12_look 4 = .ok (.aload_n 0, 1) := by decide +kernel
theorem dX12_look_5 : decode cX12_look 5 = .ok (.getfield 182, 3) := by decide +kernel
theorem dX12_look_8 : decode cX12_look 8 = .ok (.if_icmp .ge 44, 3) := by decide +kernel
theorem dX12_look_11 : decode cX12_look 11 = .ok (.aload_n 0, 1) := by decide +kernel
theorem dX12_look_12 : decode cX12_look 12 = .ok (.getfield 7, 3) := by decide +kernel
theorem dX12_look_15 : decode cX12_look 15 = .ok (.aload_n 0, 1) := by decide +kernel
theorem dX12_look_16 : decode cX12_look 16 = .ok (.getfield 179, 3) := by decide +kernel
theorem dX12_look_19 : decode cX12_look 19 = .ok (.iaload, 1) := by decide +kernel
theorem dX12_look_20 : decode cX12_look 20 = .ok (.bipush 10, 2) := by decide +kernel
theorem dX12_look_22 : decode cX12_look 22 = .ok (.if_icmp .eq 17, 3) := by decide +kernel
theorem dX12_look_25 : decode cX12_look 25 = .ok (.aload_n 0, 1) := by decide +kernel
theorem dX12_look_26 : decode cX12_look 26 = .ok (.getfield 7, 3) := by decide +kernel
theorem dX12_look_29 : decode cX12_look 29 = .ok (.aload_n 0, 1) := by decide +kernel
theorem dX12_look_30 : decode cX12_look 30 = .ok (.getfield 179, 3) := by decide +kernel
theorem dX12_look_33 : decode cX12_look 33 = .ok (.iaload, 1) := by decide +kernel
theorem dX12_look_34 : decode cX12_look 34 = .ok (.bipush 32, 2) := by decide +kernel
theorem dX12_look_36 : decode cX12_look 36 = .ok (.if_icmp .ne 16, 3) := by decide +kernel
theorem dX12_look_39 : decode cX12_look 39 = .ok (.aload_n 0, 1) := by decide +kernel
theorem dX12_look_40 : decode cX12_look 40 = .ok (.dup, 1) := by decide +kernel
theorem dX12_look_41 : decode cX12_look 41 = .ok (.getfield 179, 3) := by decide +kernel
theorem dX12_look_44 : decode cX12_look 44 = .ok (.iconst 1, 1) := by decide +kernel
theorem dX12_look_45 : decode cX12_look 45 = .ok (.iadd, 1) := by decide +kernel
theorem dX12_look_46 : decode cX12_look 46 = .ok (.putfield 179, 3) := by decide +kernel
theorem dX12_look_49 : decode cX12_look 49 = .ok (.goto (-49), 3) := by decide +kernel
theorem dX12_look_52 : decode cX12_look 52 = .ok (.aload_n 0, 1) := by decide +kernel
theorem dX12_look_53 : decode cX12_look 53 = .ok (.getfield 179, 3) := by decide +kernel
theorem dX12_look_56 : decode cX12_look 56 = .ok (.aload_n 0, 1) := by decide +kernel
theorem dX12_look_57 : decode cX12_look 57 = .ok (.getfield 182, 3) := by decide +kernel
theorem dX12_look_60 : decode cX12_look 60 = .ok (.if_icmp .ge 15, 3) := by decide +kernel
theorem dX12_look_63 : decode cX12_look 63 = .ok (.aload_n 0, 1) := by decide +kernel
theorem dX12_look_64 : decode cX12_look 64 = .ok (.getfield 7, 3) := by decide +kernel
theorem dX12_look_67 : decode cX12_look 67 = .ok (.aload_n 0, 1) := by decide +kernel
theorem dX12_look_68 : decode cX12_look 68 = .ok (.getfield 179, 3) := by decide +kernel
theorem dX12_look_71 : decode cX12_look 71 = .ok (.iaload, 1) := by decide +kernel
theorem dX12_look_72 : decode cX12_look 72 = .ok (.goto 4, 3) := by decide +kernel
theorem dX12_look_75 : decode cX12_look 75 = .ok (.iconst (-1), 1) := by decide +kernel
theorem dX12_look_76 : decode cX12_look 76 = .ok (.ireturn, 1) := by decide +kernel
theorem dX12_isHere_0 : decode cX12_isHere 0 = .ok (.aload_n 0, 1) := by decide +kernel
theorem dX12_isHere_1 : decode cX12_isHere 1 = .ok (.getfield 173, 3) := by decide +kernel
theorem dX12_isHere_4 : decode cX12_isHere 4 = .ok (.ifCond .ne 24, 3) := by decide +kernel
theorem dX12_isHere_7 : decode cX12_isHere 7 = .ok (.aload_n 0, 1) := by decide +kernel
theorem dX12_isHere_8 : decode cX12_isHere 8 = .ok (.invokevirtual 185, 3) := by decide +kernel
theorem dX12_isHere_11 : decode cX12_isHere 11 = .ok (.invokestatic 189, 3) := by decide +kernel
theorem dX12_isHere_14 : decode cX12_isHere 14 = .ok (.ifCond .eq 14, 3) := by decide +kernel
theorem dX12_isHere_17 : decode cX12_isHere 17 = .ok (.aload_n 0, 1) := by decide +kernel
theorem dX12_isHere_18 : decode cX12_isHere 18 = .ok (.getfield 179, 3) := by decide +kernel
theorem dX12_isHere_21 : decode cX12_isHere 21 = .ok (.aload_n 0, 1) := by decide +kernel
theorem dX12_isHere_22 : decode cX12_isHere 22 = .ok (.getfield 193, 3) := by decide +kernel
theorem dX12_isHere_25 : decode cX12_isHere 25 = .ok (.if_icmp .ne 5, 3) := by decide +kernel
theorem dX12_isHere_28 : decode cX12_isHere 28 = .ok (.iconst 0, 1) := by decide +kernel
theorem dX12_isHere_29 : decode cX12_isHere 29 = .ok (.ireturn, 1) := by decide +kernel
theorem dX12_isHere_30 : decode cX12_isHere 30 = .ok (.aload_n 0, 1) := by decide +kernel
theorem dX12_isHere_31 : decode cX12_isHere 31 = .ok (.getfield 179, 3) := by decide +kernel
theorem dX12_isHere_34 : decode cX12_isHere 34 = .ok (.istore_n 2, 1) := by decide +kernel
theorem dX12_isHere_35 : decode cX12_isHere 35 = .ok (.iload_n 2, 1) := by decide +kernel
theorem dX12_isHere_36 : decode cX12_isHere 36 = .ok (.aload_n 0, 1) := by decide +kernel
theorem dX12_isHere_37 : decode cX12_isHere 37 = .ok (.getfield 182, 3) := by decide +kernel
theorem dX12_isHere_40 : decode cX12_isHere 40 = .ok (.if_icmp .ge 21, 3) := by decide +kernel
