theorem dX8_share_117 : decode cX8_share 117 = .ok (.invokevirtual 45, 3) := by decide +kernel
theorem dX8_share_120 : decode cX8_share 120 = .ok (.invokestatic 212, 3) := by decide +kernel
theorem dX8_share_123 : decode cX8_share 123 = .ok (.istore_n 3, 1) := by decide +kernel
theorem dX8_share_124 : decode cX8_share 124 = .ok (.aload_n 0, 1) := by decide +kernel
theorem dX8_share_125 : decode cX8_share 125 = .ok (.iload 4, 2) := by decide +kernel
theorem dX8_share_127 : decode cX8_share 127 = .ok (.iconst 1, 1) := by decide +kernel
theorem dX8_share_128 : decode cX8_share 128 = .ok (.iadd, 1) := by decide +kernel
theorem dX8_share_129 : decode cX8_share 129 = .ok (.invokevirtual 137, 3) := by decide +kernel
theorem dX8_share_132 : decode cX8_share 132 = .ok (.istore 4, 2) := by decide +kernel
theorem dX8_share_134 : decode cX8_share 134 = .ok (.goto (-76), 3) := by decide +kernel
theorem dX8_share_137 : decode cX8_share 137 = .ok (.iload_n 3, 1) := by decide +kernel
theorem dX8_share_138 : decode cX8_share 138 = .ok (.ireturn, 1) := by decide +kernel
theorem dX8_part_0 : decode cX8_part 0 = .ok (.iconst 0, 1) := by decide +kernel
theorem dX8_part_1 : decode cX8_part 1 = .ok (.istore 4, 2) := by decide +kernel
theorem dX8_part_3 : decode cX8_part 3 = .ok (.iload 4, 2) := by decide +kernel
theorem dX8_part_5 : decode cX8_part 5 = .ok (.aload_n 0, 1) := by decide +kernel
theorem dX8_part_6 : decode cX8_part 6 = .ok (.getfield 7, 3) := by decide +kernel
theorem dX8_part_9 : decode cX8_part 9 = .ok (.if_icmp .ge 18, 3) := by decide +kernel
theorem dX8_part_12 : decode cX8_part 12 = .ok (.aload_n 0, 1) := by decide +kernel
theorem dX8_part_13 : decode cX8_part 13 = .ok (.getfield 17, 3) := by decide +kernel
theorem dX8_part_16 : decode cX8_part 16 = .ok (.iload 4, 2) := by decide +kernel
theorem dX8_part_18 : decode cX8_part 18 = .ok (.iload 4, 2) := by decide +kernel
theorem dX8_part_20 : decode cX8_part 20 = .ok (.iastore, 1) := by decide +kernel
theorem dX8_part_21 : decode cX8_part 21 = .ok (.iinc 4 1, 3) := by decide +kernel
theorem dX8_part_24 : decode cX8_part 24 = .ok (.goto (-21), 3) := by decide +kernel
theorem dX8_part_27 : decode cX8_part 27 = .ok (.aload_n 0, 1) := by decide +kernel
theorem dX8_part_28 : decode cX8_part 28 = .ok (.iload_n 2, 1) := by decide +kernel
theorem dX8_part_29 : decode cX8_part 29 = .ok (.iload_n 3, 1) := by decide +kernel
theorem dX8_part_30 : decode cX8_part 30 = .ok (.invokevirtual 217, 3) := by decide +kernel
theorem dX8_part_33 : decode cX8_part 33 = .ok (.iconst 1, 1) := by decide +kernel
theorem dX8_part_34 : decode cX8_part 34 = .ok (.istore 4, 2) := by decide +kernel
theorem dX8_part_36 : decode cX8_part 36 = .ok (.iload 4, 2) := by decide +kernel
theorem dX8_part_38 : decode cX8_part 38 = .ok (.ifCond .eq 140, 3) := by decide +kernel
theorem dX8_part_41 : decode cX8_part 41 = .ok (.iconst 0, 1) := by decide +kernel
theorem dX8_part_42 : decode cX8_part 42 = .ok (.istore 4, 2) := by decide +kernel
theorem dX8_part_44 : decode cX8_part 44 = .ok (.iconst 0, 1) := by decide +kernel
theorem dX8_part_45 : decode cX8_part 45 = .ok (.istore 5, 2) := by decide +kernel
theorem dX8_part_47 : decode cX8_part 47 = .ok (.iload 5, 2) := by decide +kernel
theorem dX8_part_49 : decode cX8_part 49 = .ok (.bipush 6, 2) := by decide +kernel
theorem dX8_part_51 : decode cX8_part 51 = .ok (.if_icmp .ge 124, 3) := by decide +kernel
theorem dX8_part_54 : decode cX8_part 54 = .ok (.iload_n 1, 1) := by decide +kernel
theorem dX8_part_55 : decode cX8_part 55 = .ok (.iload 5, 2) := by decide +kernel
theorem dX8_part_57 : decode cX8_part 57 = .ok (.ishr, 1) := by decide +kernel
theorem dX8_part_58 : decode cX8_part 58 = .ok (.iconst 1, 1) := by decide +kernel
theorem dX8_part_59 : decode cX8_part 59 = .ok (.iand, 1) := by decide +kernel
theorem dX8_part_60 : decode cX8_part 60 = .ok (.ifCond .ne 6, 3) := by decide +kernel
theorem dX8_part_63 : decode cX8_part 63 = .ok (.goto 106, 3) := by decide +kernel
theorem dX8_part_66 : decode cX8_part 66 = .ok (.iconst 0, 1) := by decide +kernel
theorem dX8_part_67 : decode cX8_part 67 = .ok (.istore 6, 2) := by decide +kernel
theorem dX8_part_69 : decode cX8_part 69 = .ok (.iload 6, 2) := by decide +kernel
theorem dX8_part_71 : decode cX8_part 71 = .ok (.aload_n 0, 1) := by decide +kernel
theorem dX8_part_72 : decode cX8_part 72 = .ok (.getfield 7, 3) := by decide +kernel
theorem dX8_part_75 : decode cX8_part 75 = .ok (.if_icmp .ge 94, 3) := by decide +kernel
theorem dX8_part_78 : decode cX8_part 78 = .ok (.iconst 0, 1) := by decide +kernel
theorem dX8_part_79 : decode cX8_part 79 = .ok (.istore 7, 2) := by decide +kernel
theorem dX8_part_81 : decode cX8_part 81 = .ok (.iload 7, 2) := by decide +kernel
theorem dX8_part_83 : decode cX8_part 83 = .ok (.iload 6, 2) := by decide +kernel
theorem dX8_part_85 : decode cX8_part 85 = .ok (.if_icmp .ge 78, 3) := by decide +kernel
theorem dX8_part_88 : decode cX8_part 88 = .ok (.aload_n 0, 1) := by decide +kernel
theorem dX8_part_89 : decode cX8_part 89 = .ok (.getfield 17, 3) := by decide +kernel
theorem dX8_part_92 : decode cX8_part 92 = .ok (.iload 6, 2) := by decide +kernel
theorem dX8_part_94 : decode cX8_part 94 = .ok (.iaload, 1) := by decide +kernel
theorem dX8_part_95 : decode cX8_part 95 = .ok (.aload_n 0, 1) := by decide +kernel
theorem dX8_part_96 : decode cX8_part 96 = .ok (.getfield 17, 3) := by decide +kernel
theorem dX8_part_99 : decode cX8_part 99 = .ok (.iload 7, 2) := by decide +kernel
theorem dX8_part_101 : decode cX8_part 101 = .ok (.iaload, 1) := by decide +kernel
theorem dX8_part_102 : decode cX8_part 102 = .ok (.if_icmp .ne 55, 3) := by decide +kernel
theorem dX8_part_105 : decode cX8_part 105 = .ok (.aload_n 0, 1) := by decide +kernel
theorem dX8_part_106 : decode cX8_part 106 = .ok (.getfield 17, 3) := by decide +kernel
theorem dX8_part_109 : decode cX8_part 109 = .ok (.aload_n 0, 1) := by decide +kernel
theorem dX8_part_110 : decode cX8_part 110 = .ok (.iload 5, 2) := by decide +kernel
theorem dX8_part_112 : decode cX8_part 112 = .ok (.iload 6, 2) := by decide +kernel
theorem dX8_part_114 : decode cX8_part 114 = .ok (.invokevirtual 82, 3) := by decide +kernel
theorem dX8_part_117 : decode cX8_part 117 = .ok (.iaload, 1) := by decide +kernel
theorem dX8_part_118 : decode cX8_part 118 = .ok (.aload_n 0, 1) := by decide +kernel
theorem dX8_part_119 : decode cX8_part 119 = .ok (.getfield 17, 3) := by decide +kernel
theorem dX8_part_122 : decode cX8_part 122 = .ok (.aload_n 0, 1) := by decide +kernel
theorem dX8_part_123 : decode cX8_part 123 = .ok (.iload 5, 2) := by decide +kernel
theorem dX8_part_125 : decode cX8_part 125 = .ok (.iload 7, 2) := by decide +kernel
theorem dX8_part_127 : decode cX8_part 127 = .ok (.invokevirtual 82, 3) := by decide +kernel
theorem dX8_part_130 : decode cX8_part 130 = .ok (.iaload, 1) := by decide +kernel
theorem dX8_part_131 : decode cX8_part 131 = .ok (.if_icmp .eq 26, 3) := by decide +kernel
theorem dX8_part_134 : decode cX8_part 134 = .ok (.aload_n 0, 1) := by decide +kernel
theorem dX8_part_135 : decode cX8_part 135 = .ok (.aload_n 0, 1) := by decide +kernel
theorem dX8_part_136 : decode cX8_part 136 = .ok (.iload 5, 2) := by decide +kernel
theorem dX8_part_138 : decode cX8_part 138 = .ok (.iload 6, 2) := by decide +kernel
theorem dX8_part_140 : decode cX8_part 140 = .ok (.invokevirtual 82, 3) := by decide +kernel
theorem dX8_part_143 : decode cX8_part 143 = .ok (.aload_n 0, 1) := by decide +kernel
theorem dX8_part_144 : decode cX8_part 144 = .ok (.iload 5, 2) := by decide +kernel
theorem dX8_part_146 : decode cX8_part 146 = .ok (.iload 7, 2) := by decide +kernel
theorem dX8_part_148 : decode cX8_part 148 = .ok (.invokevirtual 82, 3) := by decide +kernel
theorem dX8_part_151 : decode cX8_part 151 = .ok (.invokevirtual 217, 3) := by decide +kernel
theorem dX8_part_154 : decode cX8_part 154 = .ok (.iconst 1, 1) := by decide +kernel
theorem dX8_part_155 : decode cX8_part 155 = .ok (.istore 4, 2) := by decide +kernel
theorem dX8_part_157 : decode cX8_part 157 = .ok (.iinc 7 1, 3) := by decide +kernel
theorem dX8_part_160 : decode cX8_part 160 = .ok (.goto (-79), 3) := by decide +kernel
theorem dX8_part_163 : decode cX8_part 163 = .ok (.iinc 6 1, 3) := by decide +kernel
theorem dX8_part_166 : decode cX8_part 166 = .ok (.goto (-97), 3) := by decide +kernel
theorem dX8_part_169 : decode cX8_part 169 = .ok (.iinc 5 1, 3) := by decide +kernel
theorem dX8_part_172 : decode cX8_part 172 = .ok (.goto (-125), 3) := by decide +kernel
theorem dX8_part_175 : decode cX8_part 175 = .ok (.goto (-139), 3) := by decide +kernel
theorem dX8_part_178 : decode cX8_part 178 = .ok (.return_, 1) := by decide +kernel
theorem dX8_join_0 : decode cX8_join 0 = .ok (.aload_n 0, 1) := by decide +kernel
theorem dX8_join_1 : decode cX8_join 1 = .ok (.getfield 17, 3) := by decide +kernel
theorem dX8_join_4 : decode cX8_join 4 = .ok (.iload_n 1, 1) := by decide +kernel
theorem dX8_join_5 : decode cX8_join 5 = .ok (.iaload, 1) := by decide +kernel
theorem dX8_join_6 : decode cX8_join 6 = .ok (.istore_n 3, 1) := by decide +kernel
theorem dX8_join_7 : decode cX8_join 7 = .ok (.aload_n 0, 1) := by decide +kernel
theorem dX8_join_8 : decode cX8_join 8 = .ok (.getfield 17, 3) := by decide +kernel
theorem dX8_join_11 : decode cX8_join 11 = .ok (.iload_n 2, 1) := by decide +kernel
theorem dX8_join_12 : decode cX8_join 12 = .ok (.iaload, 1) := by decide +kernel
theorem dX8_join_13 : decode cX8_join 13 = .ok (.istore 4, 2) := by decide +kernel
theorem dX8_join_15 : decode cX8_join 15 = .ok (.iconst 0, 1) := by decide +kernel
theorem dX8_join_16 : decode cX8_join 16 = .ok (.istore 5, 2) := by decide +kernel
theorem dX8_join_18 : decode cX8_join 18 = .ok (.iload 5, 2) := by decide +kernel
theorem dX8_join_20 : decode cX8_join 20 = .ok (.aload_n 0, 1) := by decide +kernel
theorem dX8_join_21 : decode cX8_join 21 = .ok (.getfield 7, 3) := by decide +kernel
theorem dX8_join_24 : decode cX8_join 24 = .ok (.if_icmp .ge 29, 3) := by decide +kernel
theorem dX8_join_27 : decode cX8_join 27 = .ok (.aload_n 0, 1) := by decide +kernel
theorem dX8_join_28 : decode cX8_join 28 = .ok (.getfield 17, 3) := by decide +kernel
theorem dX8_join_31 : decode cX8_join 31 = .ok (.iload 5, 2) := by decide +kernel
theorem dX8_join_33 : decode cX8_join 33 = .ok (.iaload, 1) := by decide +kernel
theorem dX8_join_34 : decode cX8_join 34 = .ok (.iload 4, 2) := by decide +kernel
theorem dX8_join_36 : decode cX8_join 36 = .ok (.if_icmp .ne 11, 3) := by decide +kernel
theorem dX8_join_39 : decode cX8_join 39 = .ok (.aload_n 0, 1) := by decide +kernel
theorem dX8_join_40 : decode cX8_join 40 = .ok (.getfield 17, 3) := by decide +kernel
theorem dX8_join_43 : decode cX8_join 43 = .ok (.iload 5, 2) := by decide +kernel
theorem dX8_join_45 : decode cX8_join 45 = .ok (.iload_n 3, 1) := by decide +kernel
theorem dX8_join_46 : decode cX8_join 46 = .ok (.iastore, 1) := by decide +kernel
theorem dX8_join_47 : decode cX8_join 47 = .ok (.iinc 5 1, 3) := by decide +kernel
theorem dX8_join_50 : decode cX8_join 50 = .ok (.goto (-32), 3) := by decide +kernel
theorem dX8_join_53 : decode cX8_join 53 = .ok (.return_, 1) := by decide +kernel
theorem dX8_together_0 : decode cX8_together 0 = .ok (.aload_n 0, 1) := by decide +kernel
theorem dX8_together_1 : decode cX8_together 1 = .ok (.aload_n 0, 1) := by decide +kernel
theorem dX8_together_2 : decode cX8_together 2 = .ok (.iload_n 2, 1) := by decide +kernel
theorem dX8_together_3 : decode cX8_together 3 = .ok (.invokevirtual 118, 3) := by decide +kernel
theorem dX8_together_6 : decode cX8_together 6 = .ok (.ifCond .eq 11, 3) := by decide +kernel
theorem dX8_together_9 : decode cX8_together 9 = .ok (.aload_n 0, 1) := by decide +kernel
theorem dX8_together_10 : decode cX8_together 10 = .ok (.iload_n 3, 1) := by decide +kernel
theorem dX8_together_11 : decode cX8_together 11 = .ok (.invokevirtual 118, 3) := by decide +kernel
theorem dX8_together_14 : decode cX8_together 14 = .ok (.ifCond .ne 7, 3) := by decide +kernel
theorem dX8_together_17 : decode cX8_together 17 = .ok (.iconst 1, 1) := by decide +kernel
theorem dX8_together_18 : decode cX8_together 18 = .ok (.goto 4, 3) := by decide +kernel
theorem dX8_together_21 : decode cX8_together 21 = .ok (.iconst 0, 1) := by decide +kernel
theorem dX8_together_22 : decode cX8_together 22 = .ok (.iload_n 1, 1) := by decide +kernel
theorem dX8_together_23 : decode cX8_together 23 = .ok (.invokestatic 134, 3) := by decide +kernel
theorem dX8_together_26 : decode cX8_together 26 = .ok (.ifCond .ne 7, 3) := by decide +kernel
theorem dX8_together_29 : decode cX8_together 29 = .ok (.iconst 1, 1) := by decide +kernel
theorem dX8_together_30 : decode cX8_together 30 = .ok (.goto 4, 3) := by decide +kernel
theorem dX8_together_33 : decode cX8_together 33 = .ok (.iconst 0, 1) := by decide +kernel
theorem dX8_together_34 : decode cX8_together 34 = .ok (.invokevirtual 35, 3) := by decide +kernel
theorem dX8_together_37 : decode cX8_together 37 = .ok (.ifCond .eq 5, 3) := by decide +kernel
theorem dX8_together_40 : decode cX8_together 40 = .ok (.iconst 0, 1) := by decide +kernel
theorem dX8_together_41 : decode cX8_together 41 = .ok (.ireturn, 1) := by decide +kernel
theorem dX8_together_42 : decode cX8_together 42 = .ok (.aload_n 0, 1) := by decide +kernel
theorem dX8_together_43 : decode cX8_together 43 = .ok (.iload_n 1, 1) := by decide +kernel
theorem dX8_together_44 : decode cX8_together 44 = .ok (.iload_n 2, 1) := by decide +kernel
theorem dX8_together_45 : decode cX8_together 45 = .ok (.iload_n 3, 1) := by decide +kernel
theorem dX8_together_46 : decode cX8_together 46 = .ok (.invokevirtual 220, 3) := by decide +kernel
theorem dX8_together_49 : decode cX8_together 49 = .ok (.iconst 0, 1) := by decide +kernel
theorem dX8_together_50 : decode cX8_together 50 = .ok (.istore 4, 2) := by decide +kernel
theorem dX8_together_52 : decode cX8_together 52 = .ok (.iconst 0, 1) := by decide +kernel
theorem dX8_together_53 : decode cX8_together 53 = .ok (.istore 5, 2) := by decide +kernel
theorem dX8_together_55 : decode cX8_together 55 = .ok (.iload 5, 2) := by decide +kernel
theorem dX8_together_57 : decode cX8_together 57 = .ok (.aload_n 0, 1) := by decide +kernel
theorem dX8_together_58 : decode cX8_together 58 = .ok (.getfield 7, 3) := by decide +kernel
theorem dX8_together_61 : decode cX8_together 61 = .ok (.if_icmp .ge 34, 3) := by decide +kernel
theorem dX8_together_64 : decode cX8_together 64 = .ok (.aload_n 0, 1) := by decide +kernel
theorem dX8_together_65 : decode cX8_together 65 = .ok (.getfield 17, 3) := by decide +kernel
theorem dX8_together_68 : decode cX8_together 68 = .ok (.iload 5, 2) := by decide +kernel
theorem dX8_together_70 : decode cX8_together 70 = .ok (.iaload, 1) := by decide +kernel
theorem dX8_together_71 : decode cX8_together 71 = .ok (.aload_n 0, 1) := by decide +kernel
theorem dX8_together_72 : decode cX8_together 72 = .ok (.getfield 17, 3) := by decide +kernel
theorem dX8_together_75 : decode cX8_together 75 = .ok (.iload_n 2, 1) := by decide +kernel
theorem dX8_together_76 : decode cX8_together 76 = .ok (.iaload, 1) := by decide +kernel
theorem dX8_together_77 : decode cX8_together 77 = .ok (.if_icmp .ne 12, 3) := by decide +kernel
theorem dX8_together_80 : decode cX8_together 80 = .ok (.iload 4, 2) := by decide +kernel
theorem dX8_together_82 : decode cX8_together 82 = .ok (.iconst 1, 1) := by decide +kernel
theorem dX8_together_83 : decode cX8_together 83 = .ok (.iload 5, 2) := by decide +kernel
theorem dX8_together_85 : decode cX8_together 85 = .ok (.ishl, 1) := by decide +kernel
theorem dX8_together_86 : decode cX8_together 86 = .ok (.ior, 1) := by decide +kernel
theorem dX8_together_87 : decode cX8_together 87 = .ok (.istore 4, 2) := by decide +kernel
theorem dX8_together_89 : decode cX8_together 89 = .ok (.iinc 5 1, 3) := by decide +kernel
theorem dX8_together_92 : decode cX8_together 92 = .ok (.goto (-37), 3) := by decide +kernel
theorem dX8_together_95 : decode cX8_together 95 = .ok (.iload 4, 2) := by decide +kernel
theorem dX8_together_97 : decode cX8_together 97 = .ok (.ireturn, 1) := by decide +kernel
theorem dX8_blocks_0 : decode cX8_blocks 0 = .ok (.aload_n 0, 1) := by decide +kernel
theorem dX8_blocks_1 : decode cX8_blocks 1 = .ok (.aload_n 0, 1) := by decide +kernel
theorem dX8_blocks_2 : decode cX8_blocks 2 = .ok (.iload_n 2, 1) := by decide +kernel
theorem dX8_blocks_3 : decode cX8_blocks 3 = .ok (.invokevirtual 118, 3) := by decide +kernel
theorem dX8_blocks_6 : decode cX8_blocks 6 = .ok (.ifCond .eq 11, 3) := by decide +kernel
theorem dX8_blocks_9 : decode cX8_blocks 9 = .ok (.aload_n 0, 1) := by decide +kernel
theorem dX8_blocks_10 : decode cX8_blocks 10 = .ok (.iload_n 3, 1) := by decide +kernel
theorem dX8_blocks_11 : decode cX8_blocks 11 = .ok (.invokevirtual 118, 3) := by decide +kernel
theorem dX8_blocks_14 : decode cX8_blocks 14 = .ok (.ifCond .ne 7, 3) := by decide +kernel
theorem dX8_blocks_17 : decode cX8_blocks 17 = .ok (.iconst 1, 1) := by decide +kernel
theorem dX8_blocks_18 : decode cX8_blocks 18 = .ok (.goto 4, 3) := by decide +kernel
theorem dX8_blocks_21 : decode cX8_blocks 21 = .ok (.iconst 0, 1) := by decide +kernel
theorem dX8_blocks_22 : decode cX8_blocks 22 = .ok (.iload_n 1, 1) := by decide +kernel
theorem dX8_blocks_23 : decode cX8_blocks 23 = .ok (.invokestatic 134, 3) := by decide +kernel
theorem dX8_blocks_26 : decode cX8_blocks 26 = .ok (.ifCond .ne 7, 3) := by decide +kernel
theorem dX8_blocks_29 : decode cX8_blocks 29 = .ok (.iconst 1, 1) := by decide +kernel
theorem dX8_blocks_30 : decode cX8_blocks 30 = .ok (.goto 4, 3) := by decide +kernel
theorem dX8_blocks_33 : decode cX8_blocks 33 = .ok (.iconst 0, 1) := by decide +kernel
theorem dX8_blocks_34 : decode cX8_blocks 34 = .ok (.invokevirtual 35, 3) := by decide +kernel
theorem dX8_blocks_37 : decode cX8_blocks 37 = .ok (.ifCond .eq 5, 3) := by decide +kernel
theorem dX8_blocks_40 : decode cX8_blocks 40 = .ok (.iconst 0, 1) := by decide +kernel
theorem dX8_blocks_41 : decode cX8_blocks 41 = .ok (.ireturn, 1) := by decide +kernel
theorem dX8_blocks_42 : decode cX8_blocks 42 = .ok (.aload_n 0, 1) := by decide +kernel
theorem dX8_blocks_43 : decode cX8_blocks 43 = .ok (.iload_n 1, 1) := by decide +kernel
theorem dX8_blocks_44 : decode cX8_blocks 44 = .ok (.iload_n 2, 1) := by decide +kernel
theorem dX8_blocks_45 : decode cX8_blocks 45 = .ok (.iload_n 3, 1) := by decide +kernel
theorem dX8_blocks_46 : decode cX8_blocks 46 = .ok (.invokevirtual 220, 3) := by decide +kernel
theorem dX8_blocks_49 : decode cX8_blocks 49 = .ok (.iconst 0, 1) := by decide +kernel
theorem dX8_blocks_50 : decode cX8_blocks 50 = .ok (.istore 4, 2) := by decide +kernel
theorem dX8_blocks_52 : decode cX8_blocks 52 = .ok (.iconst 0, 1) := by decide +kernel
theorem dX8_blocks_53 : decode cX8_blocks 53 = .ok (.istore 5, 2) := by decide +kernel
theorem dX8_blocks_55 : decode cX8_blocks 55 = .ok (.iload 5, 2) := by decide +kernel
theorem dX8_blocks_57 : decode cX8_blocks 57 = .ok (.aload_n 0, 1) := by decide +kernel
theorem dX8_blocks_58 : decode cX8_blocks 58 = .ok (.getfield 7, 3) := by decide +kernel
theorem dX8_blocks_61 : decode cX8_blocks 61 = .ok (.if_icmp .ge 23, 3) := by decide +kernel
theorem dX8_blocks_64 : decode cX8_blocks 64 = .ok (.iload 4, 2) := by decide +kernel
theorem dX8_blocks_66 : decode cX8_blocks 66 = .ok (.iconst 1, 1) := by decide +kernel
theorem dX8_blocks_67 : decode cX8_blocks 67 = .ok (.aload_n 0, 1) := by decide +kernel
theorem dX8_blocks_68 : decode cX8_blocks 68 = .ok (.getfield 17, 3) := by decide +kernel
theorem dX8_blocks_71 : decode cX8_blocks 71 = .ok (.iload 5, 2) := by decide +kernel
theorem dX8_blocks_73 : decode cX8_blocks 73 = .ok (.iaload, 1) := by decide +kernel
theorem dX8_blocks_74 : decode cX8_blocks 74 = .ok (.ishl, 1) := by decide +kernel
theorem dX8_blocks_75 : decode cX8_blocks 75 = .ok (.ior, 1) := by decide +kernel
theorem dX8_blocks_76 : decode cX8_blocks 76 = .ok (.istore 4, 2) := by decide +kernel
theorem dX8_blocks_78 : decode cX8_blocks 78 = .ok (.iinc 5 1, 3) := by decide +kernel
theorem dX8_blocks_81 : decode cX8_blocks 81 = .ok (.goto (-26), 3) := by decide +kernel
theorem dX8_blocks_84 : decode cX8_blocks 84 = .ok (.iload 4, 2) := by decide +kernel
theorem dX8_blocks_86 : decode cX8_blocks 86 = .ok (.invokestatic 96, 3) := by decide +kernel
theorem dX8_blocks_89 : decode cX8_blocks 89 = .ok (.ireturn, 1) := by decide +kernel
theorem dX8_isTwofold_0 : decode cX8_isTwofold 0 = .ok (.aload_n 0, 1) := by decide +kernel
theorem dX8_isTwofold_1 : decode cX8_isTwofold 1 = .ok (.iload_n 1, 1) := by decide +kernel
theorem dX8_isTwofold_2 : decode cX8_isTwofold 2 = .ok (.invokestatic 134, 3) := by decide +kernel
theorem dX8_isTwofold_5 : decode cX8_isTwofold 5 = .ok (.ifCond .ne 7, 3) := by decide +kernel
theorem dX8_isTwofold_8 : decode cX8_isTwofold 8 = .ok (.iconst 1, 1) := by decide +kernel
theorem dX8_isTwofold_9 : decode cX8_isTwofold 9 = .ok (.goto 4, 3) := by decide +kernel
theorem dX8_isTwofold_12 : decode cX8_isTwofold 12 = .ok (.iconst 0, 1) := by decide +kernel
theorem dX8_isTwofold_13 : decode cX8_isTwofold 13 = .ok (.invokevirtual 105, 3) := by decide +kernel
theorem dX8_isTwofold_16 : decode cX8_isTwofold 16 = .ok (.ifCond .eq 5, 3) := by decide +kernel
theorem dX8_isTwofold_19 : decode cX8_isTwofold 19 = .ok (.iconst 0, 1) := by decide +kernel
theorem dX8_isTwofold_20 : decode cX8_isTwofold 20 = .ok (.ireturn, 1) := by decide +kernel
theorem dX8_isTwofold_21 : decode cX8_isTwofold 21 = .ok (.bipush 49, 2) := by decide +kernel
theorem dX8_isTwofold_23 : decode cX8_isTwofold 23 = .ok (.newarray .int, 2) := by decide +kernel
theorem dX8_isTwofold_25 : decode cX8_isTwofold 25 = .ok (.astore_n 2, 1) := by decide +kernel
theorem dX8_isTwofold_26 : decode cX8_isTwofold 26 = .ok (.aload_n 2, 1) := by decide +kernel
theorem dX8_isTwofold_27 : decode cX8_isTwofold 27 = .ok (.iconst 1, 1) := by decide +kernel
theorem dX8_isTwofold_28 : decode cX8_isTwofold 28 = .ok (.iconst 1, 1) := by decide +kernel
theorem dX8_isTwofold_29 : decode cX8_isTwofold 29 = .ok (.iastore, 1) := by decide +kernel
theorem dX8_isTwofold_30 : decode cX8_isTwofold 30 = .ok (.iconst 1, 1) := by decide +kernel
theorem dX8_isTwofold_31 : decode cX8_isTwofold 31 = .ok (.istore_n 3, 1) := by decide +kernel
theorem dX8_isTwofold_32 : decode cX8_isTwofold 32 = .ok (.iconst 1, 1) := by decide +kernel
theorem dX8_isTwofold_33 : decode cX8_isTwofold 33 = .ok (.istore 4, 2) := by decide +kernel
theorem dX8_isTwofold_35 : decode cX8_isTwofold 35 = .ok (.iload 4, 2) := by decide +kernel
theorem dX8_isTwofold_37 : decode cX8_isTwofold 37 = .ok (.ifCond .eq 113, 3) := by decide +kernel
theorem dX8_isTwofold_40 : decode cX8_isTwofold 40 = .ok (.iconst 0, 1) := by decide +kernel
theorem dX8_isTwofold_41 : decode cX8_isTwofold 41 = .ok (.istore 4, 2) := by decide +kernel
theorem dX8_isTwofold_43 : decode cX8_isTwofold 43 = .ok (.iconst 0, 1) := by decide +kernel
theorem dX8_isTwofold_44 : decode cX8_isTwofold 44 = .ok (.istore 5, 2) := by decide +kernel
theorem dX8_isTwofold_46 : decode cX8_isTwofold 46 = .ok (.iload 5, 2) := by decide +kernel
theorem dX8_isTwofold_48 : decode cX8_isTwofold 48 = .ok (.bipush 6, 2) := by decide +kernel
theorem dX8_isTwofold_50 : decode cX8_isTwofold 50 = .ok (.if_icmp .ge 97, 3) := by decide +kernel
theorem dX8_isTwofold_53 : decode cX8_isTwofold 53 = .ok (.iload_n 1, 1) := by decide +kernel
theorem dX8_isTwofold_54 : decode cX8_isTwofold 54 = .ok (.iload 5, 2) := by decide +kernel
theorem dX8_isTwofold_56 : decode cX8_isTwofold 56 = .ok (.ishr, 1) := by decide +kernel
theorem dX8_isTwofold_57 : decode cX8_isTwofold 57 = .ok (.iconst 1, 1) := by decide +kernel
theorem dX8_isTwofold_58 : decode cX8_isTwofold 58 = .ok (.iand, 1) := by decide +kernel
theorem dX8_isTwofold_59 : decode cX8_isTwofold 59 = .ok (.ifCond .ne 6, 3) := by decide +kernel
theorem dX8_isTwofold_62 : decode cX8_isTwofold 62 = .ok (.goto 79, 3) := by decide +kernel
theorem dX8_isTwofold_65 : decode cX8_isTwofold 65 = .ok (.iconst 0, 1) := by decide +kernel
theorem dX8_isTwofold_66 : decode cX8_isTwofold 66 = .ok (.istore 6, 2) := by decide +kernel
theorem dX8_isTwofold_68 : decode cX8_isTwofold 68 = .ok (.iload 6, 2) := by decide +kernel
theorem dX8_isTwofold_70 : decode cX8_isTwofold 70 = .ok (.aload_n 2, 1) := by decide +kernel
theorem dX8_isTwofold_71 : decode cX8_isTwofold 71 = .ok (.arraylength, 1) := by decide +kernel
theorem dX8_isTwofold_72 : decode cX8_isTwofold 72 = .ok (.if_icmp .ge 69, 3) := by decide +kernel
theorem dX8_isTwofold_75 : decode cX8_isTwofold 75 = .ok (.aload_n 2, 1) := by decide +kernel
theorem dX8_isTwofold_76 : decode cX8_isTwofold 76 = .ok (.iload 6, 2) := by decide +kernel
theorem dX8_isTwofold_78 : decode cX8_isTwofold 78 = .ok (.iaload, 1) := by decide +kernel
theorem dX8_isTwofold_79 : decode cX8_isTwofold 79 = .ok (.ifCond .ne 6, 3) := by decide +kernel
theorem dX8_isTwofold_82 : decode cX8_isTwofold 82 = .ok (.goto 53, 3) := by decide +kernel
theorem dX8_isTwofold_85 : decode cX8_isTwofold 85 = .ok (.aload_n 0, 1) := by decide +kernel
theorem dX8_isTwofold_86 : decode cX8_isTwofold 86 = .ok (.iload 5, 2) := by decide +kernel
theorem dX8_isTwofold_88 : decode cX8_isTwofold 88 = .ok (.iload 6, 2) := by decide +kernel
theorem dX8_isTwofold_90 : decode cX8_isTwofold 90 = .ok (.bipush 7, 2) := by decide +kernel
theorem dX8_isTwofold_92 : decode cX8_isTwofold 92 = .ok (.idiv, 1) := by decide +kernel
theorem dX8_isTwofold_93 : decode cX8_isTwofold 93 = .ok (.invokevirtual 82, 3) := by decide +kernel
theorem dX8_isTwofold_96 : decode cX8_isTwofold 96 = .ok (.bipush 7, 2) := by decide +kernel
theorem dX8_isTwofold_98 : decode cX8_isTwofold 98 = .ok (.imul, 1) := by decide +kernel
theorem dX8_isTwofold_99 : decode cX8_isTwofold 99 = .ok (.aload_n 0, 1) := by decide +kernel
theorem dX8_isTwofold_100 : decode cX8_isTwofold 100 = .ok (.iload 5, 2) := by decide +kernel
theorem dX8_isTwofold_102 : decode cX8_isTwofold 102 = .ok (.iload 6, 2) := by decide +kernel
theorem dX8_isTwofold_104 : decode cX8_isTwofold 104 = .ok (.bipush 7, 2) := by decide +kernel
theorem dX8_isTwofold_106 : decode cX8_isTwofold 106 = .ok (.irem, 1) := by decide +kernel
theorem dX8_isTwofold_107 : decode cX8_isTwofold 107 = .ok (.invokevirtual 82, 3) := by decide +kernel
theorem dX8_isTwofold_110 : decode cX8_isTwofold 110 = .ok (.iadd, 1) := by decide +kernel
theorem dX8_isTwofold_111 : decode cX8_isTwofold 111 = .ok (.istore 7, 2) := by decide +kernel
theorem dX8_isTwofold_113 : decode cX8_isTwofold 113 = .ok (.aload_n 2, 1) := by decide +kernel
theorem dX8_isTwofold_114 : decode cX8_isTwofold 114 = .ok (.iload 7, 2) := by decide +kernel
theorem dX8_isTwofold_116 : decode cX8_isTwofold 116 = .ok (.iaload, 1) := by decide +kernel
theorem dX8_isTwofold_117 : decode cX8_isTwofold 117 = .ok (.iconst 1, 1) := by decide +kernel
theorem dX8_isTwofold_118 : decode cX8_isTwofold 118 = .ok (.if_icmp .ne 6, 3) := by decide +kernel
theorem dX8_isTwofold_121 : decode cX8_isTwofold 121 = .ok (.goto 14, 3) := by decide +kernel
theorem dX8_isTwofold_124 : decode cX8_isTwofold 124 = .ok (.aload_n 2, 1) := by decide +kernel
theorem dX8_isTwofold_125 : decode cX8_isTwofold 125 = .ok (.iload 7, 2) := by decide +kernel
theorem dX8_isTwofold_127 : decode cX8_isTwofold 127 = .ok (.iconst 1, 1) := by decide +kernel
theorem dX8_isTwofold_128 : decode cX8_isTwofold 128 = .ok (.iastore, 1) := by decide +kernel
theorem dX8_isTwofold_129 : decode cX8_isTwofold 129 = .ok (.iinc 3 1, 3) := by decide +kernel
theorem dX8_isTwofold_132 : decode cX8_isTwofold 132 = .ok (.iconst 1, 1) := by decide +kernel
theorem dX8_isTwofold_133 : decode cX8_isTwofold 133 = .ok (.istore 4, 2) := by decide +kernel
theorem dX8_isTwofold_135 : decode cX8_isTwofold 135 = .ok (.iinc 6 1, 3) := by decide +kernel
theorem dX8_isTwofold_138 : decode cX8_isTwofold 138 = .ok (.goto (-70), 3) := by decide +kernel
theorem dX8_isTwofold_141 : decode cX8_isTwofold 141 = .ok (.iinc 5 1, 3) := by decide +kernel
theorem dX8_isTwofold_144 : decode cX8_isTwofold 144 = .ok (.goto (-98), 3) := by decide +kernel
theorem dX8_isTwofold_147 : decode cX8_isTwofold 147 = .ok (.goto (-112), 3) := by decide +kernel
theorem dX8_isTwofold_150 : decode cX8_isTwofold 150 = .ok (.iload_n 3, 1) := by decide +kernel
theorem dX8_isTwofold_151 : decode cX8_isTwofold 151 = .ok (.aload_n 0, 1) := by decide +kernel
theorem dX8_isTwofold_152 : decode cX8_isTwofold 152 = .ok (.getfield 7, 3) := by decide +kernel
theorem dX8_isTwofold_155 : decode cX8_isTwofold 155 = .ok (.aload_n 0, 1) := by decide +kernel
theorem dX8_isTwofold_156 : decode cX8_isTwofold 156 = .ok (.getfield 7, 3) := by decide +kernel
theorem dX8_isTwofold_159 : decode cX8_isTwofold 159 = .ok (.iconst 1, 1) := by decide +kernel
theorem dX8_isTwofold_160 : decode cX8_isTwofold 160 = .ok (.isub, 1) := by decide +kernel
theorem dX8_isTwofold_161 : decode cX8_isTwofold 161 = .ok (.imul, 1) := by decide +kernel
theorem dX8_isTwofold_162 : decode cX8_isTwofold 162 = .ok (.if_icmp .ne 7, 3) := by decide +kernel
theorem dX8_isTwofold_165 : decode cX8_isTwofold 165 = .ok (.iconst 1, 1) := by decide +kernel
theorem dX8_isTwofold_166 : decode cX8_isTwofold 166 = .ok (.goto 4, 3) := by decide +kernel
theorem dX8_isTwofold_169 : decode cX8_isTwofold 169 = .ok (.iconst 0, 1) := by decide +kernel
theorem dX8_isTwofold_170 : decode cX8_isTwofold 170 = .ok (.ireturn, 1) := by decide +kernel
theorem dX8_enoughNow_0 : decode cX8_enoughNow 0 = .ok (.aload_n 0, 1) := by decide +kernel
theorem dX8_enoughNow_1 : decode cX8_enoughNow 1 = .ok (.iload_n 1, 1) := by decide +kernel
theorem dX8_enoughNow_2 : decode cX8_enoughNow 2 = .ok (.invokevirtual 99, 3) := by decide +kernel
theorem dX8_enoughNow_5 : decode cX8_enoughNow 5 = .ok (.aload_n 0, 1) := by decide +kernel
theorem dX8_enoughNow_6 : decode cX8_enoughNow 6 = .ok (.getfield 85, 3) := by decide +kernel
theorem dX8_enoughNow_9 : decode cX8_enoughNow 9 = .ok (.ireturn, 1) := by decide +kernel
theorem dX8_enough_0 : decode cX8_enough 0 = .ok (.aload_n 0, 1) := by decide +kernel
theorem dX8_enough_1 : decode cX8_enough 1 = .ok (.iload_n 1, 1) := by decide +kernel
theorem dX8_enough_2 : decode cX8_enough 2 = .ok (.invokestatic 134, 3) := by decide +kernel
theorem dX8_enough_5 : decode cX8_enough 5 = .ok (.ifCond .ne 7, 3) := by decide +kernel
theorem dX8_enough_8 : decode cX8_enough 8 = .ok (.iconst 1, 1) := by decide +kernel
theorem dX8_enough_9 : decode cX8_enough 9 = .ok (.goto 4, 3) := by decide +kernel
theorem dX8_enough_12 : decode cX8_enough 12 = .ok (.iconst 0, 1) := by decide +kernel
theorem dX8_enough_13 : decode cX8_enough 13 = .ok (.invokevirtual 105, 3) := by decide +kernel
theorem dX8_enough_16 : decode cX8_enough 16 = .ok (.ifCond .eq 7, 3) := by decide +kernel
theorem dX8_enough_19 : decode cX8_enough 19 = .ok (.iconst 0, 1) := by decide +kernel
theorem dX8_enough_20 : decode cX8_enough 20 = .ok (.goto 8, 3) := by decide +kernel
theorem dX8_enough_23 : decode cX8_enough 23 = .ok (.aload_n 0, 1) := by decide +kernel
theorem dX8_enough_24 : decode cX8_enough 24 = .ok (.iload_n 1, 1) := by decide +kernel
theorem dX8_enough_25 : decode cX8_enough 25 = .ok (.invokevirtual 224, 3) := by decide +kernel
theorem dX8_enough_28 : decode cX8_enough 28 = .ok (.ireturn, 1) := by decide +kernel
theorem dX8_houseNow_0 : decode cX8_houseNow 0 = .ok (.iload_n 1, 1) := by decide +kernel
theorem dX8_houseNow_1 : decode cX8_houseNow 1 = .ok (.ifCond .ne 10, 3) := by decide +kernel
theorem dX8_houseNow_4 : decode cX8_houseNow 4 = .ok (.aload_n 0, 1) := by decide +kernel
theorem dX8_houseNow_5 : decode cX8_houseNow 5 = .ok (.getfield 39, 3) := by decide +kernel
theorem dX8_houseNow_8 : decode cX8_houseNow 8 = .ok (.goto 19, 3) := by decide +kernel
theorem dX8_houseNow_11 : decode cX8_houseNow 11 = .ok (.iload_n 1, 1) := by decide +kernel
theorem dX8_houseNow_12 : decode cX8_houseNow 12 = .ok (.iconst 1, 1) := by decide +kernel
theorem dX8_houseNow_13 : decode cX8_houseNow 13 = .ok (.if_icmp .ne 10, 3) := by decide +kernel
theorem dX8_houseNow_16 : decode cX8_houseNow 16 = .ok (.aload_n 0, 1) := by decide +kernel
theorem dX8_houseNow_17 : decode cX8_houseNow 17 = .ok (.getfield 42, 3) := by decide +kernel
theorem dX8_houseNow_20 : decode cX8_houseNow 20 = .ok (.goto 7, 3) := by decide +kernel
theorem dX8_houseNow_23 : decode cX8_houseNow 23 = .ok (.aload_n 0, 1) := by decide +kernel
theorem dX8_houseNow_24 : decode cX8_houseNow 24 = .ok (.getfield 227, 3) := by decide +kernel
theorem dX8_houseNow_27 : decode cX8_houseNow 27 = .ok (.ireturn, 1) := by decide +kernel
theorem dX8_house_0 : decode cX8_house 0 = .ok (.aload_n 0, 1) := by decide +kernel
theorem dX8_house_1 : decode cX8_house 1 = .ok (.iload_n 1, 1) := by decide +kernel
theorem dX8_house_2 : decode cX8_house 2 = .ok (.ifCond .lt 8, 3) := by decide +kernel
theorem dX8_house_5 : decode cX8_house 5 = .ok (.iload_n 1, 1) := by decide +kernel
theorem dX8_house_6 : decode cX8_house 6 = .ok (.iconst 2, 1) := by decide +kernel
theorem dX8_house_7 : decode cX8_house 7 = .ok (.if_icmp .le 7, 3) := by decide +kernel
theorem dX8_house_10 : decode cX8_house 10 = .ok (.iconst 1, 1) := by decide +kernel
theorem dX8_house_11 : decode cX8_house 11 = .ok (.goto 4, 3) := by decide +kernel
theorem dX8_house_14 : decode cX8_house 14 = .ok (.iconst 0, 1) := by decide +kernel
theorem dX8_house_15 : decode cX8_house 15 = .ok (.invokevirtual 105, 3) := by decide +kernel
theorem dX8_house_18 : decode cX8_house 18 = .ok (.ifCond .eq 7, 3) := by decide +kernel
theorem dX8_house_21 : decode cX8_house 21 = .ok (.iconst 0, 1) := by decide +kernel
theorem dX8_house_22 : decode cX8_house 22 = .ok (.goto 8, 3) := by decide +kernel
theorem dX8_house_25 : decode cX8_house 25 = .ok (.aload_n 0, 1) := by decide +kernel
theorem dX8_house_26 : decode cX8_house 26 = .ok (.iload_n 1, 1) := by decide +kernel
theorem dX8_house_27 : decode cX8_house 27 = .ok (.invokevirtual 230, 3) := by decide +kernel
theorem dX8_house_30 : decode cX8_house 30 = .ok (.ireturn, 1) := by decide +kernel
theorem dX8_knock_0 : decode cX8_knock 0 = .ok (.aload_n 0, 1) := by decide +kernel
theorem dX8_knock_1 : decode cX8_knock 1 = .ok (.iconst 0, 1) := by decide +kernel
theorem dX8_knock_2 : decode cX8_knock 2 = .ok (.putfield 32, 3) := by decide +kernel
theorem dX8_knock_5 : decode cX8_knock 5 = .ok (.aload_n 0, 1) := by decide +kernel
theorem dX8_knock_6 : decode cX8_knock 6 = .ok (.dup, 1) := by decide +kernel
theorem dX8_knock_7 : decode cX8_knock 7 = .ok (.getfield 227, 3) := by decide +kernel
theorem dX8_knock_10 : decode cX8_knock 10 = .ok (.iconst 1, 1) := by decide +kernel
theorem dX8_knock_11 : decode cX8_knock 11 = .ok (.iadd, 1) := by decide +kernel
theorem dX8_knock_12 : decode cX8_knock 12 = .ok (.putfield 227, 3) := by decide +kernel
theorem dX8_knock_15 : decode cX8_knock 15 = .ok (.aload_n 0, 1) := by decide +kernel
theorem dX8_knock_16 : decode cX8_knock 16 = .ok (.getfield 227, 3) := by decide +kernel
theorem dX8_knock_19 : decode cX8_knock 19 = .ok (.ireturn, 1) := by decide +kernel
theorem dX8_isSoundNow_0 : decode cX8_isSoundNow 0 = .ok (.aload_n 0, 1) := by decide +kernel
theorem dX8_isSoundNow_1 : decode cX8_isSoundNow 1 = .ok (.bipush 63, 2) := by decide +kernel
theorem dX8_isSoundNow_3 : decode cX8_isSoundNow 3 = .ok (.invokevirtual 178, 3) := by decide +kernel
theorem dX8_isSoundNow_6 : decode cX8_isSoundNow 6 = .ok (.istore_n 1, 1) := by decide +kernel
theorem dX8_isSoundNow_7 : decode cX8_isSoundNow 7 = .ok (.iconst 1, 1) := by decide +kernel
theorem dX8_isSoundNow_8 : decode cX8_isSoundNow 8 = .ok (.istore_n 2, 1) := by decide +kernel
theorem dX8_isSoundNow_9 : decode cX8_isSoundNow 9 = .ok (.iconst 0, 1) := by decide +kernel
theorem dX8_isSoundNow_10 : decode cX8_isSoundNow 10 = .ok (.istore_n 3, 1) := by decide +kernel
theorem dX8_isSoundNow_11 : decode cX8_isSoundNow 11 = .ok (.iload_n 3, 1) := by decide +kernel
theorem dX8_isSoundNow_12 : decode cX8_isSoundNow 12 = .ok (.aload_n 0, 1) := by decide +kernel
theorem dX8_isSoundNow_13 : decode cX8_isSoundNow 13 = .ok (.getfield 7, 3) := by decide +kernel
theorem dX8_isSoundNow_16 : decode cX8_isSoundNow 16 = .ok (.if_icmp .ge 23, 3) := by decide +kernel
theorem dX8_isSoundNow_19 : decode cX8_isSoundNow 19 = .ok (.iload_n 2, 1) := by decide +kernel
theorem dX8_isSoundNow_20 : decode cX8_isSoundNow 20 = .ok (.aload_n 0, 1) := by decide +kernel
theorem dX8_isSoundNow_21 : decode cX8_isSoundNow 21 = .ok (.bipush 63, 2) := by decide +kernel
theorem dX8_isSoundNow_23 : decode cX8_isSoundNow 23 = .ok (.iconst 0, 1) := by decide +kernel
theorem dX8_isSoundNow_24 : decode cX8_isSoundNow 24 = .ok (.iload_n 3, 1) := by decide +kernel
theorem dX8_isSoundNow_25 : decode cX8_isSoundNow 25 = .ok (.invokevirtual 181, 3) := by decide +kernel
theorem dX8_isSoundNow_28 : decode cX8_isSoundNow 28 = .ok (.invokestatic 96, 3) := by decide +kernel
theorem dX8_isSoundNow_31 : decode cX8_isSoundNow 31 = .ok (.imul, 1) := by decide +kernel
theorem dX8_isSoundNow_32 : decode cX8_isSoundNow 32 = .ok (.istore_n 2, 1) := by decide +kernel
theorem dX8_isSoundNow_33 : decode cX8_isSoundNow 33 = .ok (.iinc 3 1, 3) := by decide +kernel
theorem dX8_isSoundNow_36 : decode cX8_isSoundNow 36 = .ok (.goto (-25), 3) := by decide +kernel
theorem dX8_isSoundNow_39 : decode cX8_isSoundNow 39 = .ok (.aload_n 0, 1) := by decide +kernel
theorem dX8_isSoundNow_40 : decode cX8_isSoundNow 40 = .ok (.bipush 63, 2) := by decide +kernel
theorem dX8_isSoundNow_42 : decode cX8_isSoundNow 42 = .ok (.invokevirtual 194, 3) := by decide +kernel
theorem dX8_isSoundNow_45 : decode cX8_isSoundNow 45 = .ok (.istore_n 3, 1) := by decide +kernel
theorem dX8_isSoundNow_46 : decode cX8_isSoundNow 46 = .ok (.aload_n 0, 1) := by decide +kernel
theorem dX8_isSoundNow_47 : decode cX8_isSoundNow 47 = .ok (.invokevirtual 65, 3) := by decide +kernel
theorem dX8_isSoundNow_50 : decode cX8_isSoundNow 50 = .ok (.iload_n 1, 1) := by decide +kernel
theorem dX8_isSoundNow_51 : decode cX8_isSoundNow 51 = .ok (.irem, 1) := by decide +kernel
theorem dX8_isSoundNow_52 : decode cX8_isSoundNow 52 = .ok (.ifCond .ne 37, 3) := by decide +kernel
theorem dX8_isSoundNow_55 : decode cX8_isSoundNow 55 = .ok (.iload_n 2, 1) := by decide +kernel
theorem dX8_isSoundNow_56 : decode cX8_isSoundNow 56 = .ok (.iload_n 1, 1) := by decide +kernel
theorem dX8_isSoundNow_57 : decode cX8_isSoundNow 57 = .ok (.if_icmp .ne 32, 3) := by decide +kernel
theorem dX8_isSoundNow_60 : decode cX8_isSoundNow 60 = .ok (.iload_n 3, 1) := by decide +kernel
theorem dX8_isSoundNow_61 : decode cX8_isSoundNow 61 = .ok (.iload_n 1, 1) := by decide +kernel
theorem dX8_isSoundNow_62 : decode cX8_isSoundNow 62 = .ok (.if_icmp .eq 10, 3) := by decide +kernel
theorem dX8_isSoundNow_65 : decode cX8_isSoundNow 65 = .ok (.iconst 2, 1) := by decide +kernel
theorem dX8_isSoundNow_66 : decode cX8_isSoundNow 66 = .ok (.iload_n 3, 1) := by decide +kernel
theorem dX8_isSoundNow_67 : decode cX8_isSoundNow 67 = .ok (.imul, 1) := by decide +kernel
theorem dX8_isSoundNow_68 : decode cX8_isSoundNow 68 = .ok (.iload_n 1, 1) := by decide +kernel
theorem dX8_isSoundNow_69 : decode cX8_isSoundNow 69 = .ok (.if_icmp .ne 20, 3) := by decide +kernel
theorem dX8_isSoundNow_72 : decode cX8_isSoundNow 72 = .ok (.iload_n 1, 1) := by decide +kernel
theorem dX8_isSoundNow_73 : decode cX8_isSoundNow 73 = .ok (.iconst 1, 1) := by decide +kernel
theorem dX8_isSoundNow_74 : decode cX8_isSoundNow 74 = .ok (.aload_n 0, 1) := by decide +kernel
theorem dX8_isSoundNow_75 : decode cX8_isSoundNow 75 = .ok (.getfield 85, 3) := by decide +kernel
theorem dX8_isSoundNow_78 : decode cX8_isSoundNow 78 = .ok (.invokestatic 96, 3) := by decide +kernel
theorem dX8_isSoundNow_81 : decode cX8_isSoundNow 81 = .ok (.ishl, 1) := by decide +kernel
theorem dX8_isSoundNow_82 : decode cX8_isSoundNow 82 = .ok (.if_icmp .lt 7, 3) := by decide +kernel
theorem dX8_isSoundNow_85 : decode cX8_isSoundNow 85 = .ok (.iconst 1, 1) := by decide +kernel
theorem dX8_isSoundNow_86 : decode cX8_isSoundNow 86 = .ok (.goto 4, 3) := by decide +kernel
theorem dX8_isSoundNow_89 : decode cX8_isSoundNow 89 = .ok (.iconst 0, 1) := by decide +kernel
theorem dX8_isSoundNow_90 : decode cX8_isSoundNow 90 = .ok (.istore 4, 2) := by decide +kernel
theorem dX8_isSoundNow_92 : decode cX8_isSoundNow 92 = .ok (.iconst 0, 1) := by decide +kernel
theorem dX8_isSoundNow_93 : decode cX8_isSoundNow 93 = .ok (.istore 5, 2) := by decide +kernel
theorem dX8_isSoundNow_95 : decode cX8_isSoundNow 95 = .ok (.iload 5, 2) := by decide +kernel
theorem dX8_isSoundNow_97 : decode cX8_isSoundNow 97 = .ok (.bipush 6, 2) := by decide +kernel
theorem dX8_isSoundNow_99 : decode cX8_isSoundNow 99 = .ok (.if_icmp .ge 50, 3) := by decide +kernel
theorem dX8_isSoundNow_102 : decode cX8_isSoundNow 102 = .ok (.iload 4, 2) := by decide +kernel
theorem dX8_isSoundNow_104 : decode cX8_isSoundNow 104 = .ok (.ifCond .eq 36, 3) := by decide +kernel
theorem dX8_isSoundNow_107 : decode cX8_isSoundNow 107 = .ok (.aload_n 0, 1) := by decide +kernel
theorem dX8_isSoundNow_108 : decode cX8_isSoundNow 108 = .ok (.bipush 63, 2) := by decide +kernel
theorem dX8_isSoundNow_110 : decode cX8_isSoundNow 110 = .ok (.iload 5, 2) := by decide +kernel
theorem dX8_isSoundNow_112 : decode cX8_isSoundNow 112 = .ok (.invokevirtual 185, 3) := by decide +kernel
theorem dX8_isSoundNow_115 : decode cX8_isSoundNow 115 = .ok (.ifCond .eq 25, 3) := by decide +kernel
theorem dX8_isSoundNow_118 : decode cX8_isSoundNow 118 = .ok (.iload_n 1, 1) := by decide +kernel
theorem dX8_isSoundNow_119 : decode cX8_isSoundNow 119 = .ok (.aload_n 0, 1) := by decide +kernel
theorem dX8_isSoundNow_120 : decode cX8_isSoundNow 120 = .ok (.aload_n 0, 1) := by decide +kernel
theorem dX8_isSoundNow_121 : decode cX8_isSoundNow 121 = .ok (.getfield 13, 3) := by decide +kernel
theorem dX8_isSoundNow_124 : decode cX8_isSoundNow 124 = .ok (.iload 5, 2) := by decide +kernel
theorem dX8_isSoundNow_126 : decode cX8_isSoundNow 126 = .ok (.bipush 7, 2) := by decide +kernel
theorem dX8_isSoundNow_128 : decode cX8_isSoundNow 128 = .ok (.imul, 1) := by decide +kernel
theorem dX8_isSoundNow_129 : decode cX8_isSoundNow 129 = .ok (.invokevirtual 172, 3) := by decide +kernel
theorem dX8_isSoundNow_132 : decode cX8_isSoundNow 132 = .ok (.irem, 1) := by decide +kernel
theorem dX8_isSoundNow_133 : decode cX8_isSoundNow 133 = .ok (.ifCond .ne 7, 3) := by decide +kernel
theorem dX8_isSoundNow_136 : decode cX8_isSoundNow 136 = .ok (.iconst 1, 1) := by decide +kernel
theorem dX8_isSoundNow_137 : decode cX8_isSoundNow 137 = .ok (.goto 4, 3) := by decide +kernel
theorem dX8_isSoundNow_140 : decode cX8_isSoundNow 140 = .ok (.iconst 0, 1) := by decide +kernel
theorem dX8_isSoundNow_141 : decode cX8_isSoundNow 141 = .ok (.istore 4, 2) := by decide +kernel
theorem dX8_isSoundNow_143 : decode cX8_isSoundNow 143 = .ok (.iinc 5 1, 3) := by decide +kernel
theorem dX8_isSoundNow_146 : decode cX8_isSoundNow 146 = .ok (.goto (-51), 3) := by decide +kernel
theorem dX8_isSoundNow_149 : decode cX8_isSoundNow 149 = .ok (.iload 4, 2) := by decide +kernel
theorem dX8_isSoundNow_151 : decode cX8_isSoundNow 151 = .ok (.ifCond .eq 24, 3) := by decide +kernel
theorem dX8_isSoundNow_154 : decode cX8_isSoundNow 154 = .ok (.aload_n 0, 1) := by decide +kernel
theorem dX8_isSoundNow_155 : decode cX8_isSoundNow 155 = .ok (.bipush 63, 2) := by decide +kernel
theorem dX8_isSoundNow_157 : decode cX8_isSoundNow 157 = .ok (.iconst 2, 1) := by decide +kernel
theorem dX8_isSoundNow_158 : decode cX8_isSoundNow 158 = .ok (.invokevirtual 197, 3) := by decide +kernel
theorem dX8_isSoundNow_161 : decode cX8_isSoundNow 161 = .ok (.aload_n 0, 1) := by decide +kernel
theorem dX8_isSoundNow_162 : decode cX8_isSoundNow 162 = .ok (.bipush 63, 2) := by decide +kernel
theorem dX8_isSoundNow_164 : decode cX8_isSoundNow 164 = .ok (.iconst 2, 1) := by decide +kernel
theorem dX8_isSoundNow_165 : decode cX8_isSoundNow 165 = .ok (.invokevirtual 200, 3) := by decide +kernel
theorem dX8_isSoundNow_168 : decode cX8_isSoundNow 168 = .ok (.if_icmp .ne 7, 3) := by decide +kernel
theorem dX8_isSoundNow_171 : decode cX8_isSoundNow 171 = .ok (.iconst 1, 1) := by decide +kernel
theorem dX8_isSoundNow_172 : decode cX8_isSoundNow 172 = .ok (.goto 4, 3) := by decide +kernel
theorem dX8_isSoundNow_175 : decode cX8_isSoundNow 175 = .ok (.iconst 0, 1) := by decide +kernel
theorem dX8_isSoundNow_176 : decode cX8_isSoundNow 176 = .ok (.ireturn, 1) := by decide +kernel
theorem dX8_isSound_0 : decode cX8_isSound 0 = .ok (.aload_n 0, 1) := by decide +kernel
theorem dX8_isSound_1 : decode cX8_isSound 1 = .ok (.iconst 0, 1) := by decide +kernel
theorem dX8_isSound_2 : decode cX8_isSound 2 = .ok (.putfield 32, 3) := by decide +kernel
theorem dX8_isSound_5 : decode cX8_isSound 5 = .ok (.aload_n 0, 1) := by decide +kernel
theorem dX8_isSound_6 : decode cX8_isSound 6 = .ok (.invokevirtual 233, 3) := by decide +kernel
theorem dX8_isSound_9 : decode cX8_isSound 9 = .ok (.ireturn, 1) := by decide +kernel
theorem dX8_digest_0 : decode cX8_digest 0 = .ok (.aload_n 0, 1) := by decide +kernel
theorem dX8_digest_1 : decode cX8_digest 1 = .ok (.iconst 0, 1) := by decide +kernel
theorem dX8_digest_2 : decode cX8_digest 2 = .ok (.putfield 32, 3) := by decide +kernel
theorem dX8_digest_5 : decode cX8_digest 5 = .ok (.ldc2_w 237, 3) := by decide +kernel
theorem dX8_digest_8 : decode cX8_digest 8 = .ok (.aload_n 0, 1) := by decide +kernel
theorem dX8_digest_9 : decode cX8_digest 9 = .ok (.getfield 7, 3) := by decide +kernel
theorem dX8_digest_12 : decode cX8_digest 12 = .ok (.i2l, 1) := by decide +kernel
theorem dX8_digest_13 : decode cX8_digest 13 = .ok (.ladd, 1) := by decide +kernel
theorem dX8_digest_14 : decode cX8_digest 14 = .ok (.lstore_n 1, 1) := by decide +kernel
theorem dX8_digest_15 : decode cX8_digest 15 = .ok (.iconst 0, 1) := by decide +kernel
theorem dX8_digest_16 : decode cX8_digest 16 = .ok (.istore_n 3, 1) := by decide +kernel
theorem dX8_digest_17 : decode cX8_digest 17 = .ok (.iload_n 3, 1) := by decide +kernel
theorem dX8_digest_18 : decode cX8_digest 18 = .ok (.bipush 6, 2) := by decide +kernel
theorem dX8_digest_20 : decode cX8_digest 20 = .ok (.if_icmp .ge 92, 3) := by decide +kernel
theorem dX8_digest_23 : decode cX8_digest 23 = .ok (.lload_n 1, 1) := by decide +kernel
theorem dX8_digest_24 : decode cX8_digest 24 = .ok (.ldc2_w 239, 3) := by decide +kernel
theorem dX8_digest_27 : decode cX8_digest 27 = .ok (.lmul, 1) := by decide +kernel
theorem dX8_digest_28 : decode cX8_digest 28 = .ok (.aload_n 0, 1) := by decide +kernel
theorem dX8_digest_29 : decode cX8_digest 29 = .ok (.aload_n 0, 1) := by decide +kernel
theorem dX8_digest_30 : decode cX8_digest 30 = .ok (.getfield 13, 3) := by decide +kernel
theorem dX8_digest_33 : decode cX8_digest 33 = .ok (.iload_n 3, 1) := by decide +kernel
theorem dX8_digest_34 : decode cX8_digest 34 = .ok (.bipush 7, 2) := by decide +kernel
theorem dX8_digest_36 : decode cX8_digest 36 = .ok (.imul, 1) := by decide +kernel
theorem dX8_digest_37 : decode cX8_digest 37 = .ok (.invokevirtual 45, 3) := by decide +kernel
theorem dX8_digest_40 : decode cX8_digest 40 = .ok (.i2l, 1) := by decide +kernel
theorem dX8_digest_41 : decode cX8_digest 41 = .ok (.ladd, 1) := by decide +kernel
theorem dX8_digest_42 : decode cX8_digest 42 = .ok (.ldc2_w 239, 3) := by decide +kernel
theorem dX8_digest_45 : decode cX8_digest 45 = .ok (.lmul, 1) := by decide +kernel
theorem dX8_digest_46 : decode cX8_digest 46 = .ok (.aload_n 0, 1) := by decide +kernel
theorem dX8_digest_47 : decode cX8_digest 47 = .ok (.aload_n 0, 1) := by decide +kernel
theorem dX8_digest_48 : decode cX8_digest 48 = .ok (.getfield 13, 3) := by decide +kernel
theorem dX8_digest_51 : decode cX8_digest 51 = .ok (.iload_n 3, 1) := by decide +kernel
theorem dX8_digest_52 : decode cX8_digest 52 = .ok (.bipush 7, 2) := by decide +kernel
theorem dX8_digest_54 : decode cX8_digest 54 = .ok (.imul, 1) := by decide +kernel
theorem dX8_digest_55 : decode cX8_digest 55 = .ok (.invokevirtual 172, 3) := by decide +kernel
theorem dX8_digest_58 : decode cX8_digest 58 = .ok (.i2l, 1) := by decide +kernel
theorem dX8_digest_59 : decode cX8_digest 59 = .ok (.ladd, 1) := by decide +kernel
theorem dX8_digest_60 : decode cX8_digest 60 = .ok (.lstore_n 1, 1) := by decide +kernel
theorem dX8_digest_61 : decode cX8_digest 61 = .ok (.lload_n 1, 1) := by decide +kernel
theorem dX8_digest_62 : decode cX8_digest 62 = .ok (.ldc2_w 239, 3) := by decide +kernel
theorem dX8_digest_65 : decode cX8_digest 65 = .ok (.lmul, 1) := by decide +kernel
theorem dX8_digest_66 : decode cX8_digest 66 = .ok (.aload_n 0, 1) := by decide +kernel
theorem dX8_digest_67 : decode cX8_digest 67 = .ok (.aload_n 0, 1) := by decide +kernel
theorem dX8_digest_68 : decode cX8_digest 68 = .ok (.getfield 13, 3) := by decide +kernel
theorem dX8_digest_71 : decode cX8_digest 71 = .ok (.iload_n 3, 1) := by decide +kernel
theorem dX8_digest_72 : decode cX8_digest 72 = .ok (.bipush 7, 2) := by decide +kernel
theorem dX8_digest_74 : decode cX8_digest 74 = .ok (.imul, 1) := by decide +kernel
theorem dX8_digest_75 : decode cX8_digest 75 = .ok (.invokevirtual 115, 3) := by decide +kernel
theorem dX8_digest_78 : decode cX8_digest 78 = .ok (.i2l, 1) := by decide +kernel
theorem dX8_digest_79 : decode cX8_digest 79 = .ok (.ladd, 1) := by decide +kernel
theorem dX8_digest_80 : decode cX8_digest 80 = .ok (.ldc2_w 239, 3) := by decide +kernel
theorem dX8_digest_83 : decode cX8_digest 83 = .ok (.lmul, 1) := by decide +kernel
theorem dX8_digest_84 : decode cX8_digest 84 = .ok (.aload_n 0, 1) := by decide +kernel
theorem dX8_digest_85 : decode cX8_digest 85 = .ok (.iload_n 3, 1) := by decide +kernel
theorem dX8_digest_86 : decode cX8_digest 86 = .ok (.invokevirtual 175, 3) := by decide +kernel
theorem dX8_digest_89 : decode cX8_digest 89 = .ok (.i2l, 1) := by decide +kernel
theorem dX8_digest_90 : decode cX8_digest 90 = .ok (.ladd, 1) := by decide +kernel
theorem dX8_digest_91 : decode cX8_digest 91 = .ok (.ldc2_w 239, 3) := by decide +kernel
theorem dX8_digest_94 : decode cX8_digest 94 = .ok (.lmul, 1) := by decide +kernel
theorem dX8_digest_95 : decode cX8_digest 95 = .ok (.aload_n 0, 1) := by decide +kernel
theorem dX8_digest_96 : decode cX8_digest 96 = .ok (.iload_n 3, 1) := by decide +kernel
theorem dX8_digest_97 : decode cX8_digest 97 = .ok (.invokevirtual 168, 3) := by decide +kernel
theorem dX8_digest_100 : decode cX8_digest 100 = .ok (.invokevirtual 241, 3) := by decide +kernel
theorem dX8_digest_103 : decode cX8_digest 103 = .ok (.i2l, 1) := by decide +kernel
theorem dX8_digest_104 : decode cX8_digest 104 = .ok (.ladd, 1) := by decide +kernel
theorem dX8_digest_105 : decode cX8_digest 105 = .ok (.lstore_n 1, 1) := by decide +kernel
theorem dX8_digest_106 : decode cX8_digest 106 = .ok (.iinc 3 1, 3) := by decide +kernel
theorem dX8_digest_109 : decode cX8_digest 109 = .ok (.goto (-92), 3) := by decide +kernel
theorem dX8_digest_112 : decode cX8_digest 112 = .ok (.lload_n 1, 1) := by decide +kernel
theorem dX8_digest_113 : decode cX8_digest 113 = .ok (.ldc2_w 239, 3) := by decide +kernel
theorem dX8_digest_116 : decode cX8_digest 116 = .ok (.lmul, 1) := by decide +kernel
theorem dX8_digest_117 : decode cX8_digest 117 = .ok (.aload_n 0, 1) := by decide +kernel
theorem dX8_digest_118 : decode cX8_digest 118 = .ok (.bipush 63, 2) := by decide +kernel
theorem dX8_digest_120 : decode cX8_digest 120 = .ok (.invokevirtual 178, 3) := by decide +kernel
theorem dX8_digest_123 : decode cX8_digest 123 = .ok (.i2l, 1) := by decide +kernel
theorem dX8_digest_124 : decode cX8_digest 124 = .ok (.ladd, 1) := by decide +kernel
theorem dX8_digest_125 : decode cX8_digest 125 = .ok (.ldc2_w 239, 3) := by decide +kernel
theorem dX8_digest_128 : decode cX8_digest 128 = .ok (.lmul, 1) := by decide +kernel
theorem dX8_digest_129 : decode cX8_digest 129 = .ok (.aload_n 0, 1) := by decide +kernel
theorem dX8_digest_130 : decode cX8_digest 130 = .ok (.bipush 63, 2) := by decide +kernel
theorem dX8_digest_132 : decode cX8_digest 132 = .ok (.invokevirtual 191, 3) := by decide +kernel
theorem dX8_digest_135 : decode cX8_digest 135 = .ok (.i2l, 1) := by decide +kernel
theorem dX8_digest_136 : decode cX8_digest 136 = .ok (.ladd, 1) := by decide +kernel
theorem dX8_digest_137 : decode cX8_digest 137 = .ok (.ldc2_w 239, 3) := by decide +kernel
theorem dX8_digest_140 : decode cX8_digest 140 = .ok (.lmul, 1) := by decide +kernel
theorem dX8_digest_141 : decode cX8_digest 141 = .ok (.aload_n 0, 1) := by decide +kernel
theorem dX8_digest_142 : decode cX8_digest 142 = .ok (.bipush 63, 2) := by decide +kernel
theorem dX8_digest_144 : decode cX8_digest 144 = .ok (.invokevirtual 194, 3) := by decide +kernel
theorem dX8_digest_147 : decode cX8_digest 147 = .ok (.i2l, 1) := by decide +kernel
theorem dX8_digest_148 : decode cX8_digest 148 = .ok (.ladd, 1) := by decide +kernel
theorem dX8_digest_149 : decode cX8_digest 149 = .ok (.lstore_n 1, 1) := by decide +kernel
theorem dX8_digest_150 : decode cX8_digest 150 = .ok (.lload_n 1, 1) := by decide +kernel
theorem dX8_digest_151 : decode cX8_digest 151 = .ok (.ldc2_w 239, 3) := by decide +kernel
theorem dX8_digest_154 : decode cX8_digest 154 = .ok (.lmul, 1) := by decide +kernel
theorem dX8_digest_155 : decode cX8_digest 155 = .ok (.aload_n 0, 1) := by decide +kernel
theorem dX8_digest_156 : decode cX8_digest 156 = .ok (.bipush 63, 2) := by decide +kernel
theorem dX8_digest_158 : decode cX8_digest 158 = .ok (.invokevirtual 224, 3) := by decide +kernel
theorem dX8_digest_161 : decode cX8_digest 161 = .ok (.i2l, 1) := by decide +kernel
theorem dX8_digest_162 : decode cX8_digest 162 = .ok (.ladd, 1) := by decide +kernel
theorem dX8_digest_163 : decode cX8_digest 163 = .ok (.lstore_n 1, 1) := by decide +kernel
theorem dX8_digest_164 : decode cX8_digest 164 = .ok (.iconst 0, 1) := by decide +kernel
theorem dX8_digest_165 : decode cX8_digest 165 = .ok (.istore_n 3, 1) := by decide +kernel
theorem dX8_digest_166 : decode cX8_digest 166 = .ok (.iload_n 3, 1) := by decide +kernel
theorem dX8_digest_167 : decode cX8_digest 167 = .ok (.aload_n 0, 1) := by decide +kernel
theorem dX8_digest_168 : decode cX8_digest 168 = .ok (.getfield 7, 3) := by decide +kernel
theorem dX8_digest_171 : decode cX8_digest 171 = .ok (.if_icmp .ge 25, 3) := by decide +kernel
theorem dX8_digest_174 : decode cX8_digest 174 = .ok (.lload_n 1, 1) := by decide +kernel
theorem dX8_digest_175 : decode cX8_digest 175 = .ok (.ldc2_w 239, 3) := by decide +kernel
theorem dX8_digest_178 : decode cX8_digest 178 = .ok (.lmul, 1) := by decide +kernel
theorem dX8_digest_179 : decode cX8_digest 179 = .ok (.aload_n 0, 1) := by decide +kernel
theorem dX8_digest_180 : decode cX8_digest 180 = .ok (.bipush 63, 2) := by decide +kernel
theorem dX8_digest_182 : decode cX8_digest 182 = .ok (.iconst 0, 1) := by decide +kernel
theorem dX8_digest_183 : decode cX8_digest 183 = .ok (.iload_n 3, 1) := by decide +kernel
theorem dX8_digest_184 : decode cX8_digest 184 = .ok (.invokevirtual 181, 3) := by decide +kernel
theorem dX8_digest_187 : decode cX8_digest 187 = .ok (.i2l, 1) := by decide +kernel
theorem dX8_digest_188 : decode cX8_digest 188 = .ok (.ladd, 1) := by decide +kernel
theorem dX8_digest_189 : decode cX8_digest 189 = .ok (.lstore_n 1, 1) := by decide +kernel
theorem dX8_digest_190 : decode cX8_digest 190 = .ok (.iinc 3 1, 3) := by decide +kernel
theorem dX8_digest_193 : decode cX8_digest 193 = .ok (.goto (-27), 3) := by decide +kernel
theorem dX8_digest_196 : decode cX8_digest 196 = .ok (.iconst 0, 1) := by decide +kernel
theorem dX8_digest_197 : decode cX8_digest 197 = .ok (.istore_n 3, 1) := by decide +kernel
theorem dX8_digest_198 : decode cX8_digest 198 = .ok (.iload_n 3, 1) := by decide +kernel
theorem dX8_digest_199 : decode cX8_digest 199 = .ok (.iconst 3, 1) := by decide +kernel
theorem dX8_digest_200 : decode cX8_digest 200 = .ok (.if_icmp .ge 22, 3) := by decide +kernel
theorem dX8_digest_203 : decode cX8_digest 203 = .ok (.lload_n 1, 1) := by decide +kernel
theorem dX8_digest_204 : decode cX8_digest 204 = .ok (.ldc2_w 239, 3) := by decide +kernel
theorem dX8_digest_207 : decode cX8_digest 207 = .ok (.lmul, 1) := by decide +kernel
theorem dX8_digest_208 : decode cX8_digest 208 = .ok (.aload_n 0, 1) := by decide +kernel
theorem dX8_digest_209 : decode cX8_digest 209 = .ok (.iload_n 3, 1) := by decide +kernel
theorem dX8_digest_210 : decode cX8_digest 210 = .ok (.invokevirtual 230, 3) := by decide +kernel
theorem dX8_digest_213 : decode cX8_digest 213 = .ok (.i2l, 1) := by decide +kernel
theorem dX8_digest_214 : decode cX8_digest 214 = .ok (.ladd, 1) := by decide +kernel
theorem dX8_digest_215 : decode cX8_digest 215 = .ok (.lstore_n 1, 1) := by decide +kernel
theorem dX8_digest_216 : decode cX8_digest 216 = .ok (.iinc 3 1, 3) := by decide +kernel
theorem dX8_digest_219 : decode cX8_digest 219 = .ok (.goto (-21), 3) := by decide +kernel
theorem dX8_digest_222 : decode cX8_digest 222 = .ok (.lload_n 1, 1) := by decide +kernel
theorem dX8_digest_223 : decode cX8_digest 223 = .ok (.ldc2_w 239, 3) := by decide +kernel
theorem dX8_digest_226 : decode cX8_digest 226 = .ok (.lmul, 1) := by decide +kernel
theorem dX8_digest_227 : decode cX8_digest 227 = .ok (.aload_n 0, 1) := by decide +kernel
theorem dX8_digest_228 : decode cX8_digest 228 = .ok (.invokevirtual 233, 3) := by decide +kernel
theorem dX8_digest_231 : decode cX8_digest 231 = .ok (.ifCond .eq 7, 3) := by decide +kernel
theorem dX8_digest_234 : decode cX8_digest 234 = .ok (.iconst 1, 1) := by decide +kernel
theorem dX8_digest_235 : decode cX8_digest 235 = .ok (.goto 4, 3) := by decide +kernel
theorem dX8_digest_238 : decode cX8_digest 238 = .ok (.iconst 0, 1) := by decide +kernel
theorem dX8_digest_239 : decode cX8_digest 239 = .ok (.i2l, 1) := by decide +kernel
theorem dX8_digest_240 : decode cX8_digest 240 = .ok (.ladd, 1) := by decide +kernel
theorem dX8_digest_241 : decode cX8_digest 241 = .ok (.lreturn, 1) := by decide +kernel
theorem dJ5_init_d00df_0 : decode cJ5_init_d00df 0 = .ok (.aload_n 0, 1) := by decide +kernel
theorem dJ5_init_d00df_1 : decode cJ5_init_d00df 1 = .ok (.invokespecial 3, 3) := by decide +kernel
theorem dJ5_init_d00df_4 : decode cJ5_init_d00df 4 = .ok (.getstatic 18, 3) := by decide +kernel
theorem dJ5_init_d00df_7 : decode cJ5_init_d00df 7 = .ok (.ifCond .eq 18, 3) := by decide +kernel
theorem dJ5_init_d00df_10 : decode cJ5_init_d00df 10 = .ok (.aload_n 0, 1) := by decide +kernel
theorem dJ5_init_d00df_11 : decode cJ5_init_d00df 11 = .ok (.iload_n 1, 1) := by decide +kernel
theorem dJ5_init_d00df_12 : decode cJ5_init_d00df 12 = .ok (.newarray .byte, 2) := by decide +kernel
theorem dJ5_init_d00df_14 : decode cJ5_init_d00df 14 = .ok (.putfield 15, 3) := by decide +kernel
theorem dJ5_init_d00df_17 : decode cJ5_init_d00df 17 = .ok (.aload_n 0, 1) := by decide +kernel
theorem dJ5_init_d00df_18 : decode cJ5_init_d00df 18 = .ok (.iconst 0, 1) := by decide +kernel
theorem dJ5_init_d00df_19 : decode cJ5_init_d00df 19 = .ok (.putfield 22, 3) := by decide +kernel
theorem dJ5_init_d00df_22 : decode cJ5_init_d00df 22 = .ok (.goto 16, 3) := by decide +kernel
theorem dJ5_init_d00df_25 : decode cJ5_init_d00df 25 = .ok (.aload_n 0, 1) := by decide +kernel
theorem dJ5_init_d00df_26 : decode cJ5_init_d00df 26 = .ok (.iload_n 1, 1) := by decide +kernel
theorem dJ5_init_d00df_27 : decode cJ5_init_d00df 27 = .ok (.invokestatic 26, 3) := by decide +kernel
theorem dJ5_init_d00df_30 : decode cJ5_init_d00df 30 = .ok (.putfield 15, 3) := by decide +kernel
theorem dJ5_init_d00df_33 : decode cJ5_init_d00df 33 = .ok (.aload_n 0, 1) := by decide +kernel
theorem dJ5_init_d00df_34 : decode cJ5_init_d00df 34 = .ok (.iconst 1, 1) := by decide +kernel
theorem dJ5_init_d00df_35 : decode cJ5_init_d00df 35 = .ok (.putfield 22, 3) := by decide +kernel
theorem dJ5_init_d00df_38 : decode cJ5_init_d00df 38 = .ok (.return_, 1) := by decide +kernel
theorem dJ5_length_8abf5_0 : decode cJ5_length_8abf5 0 = .ok (.aload_n 0, 1) := by decide +kernel
theorem dJ5_length_8abf5_1 : decode cJ5_length_8abf5 1 = .ok (.getfield 79, 3) := by decide +kernel
theorem dJ5_length_8abf5_4 : decode cJ5_length_8abf5 4 = .ok (.ireturn, 1) := by decide +kernel
theorem dJ5_ensureCapacityInternal_d00df_0 : decode cJ5_ensureCapacityInternal_d00df 0 = .ok (.aload_n 0, 1) := by decide +kernel
theorem dJ5_ensureCapacityInternal_d00df_1 : decode cJ5_ensureCapacityInternal_d00df 1 = .ok (.getfield 15, 3) := by decide +kernel
theorem dJ5_ensureCapacityInternal_d00df_4 : decode cJ5_ensureCapacityInternal_d00df 4 = .ok (.arraylength, 1) := by decide +kernel
theorem dJ5_ensureCapacityInternal_d00df_5 : decode cJ5_ensureCapacityInternal_d00df 5 = .ok (.aload_n 0, 1) := by decide +kernel
theorem dJ5_ensureCapacityInternal_d00df_6 : decode cJ5_ensureCapacityInternal_d00df 6 = .ok (.getfield 22, 3) := by decide +kernel
theorem dJ5_ensureCapacityInternal_d00df_9 : decode cJ5_ensureCapacityInternal_d00df 9 = .ok (.ishr, 1) := by decide +kernel
theorem dJ5_ensureCapacityInternal_d00df_10 : decode cJ5_ensureCapacityInternal_d00df 10 = .ok (.istore_n 2, 1) := by decide +kernel
theorem dJ5_ensureCapacityInternal_d00df_11 : decode cJ5_ensureCapacityInternal_d00df 11 = .ok (.iload_n 1, 1) := by decide +kernel
theorem dJ5_ensureCapacityInternal_d00df_12 : decode cJ5_ensureCapacityInternal_d00df 12 = .ok (.iload_n 2, 1) := by decide +kernel
theorem dJ5_ensureCapacityInternal_d00df_13 : decode cJ5_ensureCapacityInternal_d00df 13 = .ok (.isub, 1) := by decide +kernel
theorem dJ5_ensureCapacityInternal_d00df_14 : decode cJ5_ensureCapacityInternal_d00df 14 = .ok (.ifCond .le 24, 3) := by decide +kernel
theorem dJ5_ensureCapacityInternal_d00df_17 : decode cJ5_ensureCapacityInternal_d00df 17 = .ok (.aload_n 0, 1) := by decide +kernel
theorem dJ5_ensureCapacityInternal_d00df_18 : decode cJ5_ensureCapacityInternal_d00df 18 = .ok (.aload_n 0, 1) := by decide +kernel
theorem dJ5_ensureCapacityInternal_d00df_19 : decode cJ5_ensureCapacityInternal_d00df 19 = .ok (.getfield 15, 3) := by decide +kernel
theorem dJ5_ensureCapacityInternal_d00df_22 : decode cJ5_ensureCapacityInternal_d00df 22 = .ok (.aload_n 0, 1) := by decide +kernel
theorem dJ5_ensureCapacityInternal_d00df_23 : decode cJ5_ensureCapacityInternal_d00df 23 = .ok (.iload_n 1, 1) := by decide +kernel
theorem dJ5_ensureCapacityInternal_d00df_24 : decode cJ5_ensureCapacityInternal_d00df 24 = .ok (.invokevirtual 104, 3) := by decide +kernel
theorem dJ5_ensureCapacityInternal_d00df_27 : decode cJ5_ensureCapacityInternal_d00df 27 = .ok (.aload_n 0, 1) := by decide +kernel
theorem dJ5_ensureCapacityInternal_d00df_28 : decode cJ5_ensureCapacityInternal_d00df 28 = .ok (.getfield 22, 3) := by decide +kernel
theorem dJ5_ensureCapacityInternal_d00df_31 : decode cJ5_ensureCapacityInternal_d00df 31 = .ok (.ishl, 1) := by decide +kernel
theorem dJ5_ensureCapacityInternal_d00df_32 : decode cJ5_ensureCapacityInternal_d00df 32 = .ok (.invokestatic 108, 3) := by decide +kernel
theorem dJ5_ensureCapacityInternal_d00df_35 : decode cJ5_ensureCapacityInternal_d00df 35 = .ok (.putfield 15, 3) := by decide +kernel
theorem dJ5_ensureCapacityInternal_d00df_38 : decode cJ5_ensureCapacityInternal_d00df 38 = .ok (.return_, 1) := by decide +kernel
theorem dJ5_newCapacity_0f7a4_0 : decode cJ5_newCapacity_0f7a4 0 = .ok (.aload_n 0, 1) := by decide +kernel
theorem dJ5_newCapacity_0f7a4_1 : decode cJ5_newCapacity_0f7a4 1 = .ok (.getfield 15, 3) := by decide +kernel
theorem dJ5_newCapacity_0f7a4_4 : decode cJ5_newCapacity_0f7a4 4 = .ok (.arraylength, 1) := by decide +kernel
theorem dJ5_newCapacity_0f7a4_5 : decode cJ5_newCapacity_0f7a4 5 = .ok (.istore_n 2, 1) := by decide +kernel
theorem dJ5_newCapacity_0f7a4_6 : decode cJ5_newCapacity_0f7a4 6 = .ok (.iload_n 1, 1) := by decide +kernel
theorem dJ5_newCapacity_0f7a4_7 : decode cJ5_newCapacity_0f7a4 7 = .ok (.aload_n 0, 1) := by decide +kernel
theorem dJ5_newCapacity_0f7a4_8 : decode cJ5_newCapacity_0f7a4 8 = .ok (.getfield 22, 3) := by decide +kernel
theorem dJ5_newCapacity_0f7a4_11 : decode cJ5_newCapacity_0f7a4 11 = .ok (.ishl, 1) := by decide +kernel
theorem dJ5_newCapacity_0f7a4_12 : decode cJ5_newCapacity_0f7a4 12 = .ok (.istore_n 3, 1) := by decide +kernel
theorem dJ5_newCapacity_0f7a4_13 : decode cJ5_newCapacity_0f7a4 13 = .ok (.iload_n 3, 1) := by decide +kernel
theorem dJ5_newCapacity_0f7a4_14 : decode cJ5_newCapacity_0f7a4 14 = .ok (.iload_n 2, 1) := by decide +kernel
theorem dJ5_newCapacity_0f7a4_15 : decode cJ5_newCapacity_0f7a4 15 = .ok (.isub, 1) := by decide +kernel
theorem dJ5_newCapacity_0f7a4_16 : decode cJ5_newCapacity_0f7a4 16 = .ok (.istore 4, 2) := by decide +kernel
theorem dJ5_newCapacity_0f7a4_18 : decode cJ5_newCapacity_0f7a4 18 = .ok (.iload_n 2, 1) := by decide +kernel
theorem dJ5_newCapacity_0f7a4_19 : decode cJ5_newCapacity_0f7a4 19 = .ok (.iload 4, 2) := by decide +kernel
theorem dJ5_newCapacity_0f7a4_21 : decode cJ5_newCapacity_0f7a4 21 = .ok (.iload_n 2, 1) := by decide +kernel
theorem dJ5_newCapacity_0f7a4_22 : decode cJ5_newCapacity_0f7a4 22 = .ok (.iconst 2, 1) := by decide +kernel
theorem dJ5_newCapacity_0f7a4_23 : decode cJ5_newCapacity_0f7a4 23 = .ok (.aload_n 0, 1) := by decide +kernel
theorem dJ5_newCapacity_0f7a4_24 : decode cJ5_newCapacity_0f7a4 24 = .ok (.getfield 22, 3) := by decide +kernel
theorem dJ5_newCapacity_0f7a4_27 : decode cJ5_newCapacity_0f7a4 27 = .ok (.ishl, 1) := by decide +kernel
theorem dJ5_newCapacity_0f7a4_28 : decode cJ5_newCapacity_0f7a4 28 = .ok (.iadd, 1) := by decide +kernel
theorem dJ5_newCapacity_0f7a4_29 : decode cJ5_newCapacity_0f7a4 29 = .ok (.invokestatic 114, 3) := by decide +kernel
theorem dJ5_newCapacity_0f7a4_32 : decode cJ5_newCapacity_0f7a4 32 = .ok (.istore 5, 2) := by decide +kernel
theorem dJ5_newCapacity_0f7a4_34 : decode cJ5_newCapacity_0f7a4 34 = .ok (.iload 5, 2) := by decide +kernel
theorem dJ5_newCapacity_0f7a4_36 : decode cJ5_newCapacity_0f7a4 36 = .ok (.ldc 39, 2) := by decide +kernel
theorem dJ5_newCapacity_0f7a4_38 : decode cJ5_newCapacity_0f7a4 38 = .ok (.if_icmp .ne 13, 3) := by decide +kernel
theorem dJ5_newCapacity_0f7a4_41 : decode cJ5_newCapacity_0f7a4 41 = .ok (.new 120, 3) := by decide +kernel
theorem dJ5_newCapacity_0f7a4_44 : decode cJ5_newCapacity_0f7a4 44 = .ok (.dup, 1) := by decide +kernel
theorem dJ5_newCapacity_0f7a4_45 : decode cJ5_newCapacity_0f7a4 45 = .ok (.ldc 122, 2) := by decide +kernel
theorem dJ5_newCapacity_0f7a4_47 : decode cJ5_newCapacity_0f7a4 47 = .ok (.invokespecial 124, 3) := by decide +kernel
theorem dJ5_newCapacity_0f7a4_50 : decode cJ5_newCapacity_0f7a4 50 = .ok (.athrow, 1) := by decide +kernel
theorem dJ5_newCapacity_0f7a4_51 : decode cJ5_newCapacity_0f7a4 51 = .ok (.iload 5, 2) := by decide +kernel
theorem dJ5_newCapacity_0f7a4_53 : decode cJ5_newCapacity_0f7a4 53 = .ok (.aload_n 0, 1) := by decide +kernel
theorem dJ5_newCapacity_0f7a4_54 : decode cJ5_newCapacity_0f7a4 54 = .ok (.getfield 22, 3) := by decide +kernel
theorem dJ5_newCapacity_0f7a4_57 : decode cJ5_newCapacity_0f7a4 57 = .ok (.ishr, 1) := by decide +kernel
theorem dJ5_newCapacity_0f7a4_58 : decode cJ5_newCapacity_0f7a4 58 = .ok (.ireturn, 1) := by decide +kernel
theorem dJ5_inflate_da8c8_0 : decode cJ5_inflate_da8c8 0 = .ok (.aload_n 0, 1) := by decide +kernel
theorem dJ5_inflate_da8c8_1 : decode cJ5_inflate_da8c8 1 = .ok (.invokevirtual 83, 3) := by decide +kernel
theorem dJ5_inflate_da8c8_4 : decode cJ5_inflate_da8c8 4 = .ok (.ifCond .ne 4, 3) := by decide +kernel
theorem dJ5_inflate_da8c8_7 : decode cJ5_inflate_da8c8 7 = .ok (.return_, 1) := by decide +kernel
theorem dJ5_inflate_da8c8_8 : decode cJ5_inflate_da8c8 8 = .ok (.aload_n 0, 1) := by decide +kernel
theorem dJ5_inflate_da8c8_9 : decode cJ5_inflate_da8c8 9 = .ok (.getfield 15, 3) := by decide +kernel
theorem dJ5_inflate_da8c8_12 : decode cJ5_inflate_da8c8 12 = .ok (.arraylength, 1) := by decide +kernel
theorem dJ5_inflate_da8c8_13 : decode cJ5_inflate_da8c8 13 = .ok (.invokestatic 26, 3) := by decide +kernel
theorem dJ5_inflate_da8c8_16 : decode cJ5_inflate_da8c8 16 = .ok (.astore_n 1, 1) := by decide +kernel
theorem dJ5_inflate_da8c8_17 : decode cJ5_inflate_da8c8 17 = .ok (.aload_n 0, 1) := by decide +kernel
theorem dJ5_inflate_da8c8_18 : decode cJ5_inflate_da8c8 18 = .ok (.getfield 15, 3) := by decide +kernel
theorem dJ5_inflate_da8c8_21 : decode cJ5_inflate_da8c8 21 = .ok (.iconst 0, 1) := by decide +kernel
theorem dJ5_inflate_da8c8_22 : decode cJ5_inflate_da8c8 22 = .ok (.aload_n 1, 1) := by decide +kernel
theorem dJ5_inflate_da8c8_23 : decode cJ5_inflate_da8c8 23 = .ok (.iconst 0, 1) := by decide +kernel
theorem dJ5_inflate_da8c8_24 : decode cJ5_inflate_da8c8 24 = .ok (.aload_n 0, 1) := by decide +kernel
theorem dJ5_inflate_da8c8_25 : decode cJ5_inflate_da8c8 25 = .ok (.getfield 79, 3) := by decide +kernel
theorem dJ5_inflate_da8c8_28 : decode cJ5_inflate_da8c8 28 = .ok (.invokestatic 125, 3) := by decide +kernel
theorem dJ5_inflate_da8c8_31 : decode cJ5_inflate_da8c8 31 = .ok (.aload_n 0, 1) := by decide +kernel
theorem dJ5_inflate_da8c8_32 : decode cJ5_inflate_da8c8 32 = .ok (.aload_n 1, 1) := by decide +kernel
theorem dJ5_inflate_da8c8_33 : decode cJ5_inflate_da8c8 33 = .ok (.putfield 15, 3) := by decide +kernel
theorem dJ5_inflate_da8c8_36 : decode cJ5_inflate_da8c8 36 = .ok (.aload_n 0, 1) := by decide +kernel
theorem dJ5_inflate_da8c8_37 : decode cJ5_inflate_da8c8 37 = .ok (.iconst 1, 1) := by decide +kernel
theorem dJ5_inflate_da8c8_38 : decode cJ5_inflate_da8c8 38 = .ok (.putfield 22, 3) := by decide +kernel
theorem dJ5_inflate_da8c8_41 : decode cJ5_inflate_da8c8 41 = .ok (.return_, 1) := by decide +kernel
theorem dJ5_append_cf1ce_0 : decode cJ5_append_cf1ce 0 = .ok (.aload_n 1, 1) := by decide +kernel
theorem dJ5_append_cf1ce_1 : decode cJ5_append_cf1ce 1 = .ok (.ifnonnull 8, 3) := by decide +kernel
theorem dJ5_append_cf1ce_4 : decode cJ5_append_cf1ce 4 = .ok (.aload_n 0, 1) := by decide +kernel
theorem dJ5_append_cf1ce_5 : decode cJ5_append_cf1ce 5 = .ok (.invokevirtual 204, 3) := by decide +kernel
theorem dJ5_append_cf1ce_8 : decode cJ5_append_cf1ce 8 = .ok (.areturn, 1) := by decide +kernel
theorem dJ5_append_cf1ce_9 : decode cJ5_append_cf1ce 9 = .ok (.aload_n 1, 1) := by decide +kernel
theorem dJ5_append_cf1ce_10 : decode cJ5_append_cf1ce 10 = .ok (.invokevirtual 32, 3) := by decide +kernel
theorem dJ5_append_cf1ce_13 : decode cJ5_append_cf1ce 13 = .ok (.istore_n 2, 1) := by decide +kernel
theorem dJ5_append_cf1ce_14 : decode cJ5_append_cf1ce 14 = .ok (.aload_n 0, 1) := by decide +kernel
theorem dJ5_append_cf1ce_15 : decode cJ5_append_cf1ce 15 = .ok (.aload_n 0, 1) := by decide +kernel
theorem dJ5_append_cf1ce_16 : decode cJ5_append_cf1ce 16 = .ok (.getfield 79, 3) := by decide +kernel
theorem dJ5_append_cf1ce_19 : decode cJ5_append_cf1ce 19 = .ok (.iload_n 2, 1) := by decide +kernel
theorem dJ5_append_cf1ce_20 : decode cJ5_append_cf1ce 20 = .ok (.iadd, 1) := by decide +kernel
theorem dJ5_append_cf1ce_21 : decode cJ5_append_cf1ce 21 = .ok (.invokevirtual 100, 3) := by decide +kernel
theorem dJ5_append_cf1ce_24 : decode cJ5_append_cf1ce 24 = .ok (.aload_n 0, 1) := by decide +kernel
theorem dJ5_append_cf1ce_25 : decode cJ5_append_cf1ce 25 = .ok (.aload_n 0, 1) := by decide +kernel
theorem dJ5_append_cf1ce_26 : decode cJ5_append_cf1ce 26 = .ok (.getfield 79, 3) := by decide +kernel
theorem dJ5_append_cf1ce_29 : decode cJ5_append_cf1ce 29 = .ok (.aload_n 1, 1) := by decide +kernel
theorem dJ5_append_cf1ce_30 : decode cJ5_append_cf1ce 30 = .ok (.invokevirtual 208, 3) := by decide +kernel
theorem dJ5_append_cf1ce_33 : decode cJ5_append_cf1ce 33 = .ok (.aload_n 0, 1) := by decide +kernel
theorem dJ5_append_cf1ce_34 : decode cJ5_append_cf1ce 34 = .ok (.dup, 1) := by decide +kernel
theorem dJ5_append_cf1ce_35 : decode cJ5_append_cf1ce 35 = .ok (.getfield 79, 3) := by decide +kernel
theorem dJ5_append_cf1ce_38 : decode cJ5_append_cf1ce 38 = .ok (.iload_n 2, 1) := by decide +kernel
theorem dJ5_append_cf1ce_39 : decode cJ5_append_cf1ce 39 = .ok (.iadd, 1) := by decide +kernel
theorem dJ5_append_cf1ce_40 : decode cJ5_append_cf1ce 40 = .ok (.putfield 79, 3) := by decide +kernel
theorem dJ5_append_cf1ce_43 : decode cJ5_append_cf1ce 43 = .ok (.aload_n 0, 1) := by decide +kernel
theorem dJ5_append_cf1ce_44 : decode cJ5_append_cf1ce 44 = .ok (.areturn, 1) := by decide +kernel
theorem dJ5_appendNull_278bc_0 : decode cJ5_appendNull_278bc 0 = .ok (.aload_n 0, 1) := by decide +kernel
theorem dJ5_appendNull_278bc_1 : decode cJ5_appendNull_278bc 1 = .ok (.aload_n 0, 1) := by decide +kernel
theorem dJ5_appendNull_278bc_2 : decode cJ5_appendNull_278bc 2 = .ok (.getfield 79, 3) := by decide +kernel
theorem dJ5_appendNull_278bc_5 : decode cJ5_appendNull_278bc 5 = .ok (.iconst 4, 1) := by decide +kernel
theorem dJ5_appendNull_278bc_6 : decode cJ5_appendNull_278bc 6 = .ok (.iadd, 1) := by decide +kernel
theorem dJ5_appendNull_278bc_7 : decode cJ5_appendNull_278bc 7 = .ok (.invokevirtual 100, 3) := by decide +kernel
theorem dJ5_appendNull_278bc_10 : decode cJ5_appendNull_278bc 10 = .ok (.aload_n 0, 1) := by decide +kernel
theorem dJ5_appendNull_278bc_11 : decode cJ5_appendNull_278bc 11 = .ok (.getfield 79, 3) := by decide +kernel
theorem dJ5_appendNull_278bc_14 : decode cJ5_appendNull_278bc 14 = .ok (.istore_n 1, 1) := by decide +kernel
theorem dJ5_appendNull_278bc_15 : decode cJ5_appendNull_278bc 15 = .ok (.aload_n 0, 1) := by decide +kernel
theorem dJ5_appendNull_278bc_16 : decode cJ5_appendNull_278bc 16 = .ok (.getfield 15, 3) := by decide +kernel
theorem dJ5_appendNull_278bc_19 : decode cJ5_appendNull_278bc 19 = .ok (.astore_n 2, 1) := by decide +kernel
theorem dJ5_appendNull_278bc_20 : decode cJ5_appendNull_278bc 20 = .ok (.aload_n 0, 1) := by decide +kernel
theorem dJ5_appendNull_278bc_21 : decode cJ5_appendNull_278bc 21 = .ok (.invokevirtual 83, 3) := by decide +kernel
theorem dJ5_appendNull_278bc_24 : decode cJ5_appendNull_278bc 24 = .ok (.ifCond .eq 38, 3) := by decide +kernel
theorem dJ5_appendNull_278bc_27 : decode cJ5_appendNull_278bc 27 = .ok (.aload_n 2, 1) := by decide +kernel
theorem dJ5_appendNull_278bc_28 : decode cJ5_appendNull_278bc 28 = .ok (.iload_n 1, 1) := by decide +kernel
theorem dJ5_appendNull_278bc_29 : decode cJ5_appendNull_278bc 29 = .ok (.iinc 1 1, 3) := by decide +kernel
theorem dJ5_appendNull_278bc_32 : decode cJ5_appendNull_278bc 32 = .ok (.bipush 110, 2) := by decide +kernel
theorem dJ5_appendNull_278bc_34 : decode cJ5_appendNull_278bc 34 = .ok (.bastore, 1) := by decide +kernel
theorem dJ5_appendNull_278bc_35 : decode cJ5_appendNull_278bc 35 = .ok (.aload_n 2, 1) := by decide +kernel
theorem dJ5_appendNull_278bc_36 : decode cJ5_appendNull_278bc 36 = .ok (.iload_n 1, 1) := by decide +kernel
theorem dJ5_appendNull_278bc_37 : decode cJ5_appendNull_278bc 37 = .ok (.iinc 1 1, 3) := by decide +kernel
theorem dJ5_appendNull_278bc_40 : decode cJ5_appendNull_278bc 40 = .ok (.bipush 117, 2) := by decide +kernel
theorem dJ5_appendNull_278bc_42 : decode cJ5_appendNull_278bc 42 = .ok (.bastore, 1) := by decide +kernel
theorem dJ5_appendNull_278bc_43 : decode cJ5_appendNull_278bc 43 = .ok (.aload_n 2, 1) := by decide +kernel
theorem dJ5_appendNull_278bc_44 : decode cJ5_appendNull_278bc 44 = .ok (.iload_n 1, 1) := by decide +kernel
theorem dJ5_appendNull_278bc_45 : decode cJ5_appendNull_278bc 45 = .ok (.iinc 1 1, 3) := by decide +kernel
theorem dJ5_appendNull_278bc_48 : decode cJ5_appendNull_278bc 48 = .ok (.bipush 108, 2) := by decide +kernel
theorem dJ5_appendNull_278bc_50 : decode cJ5_appendNull_278bc 50 = .ok (.bastore, 1) := by decide +kernel
theorem dJ5_appendNull_278bc_51 : decode cJ5_appendNull_278bc 51 = .ok (.aload_n 2, 1) := by decide +kernel
theorem dJ5_appendNull_278bc_52 : decode cJ5_appendNull_278bc 52 = .ok (.iload_n 1, 1) := by decide +kernel
theorem dJ5_appendNull_278bc_53 : decode cJ5_appendNull_278bc 53 = .ok (.iinc 1 1, 3) := by decide +kernel
theorem dJ5_appendNull_278bc_56 : decode cJ5_appendNull_278bc 56 = .ok (.bipush 108, 2) := by decide +kernel
theorem dJ5_appendNull_278bc_58 : decode cJ5_appendNull_278bc 58 = .ok (.bastore, 1) := by decide +kernel
theorem dJ5_appendNull_278bc_59 : decode cJ5_appendNull_278bc 59 = .ok (.goto 17, 3) := by decide +kernel
theorem dJ5_appendNull_278bc_62 : decode cJ5_appendNull_278bc 62 = .ok (.aload_n 2, 1) := by decide +kernel
theorem dJ5_appendNull_278bc_63 : decode cJ5_appendNull_278bc 63 = .ok (.iload_n 1, 1) := by decide +kernel
theorem dJ5_appendNull_278bc_64 : decode cJ5_appendNull_278bc 64 = .ok (.bipush 110, 2) := by decide +kernel
theorem dJ5_appendNull_278bc_66 : decode cJ5_appendNull_278bc 66 = .ok (.bipush 117, 2) := by decide +kernel
theorem dJ5_appendNull_278bc_68 : decode cJ5_appendNull_278bc 68 = .ok (.bipush 108, 2) := by decide +kernel
theorem dJ5_appendNull_278bc_70 : decode cJ5_appendNull_278bc 70 = .ok (.bipush 108, 2) := by decide +kernel
theorem dJ5_appendNull_278bc_72 : decode cJ5_appendNull_278bc 72 = .ok (.invokestatic 226, 3) := by decide +kernel
theorem dJ5_appendNull_278bc_75 : decode cJ5_appendNull_278bc 75 = .ok (.istore_n 1, 1) := by decide +kernel
theorem dJ5_appendNull_278bc_76 : decode cJ5_appendNull_278bc 76 = .ok (.aload_n 0, 1) := by decide +kernel
theorem dJ5_appendNull_278bc_77 : decode cJ5_appendNull_278bc 77 = .ok (.iload_n 1, 1) := by decide +kernel
theorem dJ5_appendNull_278bc_78 : decode cJ5_appendNull_278bc 78 = .ok (.putfield 79, 3) := by decide +kernel
theorem dJ5_appendNull_278bc_81 : decode cJ5_appendNull_278bc 81 = .ok (.aload_n 0, 1) := by decide +kernel
theorem dJ5_appendNull_278bc_82 : decode cJ5_appendNull_278bc 82 = .ok (.areturn, 1) := by decide +kernel
theorem dJ5_append_3fe6f_0 : decode cJ5_append_3fe6f 0 = .ok (.aload_n 0, 1) := by decide +kernel
theorem dJ5_append_3fe6f_1 : decode cJ5_append_3fe6f 1 = .ok (.aload_n 0, 1) := by decide +kernel
theorem dJ5_append_3fe6f_2 : decode cJ5_append_3fe6f 2 = .ok (.getfield 79, 3) := by decide +kernel
theorem dJ5_append_3fe6f_5 : decode cJ5_append_3fe6f 5 = .ok (.iconst 1, 1) := by decide +kernel
theorem dJ5_append_3fe6f_6 : decode cJ5_append_3fe6f 6 = .ok (.iadd, 1) := by decide +kernel
theorem dJ5_append_3fe6f_7 : decode cJ5_append_3fe6f 7 = .ok (.invokevirtual 100, 3) := by decide +kernel
theorem dJ5_append_3fe6f_10 : decode cJ5_append_3fe6f 10 = .ok (.aload_n 0, 1) := by decide +kernel
theorem dJ5_append_3fe6f_11 : decode cJ5_append_3fe6f 11 = .ok (.invokevirtual 83, 3) := by decide +kernel
theorem dJ5_append_3fe6f_14 : decode cJ5_append_3fe6f 14 = .ok (.ifCond .eq 31, 3) := by decide +kernel
theorem dJ5_append_3fe6f_17 : decode cJ5_append_3fe6f 17 = .ok (.iload_n 1, 1) := by decide +kernel
theorem dJ5_append_3fe6f_18 : decode cJ5_append_3fe6f 18 = .ok (.invokestatic 191, 3) := by decide +kernel
theorem dJ5_append_3fe6f_21 : decode cJ5_append_3fe6f 21 = .ok (.ifCond .eq 24, 3) := by decide +kernel
theorem dJ5_append_3fe6f_24 : decode cJ5_append_3fe6f 24 = .ok (.aload_n 0, 1) := by decide +kernel
theorem dJ5_append_3fe6f_25 : decode cJ5_append_3fe6f 25 = .ok (.getfield 15, 3) := by decide +kernel
theorem dJ5_append_3fe6f_28 : decode cJ5_append_3fe6f 28 = .ok (.aload_n 0, 1) := by decide +kernel
theorem dJ5_append_3fe6f_29 : decode cJ5_append_3fe6f 29 = .ok (.dup, 1) := by decide +kernel
theorem dJ5_append_3fe6f_30 : decode cJ5_append_3fe6f 30 = .ok (.getfield 79, 3) := by decide +kernel
theorem dJ5_append_3fe6f_33 : decode cJ5_append_3fe6f 33 = .ok (.dup_x1, 1) := by decide +kernel
theorem dJ5_append_3fe6f_34 : decode cJ5_append_3fe6f 34 = .ok (.iconst 1, 1) := by decide +kernel
theorem dJ5_append_3fe6f_35 : decode cJ5_append_3fe6f 35 = .ok (.iadd, 1) := by decide +kernel
theorem dJ5_append_3fe6f_36 : decode cJ5_append_3fe6f 36 = .ok (.putfield 79, 3) := by decide +kernel
theorem dJ5_append_3fe6f_39 : decode cJ5_append_3fe6f 39 = .ok (.iload_n 1, 1) := by decide +kernel
theorem dJ5_append_3fe6f_40 : decode cJ5_append_3fe6f 40 = .ok (.i2b, 1) := by decide +kernel
theorem dJ5_append_3fe6f_41 : decode cJ5_append_3fe6f 41 = .ok (.bastore, 1) := by decide +kernel
theorem dJ5_append_3fe6f_42 : decode cJ5_append_3fe6f 42 = .ok (.goto 33, 3) := by decide +kernel
theorem dJ5_append_3fe6f_45 : decode cJ5_append_3fe6f 45 = .ok (.aload_n 0, 1) := by decide +kernel
theorem dJ5_append_3fe6f_46 : decode cJ5_append_3fe6f 46 = .ok (.invokevirtual 83, 3) := by decide +kernel
theorem dJ5_append_3fe6f_49 : decode cJ5_append_3fe6f 49 = .ok (.ifCond .eq 7, 3) := by decide +kernel
theorem dJ5_append_3fe6f_52 : decode cJ5_append_3fe6f 52 = .ok (.aload_n 0, 1) := by decide +kernel
theorem dJ5_append_3fe6f_53 : decode cJ5_append_3fe6f 53 = .ok (.invokevirtual 195, 3) := by decide +kernel
theorem dJ5_append_3fe6f_56 : decode cJ5_append_3fe6f 56 = .ok (.aload_n 0, 1) := by decide +kernel
theorem dJ5_append_3fe6f_57 : decode cJ5_append_3fe6f 57 = .ok (.getfield 15, 3) := by decide +kernel
theorem dJ5_append_3fe6f_60 : decode cJ5_append_3fe6f 60 = .ok (.aload_n 0, 1) := by decide +kernel
theorem dJ5_append_3fe6f_61 : decode cJ5_append_3fe6f 61 = .ok (.dup, 1) := by decide +kernel
theorem dJ5_append_3fe6f_62 : decode cJ5_append_3fe6f 62 = .ok (.getfield 79, 3) := by decide +kernel
theorem dJ5_append_3fe6f_65 : decode cJ5_append_3fe6f 65 = .ok (.dup_x1, 1) := by decide +kernel
theorem dJ5_append_3fe6f_66 : decode cJ5_append_3fe6f 66 = .ok (.iconst 1, 1) := by decide +kernel
theorem dJ5_append_3fe6f_67 : decode cJ5_append_3fe6f 67 = .ok (.iadd, 1) := by decide +kernel
theorem dJ5_append_3fe6f_68 : decode cJ5_append_3fe6f 68 = .ok (.putfield 79, 3) := by decide +kernel
theorem dJ5_append_3fe6f_71 : decode cJ5_append_3fe6f 71 = .ok (.iload_n 1, 1) := by decide +kernel
theorem dJ5_append_3fe6f_72 : decode cJ5_append_3fe6f 72 = .ok (.invokestatic 197, 3) := by decide +kernel
theorem dJ5_append_3fe6f_75 : decode cJ5_append_3fe6f 75 = .ok (.aload_n 0, 1) := by decide +kernel
theorem dJ5_append_3fe6f_76 : decode cJ5_append_3fe6f 76 = .ok (.areturn, 1) := by decide +kernel
theorem dJ5_append_c97b9_0 : decode cJ5_append_c97b9 0 = .ok (.aload_n 0, 1) := by decide +kernel
theorem dJ5_append_c97b9_1 : decode cJ5_append_c97b9 1 = .ok (.getfield 79, 3) := by decide +kernel
theorem dJ5_append_c97b9_4 : decode cJ5_append_c97b9 4 = .ok (.istore_n 2, 1) := by decide +kernel
theorem dJ5_append_c97b9_5 : decode cJ5_append_c97b9 5 = .ok (.iload_n 2, 1) := by decide +kernel
theorem dJ5_append_c97b9_6 : decode cJ5_append_c97b9 6 = .ok (.iload_n 1, 1) := by decide +kernel
theorem dJ5_append_c97b9_7 : decode cJ5_append_c97b9 7 = .ok (.invokestatic 245, 3) := by decide +kernel
theorem dJ5_append_c97b9_10 : decode cJ5_append_c97b9 10 = .ok (.iadd, 1) := by decide +kernel
theorem dJ5_append_c97b9_11 : decode cJ5_append_c97b9 11 = .ok (.istore_n 3, 1) := by decide +kernel
theorem dJ5_append_c97b9_12 : decode cJ5_append_c97b9 12 = .ok (.aload_n 0, 1) := by decide +kernel
theorem dJ5_append_c97b9_13 : decode cJ5_append_c97b9 13 = .ok (.iload_n 3, 1) := by decide +kernel
theorem dJ5_append_c97b9_14 : decode cJ5_append_c97b9 14 = .ok (.invokevirtual 100, 3) := by decide +kernel
theorem dJ5_append_c97b9_17 : decode cJ5_append_c97b9 17 = .ok (.aload_n 0, 1) := by decide +kernel
theorem dJ5_append_c97b9_18 : decode cJ5_append_c97b9 18 = .ok (.invokevirtual 83, 3) := by decide +kernel
theorem dJ5_append_c97b9_21 : decode cJ5_append_c97b9 21 = .ok (.ifCond .eq 16, 3) := by decide +kernel
theorem dJ5_append_c97b9_24 : decode cJ5_append_c97b9 24 = .ok (.iload_n 1, 1) := by decide +kernel
theorem dJ5_append_c97b9_25 : decode cJ5_append_c97b9 25 = .ok (.iload_n 3, 1) := by decide +kernel
theorem dJ5_append_c97b9_26 : decode cJ5_append_c97b9 26 = .ok (.aload_n 0, 1) := by decide +kernel
theorem dJ5_append_c97b9_27 : decode cJ5_append_c97b9 27 = .ok (.getfield 15, 3) := by decide +kernel
theorem dJ5_append_c97b9_30 : decode cJ5_append_c97b9 30 = .ok (.invokestatic 248, 3) := by decide +kernel
theorem dJ5_append_c97b9_33 : decode cJ5_append_c97b9 33 = .ok (.pop, 1) := by decide +kernel
theorem dJ5_append_c97b9_34 : decode cJ5_append_c97b9 34 = .ok (.goto 14, 3) := by decide +kernel
theorem dJ5_append_c97b9_37 : decode cJ5_append_c97b9 37 = .ok (.iload_n 1, 1) := by decide +kernel
theorem dJ5_append_c97b9_38 : decode cJ5_append_c97b9 38 = .ok (.iload_n 2, 1) := by decide +kernel
theorem dJ5_append_c97b9_39 : decode cJ5_append_c97b9 39 = .ok (.iload_n 3, 1) := by decide +kernel
theorem dJ5_append_c97b9_40 : decode cJ5_append_c97b9 40 = .ok (.aload_n 0, 1) := by decide +kernel
theorem dJ5_append_c97b9_41 : decode cJ5_append_c97b9 41 = .ok (.getfield 15, 3) := by decide +kernel
theorem dJ5_append_c97b9_44 : decode cJ5_append_c97b9 44 = .ok (.invokestatic 251, 3) := by decide +kernel
theorem dJ5_append_c97b9_47 : decode cJ5_append_c97b9 47 = .ok (.pop, 1) := by decide +kernel
theorem dJ5_append_c97b9_48 : decode cJ5_append_c97b9 48 = .ok (.aload_n 0, 1) := by decide +kernel
theorem dJ5_append_c97b9_49 : decode cJ5_append_c97b9 49 = .ok (.iload_n 3, 1) := by decide +kernel
theorem dJ5_append_c97b9_50 : decode cJ5_append_c97b9 50 = .ok (.putfield 79, 3) := by decide +kernel
theorem dJ5_append_c97b9_53 : decode cJ5_append_c97b9 53 = .ok (.aload_n 0, 1) := by decide +kernel
theorem dJ5_append_c97b9_54 : decode cJ5_append_c97b9 54 = .ok (.areturn, 1) := by decide +kernel
theorem dJ5_getValue_6d5f1_0 : decode cJ5_getValue_6d5f1 0 = .ok (.aload_n 0, 1) := by decide +kernel
theorem dJ5_getValue_6d5f1_1 : decode cJ5_getValue_6d5f1 1 = .ok (.getfield 15, 3) := by decide +kernel
theorem dJ5_getValue_6d5f1_4 : decode cJ5_getValue_6d5f1 4 = .ok (.areturn, 1) := by decide +kernel
theorem dJ5_isLatin1_aae02_0 : decode cJ5_isLatin1_aae02 0 = .ok (.getstatic 18, 3) := by decide +kernel
theorem dJ5_isLatin1_aae02_3 : decode cJ5_isLatin1_aae02 3 = .ok (.ifCond .eq 14, 3) := by decide +kernel
theorem dJ5_isLatin1_aae02_6 : decode cJ5_isLatin1_aae02 6 = .ok (.aload_n 0, 1) := by decide +kernel
theorem dJ5_isLatin1_aae02_7 : decode cJ5_isLatin1_aae02 7 = .ok (.getfield 22, 3) := by decide +kernel
theorem dJ5_isLatin1_aae02_10 : decode cJ5_isLatin1_aae02 10 = .ok (.ifCond .ne 7, 3) := by decide +kernel
theorem dJ5_isLatin1_aae02_13 : decode cJ5_isLatin1_aae02 13 = .ok (.iconst 1, 1) := by decide +kernel
theorem dJ5_isLatin1_aae02_14 : decode cJ5_isLatin1_aae02 14 = .ok (.goto 4, 3) := by decide +kernel
theorem dJ5_isLatin1_aae02_17 : decode cJ5_isLatin1_aae02 17 = .ok (.iconst 0, 1) := by decide +kernel
theorem dJ5_isLatin1_aae02_18 : decode cJ5_isLatin1_aae02 18 = .ok (.ireturn, 1) := by decide +kernel
theorem dJ5_inflateIfNeededFor_a7421_0 : decode cJ5_inflateIfNeededFor_a7421 0 = .ok (.getstatic 18, 3) := by decide +kernel
theorem dJ5_inflateIfNeededFor_a7421_3 : decode cJ5_inflateIfNeededFor_a7421 3 = .ok (.ifCond .eq 18, 3) := by decide +kernel
theorem dJ5_inflateIfNeededFor_a7421_6 : decode cJ5_inflateIfNeededFor_a7421 6 = .ok (.aload_n 0, 1) := by decide +kernel
theorem dJ5_inflateIfNeededFor_a7421_7 : decode cJ5_inflateIfNeededFor_a7421 7 = .ok (.getfield 22, 3) := by decide +kernel
theorem dJ5_inflateIfNeededFor_a7421_10 : decode cJ5_inflateIfNeededFor_a7421 10 = .ok (.aload_n 1, 1) := by decide +kernel
theorem dJ5_inflateIfNeededFor_a7421_11 : decode cJ5_inflateIfNeededFor_a7421 11 = .ok (.invokevirtual 40, 3) := by decide +kernel
theorem dJ5_inflateIfNeededFor_a7421_14 : decode cJ5_inflateIfNeededFor_a7421 14 = .ok (.if_icmp .eq 7, 3) := by decide +kernel
theorem dJ5_inflateIfNeededFor_a7421_17 : decode cJ5_inflateIfNeededFor_a7421 17 = .ok (.aload_n 0, 1) := by decide +kernel
theorem dJ5_inflateIfNeededFor_a7421_18 : decode cJ5_inflateIfNeededFor_a7421 18 = .ok (.invokevirtual 195, 3) := by decide +kernel
theorem dJ5_inflateIfNeededFor_a7421_21 : decode cJ5_inflateIfNeededFor_a7421 21 = .ok (.return_, 1) := by decide +kernel
theorem dJ5_putStringAt_47b60_0 : decode cJ5_putStringAt_47b60 0 = .ok (.aload_n 0, 1) := by decide +kernel
theorem dJ5_putStringAt_47b60_1 : decode cJ5_putStringAt_47b60 1 = .ok (.aload_n 2, 1) := by decide +kernel
theorem dJ5_putStringAt_47b60_2 : decode cJ5_putStringAt_47b60 2 = .ok (.invokevirtual 397, 3) := by decide +kernel
theorem dJ5_putStringAt_47b60_5 : decode cJ5_putStringAt_47b60 5 = .ok (.aload_n 2, 1) := by decide +kernel
theorem dJ5_putStringAt_47b60_6 : decode cJ5_putStringAt_47b60 6 = .ok (.aload_n 0, 1) := by decide +kernel
theorem dJ5_putStringAt_47b60_7 : decode cJ5_putStringAt_47b60 7 = .ok (.getfield 15, 3) := by decide +kernel
theorem dJ5_putStringAt_47b60_10 : decode cJ5_putStringAt_47b60 10 = .ok (.iload_n 1, 1) := by decide +kernel
theorem dJ5_putStringAt_47b60_11 : decode cJ5_putStringAt_47b60 11 = .ok (.aload_n 0, 1) := by decide +kernel
theorem dJ5_putStringAt_47b60_12 : decode cJ5_putStringAt_47b60 12 = .ok (.getfield 22, 3) := by decide +kernel
theorem dJ5_putStringAt_47b60_15 : decode cJ5_putStringAt_47b60 15 = .ok (.invokevirtual 399, 3) := by decide +kernel
theorem dJ5_putStringAt_47b60_18 : decode cJ5_putStringAt_47b60 18 = .ok (.return_, 1) := by decide +kernel
theorem dJ6_getChars_ba4f3_0 : decode cJ6_getChars_ba4f3 0 = .ok (.iload_n 1, 1) := by decide +kernel
theorem dJ6_getChars_ba4f3_1 : decode cJ6_getChars_ba4f3 1 = .ok (.istore 5, 2) := by decide +kernel
theorem dJ6_getChars_ba4f3_3 : decode cJ6_getChars_ba4f3 3 = .ok (.iload_n 0, 1) := by decide +kernel
theorem dJ6_getChars_ba4f3_4 : decode cJ6_getChars_ba4f3 4 = .ok (.ifCond .ge 7, 3) := by decide +kernel
theorem dJ6_getChars_ba4f3_7 : decode cJ6_getChars_ba4f3 7 = .ok (.iconst 1, 1) := by decide +kernel
theorem dJ6_getChars_ba4f3_8 : decode cJ6_getChars_ba4f3 8 = .ok (.goto 4, 3) := by decide +kernel
theorem dJ6_getChars_ba4f3_11 : decode cJ6_getChars_ba4f3 11 = .ok (.iconst 0, 1) := by decide +kernel
theorem dJ6_getChars_ba4f3_12 : decode cJ6_getChars_ba4f3 12 = .ok (.istore 6, 2) := by decide +kernel
theorem dJ6_getChars_ba4f3_14 : decode cJ6_getChars_ba4f3 14 = .ok (.iload 6, 2) := by decide +kernel
theorem dJ6_getChars_ba4f3_16 : decode cJ6_getChars_ba4f3 16 = .ok (.ifCond .ne 6, 3) := by decide +kernel
theorem dJ6_getChars_ba4f3_19 : decode cJ6_getChars_ba4f3 19 = .ok (.iload_n 0, 1) := by decide +kernel
theorem dJ6_getChars_ba4f3_20 : decode cJ6_getChars_ba4f3 20 = .ok (.ineg, 1) := by decide +kernel
theorem dJ6_getChars_ba4f3_21 : decode cJ6_getChars_ba4f3 21 = .ok (.istore_n 0, 1) := by decide +kernel
theorem dJ6_getChars_ba4f3_22 : decode cJ6_getChars_ba4f3 22 = .ok (.iload_n 0, 1) := by decide +kernel
theorem dJ6_getChars_ba4f3_23 : decode cJ6_getChars_ba4f3 23 = .ok (.bipush (-100), 2) := by decide +kernel
theorem dJ6_getChars_ba4f3_25 : decode cJ6_getChars_ba4f3 25 = .ok (.if_icmp .gt 47, 3) := by decide +kernel
theorem dJ6_getChars_ba4f3_28 : decode cJ6_getChars_ba4f3 28 = .ok (.iload_n 0, 1) := by decide +kernel
theorem dJ6_getChars_ba4f3_29 : decode cJ6_getChars_ba4f3 29 = .ok (.bipush 100, 2) := by decide +kernel
theorem dJ6_getChars_ba4f3_31 : decode cJ6_getChars_ba4f3 31 = .ok (.idiv, 1) := by decide +kernel
theorem dJ6_getChars_ba4f3_32 : decode cJ6_getChars_ba4f3 32 = .ok (.istore_n 3, 1) := by decide +kernel
theorem dJ6_getChars_ba4f3_33 : decode cJ6_getChars_ba4f3 33 = .ok (.iload_n 3, 1) := by decide +kernel
theorem dJ6_getChars_ba4f3_34 : decode cJ6_getChars_ba4f3 34 = .ok (.bipush 100, 2) := by decide +kernel
theorem dJ6_getChars_ba4f3_36 : decode cJ6_getChars_ba4f3 36 = .ok (.imul, 1) := by decide +kernel
theorem dJ6_getChars_ba4f3_37 : decode cJ6_getChars_ba4f3 37 = .ok (.iload_n 0, 1) := by decide +kernel
theorem dJ6_getChars_ba4f3_38 : decode cJ6_getChars_ba4f3 38 = .ok (.isub, 1) := by decide +kernel
theorem dJ6_getChars_ba4f3_39 : decode cJ6_getChars_ba4f3 39 = .ok (.istore 4, 2) := by decide +kernel
theorem dJ6_getChars_ba4f3_41 : decode cJ6_getChars_ba4f3 41 = .ok (.iload_n 3, 1) := by decide +kernel
theorem dJ6_getChars_ba4f3_42 : decode cJ6_getChars_ba4f3 42 = .ok (.istore_n 0, 1) := by decide +kernel
theorem dJ6_getChars_ba4f3_43 : decode cJ6_getChars_ba4f3 43 = .ok (.aload_n 2, 1) := by decide +kernel
theorem dJ6_getChars_ba4f3_44 : decode cJ6_getChars_ba4f3 44 = .ok (.iinc 5 (-1), 3) := by decide +kernel
theorem dJ6_getChars_ba4f3_47 : decode cJ6_getChars_ba4f3 47 = .ok (.iload 5, 2) := by decide +kernel
theorem dJ6_getChars_ba4f3_49 : decode cJ6_getChars_ba4f3 49 = .ok (.getstatic 83, 3) := by decide +kernel
theorem dJ6_getChars_ba4f3_52 : decode cJ6_getChars_ba4f3 52 = .ok (.iload 4, 2) := by decide +kernel
theorem dJ6_getChars_ba4f3_54 : decode cJ6_getChars_ba4f3 54 = .ok (.baload, 1) := by decide +kernel
theorem dJ6_getChars_ba4f3_55 : decode cJ6_getChars_ba4f3 55 = .ok (.bastore, 1) := by decide +kernel
theorem dJ6_getChars_ba4f3_56 : decode cJ6_getChars_ba4f3 56 = .ok (.aload_n 2, 1) := by decide +kernel
theorem dJ6_getChars_ba4f3_57 : decode cJ6_getChars_ba4f3 57 = .ok (.iinc 5 (-1), 3) := by decide +kernel
theorem dJ6_getChars_ba4f3_60 : decode cJ6_getChars_ba4f3 60 = .ok (.iload 5, 2) := by decide +kernel
theorem dJ6_getChars_ba4f3_62 : decode cJ6_getChars_ba4f3 62 = .ok (.getstatic 87, 3) := by decide +kernel
theorem dJ6_getChars_ba4f3_65 : decode cJ6_getChars_ba4f3 65 = .ok (.iload 4, 2) := by decide +kernel
theorem dJ6_getChars_ba4f3_67 : decode cJ6_getChars_ba4f3 67 = .ok (.baload, 1) := by decide +kernel
theorem dJ6_getChars_ba4f3_68 : decode cJ6_getChars_ba4f3 68 = .ok (.bastore, 1) := by decide +kernel
theorem dJ6_getChars_ba4f3_69 : decode cJ6_getChars_ba4f3 69 = .ok (.goto (-47), 3) := by decide +kernel
theorem dJ6_getChars_ba4f3_72 : decode cJ6_getChars_ba4f3 72 = .ok (.aload_n 2, 1) := by decide +kernel
theorem dJ6_getChars_ba4f3_73 : decode cJ6_getChars_ba4f3 73 = .ok (.iinc 5 (-1), 3) := by decide +kernel
theorem dJ6_getChars_ba4f3_76 : decode cJ6_getChars_ba4f3 76 = .ok (.iload 5, 2) := by decide +kernel
theorem dJ6_getChars_ba4f3_78 : decode cJ6_getChars_ba4f3 78 = .ok (.getstatic 83, 3) := by decide +kernel
theorem dJ6_getChars_ba4f3_81 : decode cJ6_getChars_ba4f3 81 = .ok (.iload_n 0, 1) := by decide +kernel
theorem dJ6_getChars_ba4f3_82 : decode cJ6_getChars_ba4f3 82 = .ok (.ineg, 1) := by decide +kernel
theorem dJ6_getChars_ba4f3_83 : decode cJ6_getChars_ba4f3 83 = .ok (.baload, 1) := by decide +kernel
theorem dJ6_getChars_ba4f3_84 : decode cJ6_getChars_ba4f3 84 = .ok (.bastore, 1) := by decide +kernel
theorem dJ6_getChars_ba4f3_85 : decode cJ6_getChars_ba4f3 85 = .ok (.iload_n 0, 1) := by decide +kernel
theorem dJ6_getChars_ba4f3_86 : decode cJ6_getChars_ba4f3 86 = .ok (.bipush (-9), 2) := by decide +kernel
theorem dJ6_getChars_ba4f3_88 : decode cJ6_getChars_ba4f3 88 = .ok (.if_icmp .ge 16, 3) := by decide +kernel
theorem dJ6_getChars_ba4f3_91 : decode cJ6_getChars_ba4f3 91 = .ok (.aload_n 2, 1) := by decide +kernel
theorem dJ6_getChars_ba4f3_92 : decode cJ6_getChars_ba4f3 92 = .ok (.iinc 5 (-1), 3) := by decide +kernel
theorem dJ6_getChars_ba4f3_95 : decode cJ6_getChars_ba4f3 95 = .ok (.iload 5, 2) := by decide +kernel
theorem dJ6_getChars_ba4f3_97 : decode cJ6_getChars_ba4f3 97 = .ok (.getstatic 87, 3) := by decide +kernel
theorem dJ6_getChars_ba4f3_100 : decode cJ6_getChars_ba4f3 100 = .ok (.iload_n 0, 1) := by decide +kernel
theorem dJ6_getChars_ba4f3_101 : decode cJ6_getChars_ba4f3 101 = .ok (.ineg, 1) := by decide +kernel
theorem dJ6_getChars_ba4f3_102 : decode cJ6_getChars_ba4f3 102 = .ok (.baload, 1) := by decide +kernel
theorem dJ6_getChars_ba4f3_103 : decode cJ6_getChars_ba4f3 103 = .ok (.bastore, 1) := by decide +kernel
theorem dJ6_getChars_ba4f3_104 : decode cJ6_getChars_ba4f3 104 = .ok (.iload 6, 2) := by decide +kernel
theorem dJ6_getChars_ba4f3_106 : decode cJ6_getChars_ba4f3 106 = .ok (.ifCond .eq 12, 3) := by decide +kernel
theorem dJ6_getChars_ba4f3_109 : decode cJ6_getChars_ba4f3 109 = .ok (.aload_n 2, 1) := by decide +kernel
theorem dJ6_getChars_ba4f3_110 : decode cJ6_getChars_ba4f3 110 = .ok (.iinc 5 (-1), 3) := by decide +kernel
theorem dJ6_getChars_ba4f3_113 : decode cJ6_getChars_ba4f3 113 = .ok (.iload 5, 2) := by decide +kernel
theorem dJ6_getChars_ba4f3_115 : decode cJ6_getChars_ba4f3 115 = .ok (.bipush 45, 2) := by decide +kernel
theorem dJ6_getChars_ba4f3_117 : decode cJ6_getChars_ba4f3 117 = .ok (.bastore, 1) := by decide +kernel
theorem dJ6_getChars_ba4f3_118 : decode cJ6_getChars_ba4f3 118 = .ok (.iload 5, 2) := by decide +kernel
theorem dJ6_getChars_ba4f3_120 : decode cJ6_getChars_ba4f3 120 = .ok (.ireturn, 1) := by decide +kernel
theorem dJ6_stringSize_0f7a4_0 : decode cJ6_stringSize_0f7a4 0 = .ok (.iconst 1, 1) := by decide +kernel
theorem dJ6_stringSize_0f7a4_1 : decode cJ6_stringSize_0f7a4 1 = .ok (.istore_n 1, 1) := by decide +kernel
theorem dJ6_stringSize_0f7a4_2 : decode cJ6_stringSize_0f7a4 2 = .ok (.iload_n 0, 1) := by decide +kernel
theorem dJ6_stringSize_0f7a4_3 : decode cJ6_stringSize_0f7a4 3 = .ok (.ifCond .lt 8, 3) := by decide +kernel
theorem dJ6_stringSize_0f7a4_6 : decode cJ6_stringSize_0f7a4 6 = .ok (.iconst 0, 1) := by decide +kernel
theorem dJ6_stringSize_0f7a4_7 : decode cJ6_stringSize_0f7a4 7 = .ok (.istore_n 1, 1) := by decide +kernel
theorem dJ6_stringSize_0f7a4_8 : decode cJ6_stringSize_0f7a4 8 = .ok (.iload_n 0, 1) := by decide +kernel
theorem dJ6_stringSize_0f7a4_9 : decode cJ6_stringSize_0f7a4 9 = .ok (.ineg, 1) := by decide +kernel
theorem dJ6_stringSize_0f7a4_10 : decode cJ6_stringSize_0f7a4 10 = .ok (.istore_n 0, 1) := by decide +kernel
theorem dJ6_stringSize_0f7a4_11 : decode cJ6_stringSize_0f7a4 11 = .ok (.bipush (-10), 2) := by decide +kernel
theorem dJ6_stringSize_0f7a4_13 : decode cJ6_stringSize_0f7a4 13 = .ok (.istore_n 2, 1) := by decide +kernel
theorem dJ6_stringSize_0f7a4_14 : decode cJ6_stringSize_0f7a4 14 = .ok (.iconst 1, 1) := by decide +kernel
theorem dJ6_stringSize_0f7a4_15 : decode cJ6_stringSize_0f7a4 15 = .ok (.istore_n 3, 1) := by decide +kernel
theorem dJ6_stringSize_0f7a4_16 : decode cJ6_stringSize_0f7a4 16 = .ok (.iload_n 3, 1) := by decide +kernel
theorem dJ6_stringSize_0f7a4_17 : decode cJ6_stringSize_0f7a4 17 = .ok (.bipush 10, 2) := by decide +kernel
theorem dJ6_stringSize_0f7a4_19 : decode cJ6_stringSize_0f7a4 19 = .ok (.if_icmp .ge 23, 3) := by decide +kernel
theorem dJ6_stringSize_0f7a4_22 : decode cJ6_stringSize_0f7a4 22 = .ok (.iload_n 0, 1) := by decide +kernel
theorem dJ6_stringSize_0f7a4_23 : decode cJ6_stringSize_0f7a4 23 = .ok (.iload_n 2, 1) := by decide +kernel
theorem dJ6_stringSize_0f7a4_24 : decode cJ6_stringSize_0f7a4 24 = .ok (.if_icmp .le 7, 3) := by decide +kernel
theorem dJ6_stringSize_0f7a4_27 : decode cJ6_stringSize_0f7a4 27 = .ok (.iload_n 3, 1) := by decide +kernel
theorem dJ6_stringSize_0f7a4_28 : decode cJ6_stringSize_0f7a4 28 = .ok (.iload_n 1, 1) := by decide +kernel
theorem dJ6_stringSize_0f7a4_29 : decode cJ6_stringSize_0f7a4 29 = .ok (.iadd, 1) := by decide +kernel
theorem dJ6_stringSize_0f7a4_30 : decode cJ6_stringSize_0f7a4 30 = .ok (.ireturn, 1) := by decide +kernel
theorem dJ6_stringSize_0f7a4_31 : decode cJ6_stringSize_0f7a4 31 = .ok (.bipush 10, 2) := by decide +kernel
theorem dJ6_stringSize_0f7a4_33 : decode cJ6_stringSize_0f7a4 33 = .ok (.iload_n 2, 1) := by decide +kernel
theorem dJ6_stringSize_0f7a4_34 : decode cJ6_stringSize_0f7a4 34 = .ok (.imul, 1) := by decide +kernel
theorem dJ6_stringSize_0f7a4_35 : decode cJ6_stringSize_0f7a4 35 = .ok (.istore_n 2, 1) := by decide +kernel
theorem dJ6_stringSize_0f7a4_36 : decode cJ6_stringSize_0f7a4 36 = .ok (.iinc 3 1, 3) := by decide +kernel
theorem dJ6_stringSize_0f7a4_39 : decode cJ6_stringSize_0f7a4 39 = .ok (.goto (-23), 3) := by decide +kernel
theorem dJ6_stringSize_0f7a4_42 : decode cJ6_stringSize_0f7a4 42 = .ok (.bipush 10, 2) := by decide +kernel
theorem dJ6_stringSize_0f7a4_44 : decode cJ6_stringSize_0f7a4 44 = .ok (.iload_n 1, 1) := by decide +kernel
theorem dJ6_stringSize_0f7a4_45 : decode cJ6_stringSize_0f7a4 45 = .ok (.iadd, 1) := by decide +kernel
theorem dJ6_stringSize_0f7a4_46 : decode cJ6_stringSize_0f7a4 46 = .ok (.ireturn, 1) := by decide +kernel
theorem dJ6_numberOfTrailingZeros_0f7a4_0 : decode cJ6_numberOfTrailingZeros_0f7a4 0 = .ok (.iload_n 0, 1) := by decide +kernel
theorem dJ6_numberOfTrailingZeros_0f7a4_1 : decode cJ6_numberOfTrailingZeros_0f7a4 1 = .ok (.iconst (-1), 1) := by decide +kernel
theorem dJ6_numberOfTrailingZeros_0f7a4_2 : decode cJ6_numberOfTrailingZeros_0f7a4 2 = .ok (.ixor, 1) := by decide +kernel
theorem dJ6_numberOfTrailingZeros_0f7a4_3 : decode cJ6_numberOfTrailingZeros_0f7a4 3 = .ok (.iload_n 0, 1) := by decide +kernel
theorem dJ6_numberOfTrailingZeros_0f7a4_4 : decode cJ6_numberOfTrailingZeros_0f7a4 4 = .ok (.iconst 1, 1) := by decide +kernel
theorem dJ6_numberOfTrailingZeros_0f7a4_5 : decode cJ6_numberOfTrailingZeros_0f7a4 5 = .ok (.isub, 1) := by decide +kernel
theorem dJ6_numberOfTrailingZeros_0f7a4_6 : decode cJ6_numberOfTrailingZeros_0f7a4 6 = .ok (.iand, 1) := by decide +kernel
theorem dJ6_numberOfTrailingZeros_0f7a4_7 : decode cJ6_numberOfTrailingZeros_0f7a4 7 = .ok (.istore_n 0, 1) := by decide +kernel
theorem dJ6_numberOfTrailingZeros_0f7a4_8 : decode cJ6_numberOfTrailingZeros_0f7a4 8 = .ok (.iload_n 0, 1) := by decide +kernel
theorem dJ6_numberOfTrailingZeros_0f7a4_9 : decode cJ6_numberOfTrailingZeros_0f7a4 9 = .ok (.ifCond .gt 8, 3) := by decide +kernel
theorem dJ6_numberOfTrailingZeros_0f7a4_12 : decode cJ6_numberOfTrailingZeros_0f7a4 12 = .ok (.iload_n 0, 1) := by decide +kernel
theorem dJ6_numberOfTrailingZeros_0f7a4_13 : decode cJ6_numberOfTrailingZeros_0f7a4 13 = .ok (.bipush 32, 2) := by decide +kernel
theorem dJ6_numberOfTrailingZeros_0f7a4_15 : decode cJ6_numberOfTrailingZeros_0f7a4 15 = .ok (.iand, 1) := by decide +kernel
theorem dJ6_numberOfTrailingZeros_0f7a4_16 : decode cJ6_numberOfTrailingZeros_0f7a4 16 = .ok (.ireturn, 1) := by decide +kernel
theorem dJ6_numberOfTrailingZeros_0f7a4_17 : decode cJ6_numberOfTrailingZeros_0f7a4 17 = .ok (.iconst 1, 1) := by decide +kernel
theorem dJ6_numberOfTrailingZeros_0f7a4_18 : decode cJ6_numberOfTrailingZeros_0f7a4 18 = .ok (.istore_n 1, 1) := by decide +kernel
theorem dJ6_numberOfTrailingZeros_0f7a4_19 : decode cJ6_numberOfTrailingZeros_0f7a4 19 = .ok (.iload_n 0, 1) := by decide +kernel
theorem dJ6_numberOfTrailingZeros_0f7a4_20 : decode cJ6_numberOfTrailingZeros_0f7a4 20 = .ok (.ldc_w 264, 3) := by decide +kernel
theorem dJ6_numberOfTrailingZeros_0f7a4_23 : decode cJ6_numberOfTrailingZeros_0f7a4 23 = .ok (.if_icmp .le 11, 3) := by decide +kernel
theorem dJ6_numberOfTrailingZeros_0f7a4_26 : decode cJ6_numberOfTrailingZeros_0f7a4 26 = .ok (.iinc 1 16, 3) := by decide +kernel
theorem dJ6_numberOfTrailingZeros_0f7a4_29 : decode cJ6_numberOfTrailingZeros_0f7a4 29 = .ok (.iload_n 0, 1) := by decide +kernel
theorem dJ6_numberOfTrailingZeros_0f7a4_30 : decode cJ6_numberOfTrailingZeros_0f7a4 30 = .ok (.bipush 16, 2) := by decide +kernel
theorem dJ6_numberOfTrailingZeros_0f7a4_32 : decode cJ6_numberOfTrailingZeros_0f7a4 32 = .ok (.iushr, 1) := by decide +kernel
theorem dJ6_numberOfTrailingZeros_0f7a4_33 : decode cJ6_numberOfTrailingZeros_0f7a4 33 = .ok (.istore_n 0, 1) := by decide +kernel
theorem dJ6_numberOfTrailingZeros_0f7a4_34 : decode cJ6_numberOfTrailingZeros_0f7a4 34 = .ok (.iload_n 0, 1) := by decide +kernel
theorem dJ6_numberOfTrailingZeros_0f7a4_35 : decode cJ6_numberOfTrailingZeros_0f7a4 35 = .ok (.sipush 256, 3) := by decide +kernel
theorem dJ6_numberOfTrailingZeros_0f7a4_38 : decode cJ6_numberOfTrailingZeros_0f7a4 38 = .ok (.if_icmp .le 11, 3) := by decide +kernel
theorem dJ6_numberOfTrailingZeros_0f7a4_41 : decode cJ6_numberOfTrailingZeros_0f7a4 41 = .ok (.iinc 1 8, 3) := by decide +kernel
theorem dJ6_numberOfTrailingZeros_0f7a4_44 : decode cJ6_numberOfTrailingZeros_0f7a4 44 = .ok (.iload_n 0, 1) := by decide +kernel
theorem dJ6_numberOfTrailingZeros_0f7a4_45 : decode cJ6_numberOfTrailingZeros_0f7a4 45 = .ok (.bipush 8, 2) := by decide +kernel
theorem dJ6_numberOfTrailingZeros_0f7a4_47 : decode cJ6_numberOfTrailingZeros_0f7a4 47 = .ok (.iushr, 1) := by decide +kernel
theorem dJ6_numberOfTrailingZeros_0f7a4_48 : decode cJ6_numberOfTrailingZeros_0f7a4 48 = .ok (.istore_n 0, 1) := by decide +kernel
theorem dJ6_numberOfTrailingZeros_0f7a4_49 : decode cJ6_numberOfTrailingZeros_0f7a4 49 = .ok (.iload_n 0, 1) := by decide +kernel
theorem dJ6_numberOfTrailingZeros_0f7a4_50 : decode cJ6_numberOfTrailingZeros_0f7a4 50 = .ok (.bipush 16, 2) := by decide +kernel
theorem dJ6_numberOfTrailingZeros_0f7a4_52 : decode cJ6_numberOfTrailingZeros_0f7a4 52 = .ok (.if_icmp .le 10, 3) := by decide +kernel
theorem dJ6_numberOfTrailingZeros_0f7a4_55 : decode cJ6_numberOfTrailingZeros_0f7a4 55 = .ok (.iinc 1 4, 3) := by decide +kernel
theorem dJ6_numberOfTrailingZeros_0f7a4_58 : decode cJ6_numberOfTrailingZeros_0f7a4 58 = .ok (.iload_n 0, 1) := by decide +kernel
theorem dJ6_numberOfTrailingZeros_0f7a4_59 : decode cJ6_numberOfTrailingZeros_0f7a4 59 = .ok (.iconst 4, 1) := by decide +kernel
theorem dJ6_numberOfTrailingZeros_0f7a4_60 : decode cJ6_numberOfTrailingZeros_0f7a4 60 = .ok (.iushr, 1) := by decide +kernel
theorem dJ6_numberOfTrailingZeros_0f7a4_61 : decode cJ6_numberOfTrailingZeros_0f7a4 61 = .ok (.istore_n 0, 1) := by decide +kernel
theorem dJ6_numberOfTrailingZeros_0f7a4_62 : decode cJ6_numberOfTrailingZeros_0f7a4 62 = .ok (.iload_n 0, 1) := by decide +kernel
theorem dJ6_numberOfTrailingZeros_0f7a4_63 : decode cJ6_numberOfTrailingZeros_0f7a4 63 = .ok (.iconst 4, 1) := by decide +kernel
theorem dJ6_numberOfTrailingZeros_0f7a4_64 : decode cJ6_numberOfTrailingZeros_0f7a4 64 = .ok (.if_icmp .le 10, 3) := by decide +kernel
theorem dJ6_numberOfTrailingZeros_0f7a4_67 : decode cJ6_numberOfTrailingZeros_0f7a4 67 = .ok (.iinc 1 2, 3) := by decide +kernel
theorem dJ6_numberOfTrailingZeros_0f7a4_70 : decode cJ6_numberOfTrailingZeros_0f7a4 70 = .ok (.iload_n 0, 1) := by decide +kernel
theorem dJ6_numberOfTrailingZeros_0f7a4_71 : decode cJ6_numberOfTrailingZeros_0f7a4 71 = .ok (.iconst 2, 1) := by decide +kernel
theorem dJ6_numberOfTrailingZeros_0f7a4_72 : decode cJ6_numberOfTrailingZeros_0f7a4 72 = .ok (.iushr, 1) := by decide +kernel
theorem dJ6_numberOfTrailingZeros_0f7a4_73 : decode cJ6_numberOfTrailingZeros_0f7a4 73 = .ok (.istore_n 0, 1) := by decide +kernel
theorem dJ6_numberOfTrailingZeros_0f7a4_74 : decode cJ6_numberOfTrailingZeros_0f7a4 74 = .ok (.iload_n 1, 1) := by decide +kernel
theorem dJ6_numberOfTrailingZeros_0f7a4_75 : decode cJ6_numberOfTrailingZeros_0f7a4 75 = .ok (.iload_n 0, 1) := by decide +kernel
theorem dJ6_numberOfTrailingZeros_0f7a4_76 : decode cJ6_numberOfTrailingZeros_0f7a4 76 = .ok (.iconst 1, 1) := by decide +kernel
theorem dJ6_numberOfTrailingZeros_0f7a4_77 : decode cJ6_numberOfTrailingZeros_0f7a4 77 = .ok (.iushr, 1) := by decide +kernel
theorem dJ6_numberOfTrailingZeros_0f7a4_78 : decode cJ6_numberOfTrailingZeros_0f7a4 78 = .ok (.iadd, 1) := by decide +kernel
theorem dJ6_numberOfTrailingZeros_0f7a4_79 : decode cJ6_numberOfTrailingZeros_0f7a4 79 = .ok (.ireturn, 1) := by decide +kernel
theorem dJ6_bitCount_0f7a4_0 : decode cJ6_bitCount_0f7a4 0 = .ok (.iload_n 0, 1) := by decide +kernel
theorem dJ6_bitCount_0f7a4_1 : decode cJ6_bitCount_0f7a4 1 = .ok (.iload_n 0, 1) := by decide +kernel
theorem dJ6_bitCount_0f7a4_2 : decode cJ6_bitCount_0f7a4 2 = .ok (.iconst 1, 1) := by decide +kernel
theorem dJ6_bitCount_0f7a4_3 : decode cJ6_bitCount_0f7a4 3 = .ok (.iushr, 1) := by decide +kernel
theorem dJ6_bitCount_0f7a4_4 : decode cJ6_bitCount_0f7a4 4 = .ok (.ldc_w 265, 3) := by decide +kernel
theorem dJ6_bitCount_0f7a4_7 : decode cJ6_bitCount_0f7a4 7 = .ok (.iand, 1) := by decide +kernel
theorem dJ6_bitCount_0f7a4_8 : decode cJ6_bitCount_0f7a4 8 = .ok (.isub, 1) := by decide +kernel
theorem dJ6_bitCount_0f7a4_9 : decode cJ6_bitCount_0f7a4 9 = .ok (.istore_n 0, 1) := by decide +kernel
theorem dJ6_bitCount_0f7a4_10 : decode cJ6_bitCount_0f7a4 10 = .ok (.iload_n 0, 1) := by decide +kernel
theorem dJ6_bitCount_0f7a4_11 : decode cJ6_bitCount_0f7a4 11 = .ok (.ldc_w 266, 3) := by decide +kernel
theorem dJ6_bitCount_0f7a4_14 : decode cJ6_bitCount_0f7a4 14 = .ok (.iand, 1) := by decide +kernel
theorem dJ6_bitCount_0f7a4_15 : decode cJ6_bitCount_0f7a4 15 = .ok (.iload_n 0, 1) := by decide +kernel
theorem dJ6_bitCount_0f7a4_16 : decode cJ6_bitCount_0f7a4 16 = .ok (.iconst 2, 1) := by decide +kernel
theorem dJ6_bitCount_0f7a4_17 : decode cJ6_bitCount_0f7a4 17 = .ok (.iushr, 1) := by decide +kernel
theorem dJ6_bitCount_0f7a4_18 : decode cJ6_bitCount_0f7a4 18 = .ok (.ldc_w 266, 3) := by decide +kernel
theorem dJ6_bitCount_0f7a4_21 : decode cJ6_bitCount_0f7a4 21 = .ok (.iand, 1) := by decide +kernel
theorem dJ6_bitCount_0f7a4_22 : decode cJ6_bitCount_0f7a4 22 = .ok (.iadd, 1) := by decide +kernel
theorem dJ6_bitCount_0f7a4_23 : decode cJ6_bitCount_0f7a4 23 = .ok (.istore_n 0, 1) := by decide +kernel
theorem dJ6_bitCount_0f7a4_24 : decode cJ6_bitCount_0f7a4 24 = .ok (.iload_n 0, 1) := by decide +kernel
theorem dJ6_bitCount_0f7a4_25 : decode cJ6_bitCount_0f7a4 25 = .ok (.iload_n 0, 1) := by decide +kernel
theorem dJ6_bitCount_0f7a4_26 : decode cJ6_bitCount_0f7a4 26 = .ok (.iconst 4, 1) := by decide +kernel
theorem dJ6_bitCount_0f7a4_27 : decode cJ6_bitCount_0f7a4 27 = .ok (.iushr, 1) := by decide +kernel
theorem dJ6_bitCount_0f7a4_28 : decode cJ6_bitCount_0f7a4 28 = .ok (.iadd, 1) := by decide +kernel
theorem dJ6_bitCount_0f7a4_29 : decode cJ6_bitCount_0f7a4 29 = .ok (.ldc_w 267, 3) := by decide +kernel
theorem dJ6_bitCount_0f7a4_32 : decode cJ6_bitCount_0f7a4 32 = .ok (.iand, 1) := by decide +kernel
theorem dJ6_bitCount_0f7a4_33 : decode cJ6_bitCount_0f7a4 33 = .ok (.istore_n 0, 1) := by decide +kernel
theorem dJ6_bitCount_0f7a4_34 : decode cJ6_bitCount_0f7a4 34 = .ok (.iload_n 0, 1) := by decide +kernel
theorem dJ6_bitCount_0f7a4_35 : decode cJ6_bitCount_0f7a4 35 = .ok (.iload_n 0, 1) := by decide +kernel
theorem dJ6_bitCount_0f7a4_36 : decode cJ6_bitCount_0f7a4 36 = .ok (.bipush 8, 2) := by decide +kernel
theorem dJ6_bitCount_0f7a4_38 : decode cJ6_bitCount_0f7a4 38 = .ok (.iushr, 1) := by decide +kernel
theorem dJ6_bitCount_0f7a4_39 : decode cJ6_bitCount_0f7a4 39 = .ok (.iadd, 1) := by decide +kernel
theorem dJ6_bitCount_0f7a4_40 : decode cJ6_bitCount_0f7a4 40 = .ok (.istore_n 0, 1) := by decide +kernel
theorem dJ6_bitCount_0f7a4_41 : decode cJ6_bitCount_0f7a4 41 = .ok (.iload_n 0, 1) := by decide +kernel
theorem dJ6_bitCount_0f7a4_42 : decode cJ6_bitCount_0f7a4 42 = .ok (.iload_n 0, 1) := by decide +kernel
theorem dJ6_bitCount_0f7a4_43 : decode cJ6_bitCount_0f7a4 43 = .ok (.bipush 16, 2) := by decide +kernel
theorem dJ6_bitCount_0f7a4_45 : decode cJ6_bitCount_0f7a4 45 = .ok (.iushr, 1) := by decide +kernel
theorem dJ6_bitCount_0f7a4_46 : decode cJ6_bitCount_0f7a4 46 = .ok (.iadd, 1) := by decide +kernel
theorem dJ6_bitCount_0f7a4_47 : decode cJ6_bitCount_0f7a4 47 = .ok (.istore_n 0, 1) := by decide +kernel
theorem dJ6_bitCount_0f7a4_48 : decode cJ6_bitCount_0f7a4 48 = .ok (.iload_n 0, 1) := by decide +kernel
theorem dJ6_bitCount_0f7a4_49 : decode cJ6_bitCount_0f7a4 49 = .ok (.bipush 63, 2) := by decide +kernel
theorem dJ6_bitCount_0f7a4_51 : decode cJ6_bitCount_0f7a4 51 = .ok (.iand, 1) := by decide +kernel
theorem dJ6_bitCount_0f7a4_52 : decode cJ6_bitCount_0f7a4 52 = .ok (.ireturn, 1) := by decide +kernel
theorem dJ9_floorMod_7cf53_0 : decode cJ9_floorMod_7cf53 0 = .ok (.iload_n 0, 1) := by decide +kernel
theorem dJ9_floorMod_7cf53_1 : decode cJ9_floorMod_7cf53 1 = .ok (.iload_n 1, 1) := by decide +kernel
theorem dJ9_floorMod_7cf53_2 : decode cJ9_floorMod_7cf53 2 = .ok (.irem, 1) := by decide +kernel
theorem dJ9_floorMod_7cf53_3 : decode cJ9_floorMod_7cf53 3 = .ok (.istore_n 2, 1) := by decide +kernel
theorem dJ9_floorMod_7cf53_4 : decode cJ9_floorMod_7cf53 4 = .ok (.iload_n 0, 1) := by decide +kernel
theorem dJ9_floorMod_7cf53_5 : decode cJ9_floorMod_7cf53 5 = .ok (.iload_n 1, 1) := by decide +kernel
theorem dJ9_floorMod_7cf53_6 : decode cJ9_floorMod_7cf53 6 = .ok (.ixor, 1) := by decide +kernel
theorem dJ9_floorMod_7cf53_7 : decode cJ9_floorMod_7cf53 7 = .ok (.ifCond .ge 11, 3) := by decide +kernel
theorem dJ9_floorMod_7cf53_10 : decode cJ9_floorMod_7cf53 10 = .ok (.iload_n 2, 1) := by decide +kernel
theorem dJ9_floorMod_7cf53_11 : decode cJ9_floorMod_7cf53 11 = .ok (.ifCond .eq 7, 3) := by decide +kernel
theorem dJ9_floorMod_7cf53_14 : decode cJ9_floorMod_7cf53 14 = .ok (.iload_n 2, 1) := by decide +kernel
theorem dJ9_floorMod_7cf53_15 : decode cJ9_floorMod_7cf53 15 = .ok (.iload_n 1, 1) := by decide +kernel
theorem dJ9_floorMod_7cf53_16 : decode cJ9_floorMod_7cf53 16 = .ok (.iadd, 1) := by decide +kernel
theorem dJ9_floorMod_7cf53_17 : decode cJ9_floorMod_7cf53 17 = .ok (.ireturn, 1) := by decide +kernel
theorem dJ9_floorMod_7cf53_18 : decode cJ9_floorMod_7cf53 18 = .ok (.iload_n 2, 1) := by decide +kernel
theorem dJ9_floorMod_7cf53_19 : decode cJ9_floorMod_7cf53 19 = .ok (.ireturn, 1) := by decide +kernel
theorem dJ9_abs_0f7a4_0 : decode cJ9_abs_0f7a4 0 = .ok (.iload_n 0, 1) := by decide +kernel
theorem dJ9_abs_0f7a4_1 : decode cJ9_abs_0f7a4 1 = .ok (.ifCond .ge 8, 3) := by decide +kernel
theorem dJ9_abs_0f7a4_4 : decode cJ9_abs_0f7a4 4 = .ok (.iload_n 0, 1) := by decide +kernel
theorem dJ9_abs_0f7a4_5 : decode cJ9_abs_0f7a4 5 = .ok (.ineg, 1) := by decide +kernel
theorem dJ9_abs_0f7a4_6 : decode cJ9_abs_0f7a4 6 = .ok (.goto 4, 3) := by decide +kernel
theorem dJ9_abs_0f7a4_9 : decode cJ9_abs_0f7a4 9 = .ok (.iload_n 0, 1) := by decide +kernel
theorem dJ9_abs_0f7a4_10 : decode cJ9_abs_0f7a4 10 = .ok (.ireturn, 1) := by decide +kernel
theorem dJ9_max_7cf53_0 : decode cJ9_max_7cf53 0 = .ok (.iload_n 0, 1) := by decide +kernel
theorem dJ9_max_7cf53_1 : decode cJ9_max_7cf53 1 = .ok (.iload_n 1, 1) := by decide +kernel
theorem dJ9_max_7cf53_2 : decode cJ9_max_7cf53 2 = .ok (.if_icmp .lt 7, 3) := by decide +kernel
theorem dJ9_max_7cf53_5 : decode cJ9_max_7cf53 5 = .ok (.iload_n 0, 1) := by decide +kernel
theorem dJ9_max_7cf53_6 : decode cJ9_max_7cf53 6 = .ok (.goto 4, 3) := by decide +kernel
theorem dJ9_max_7cf53_9 : decode cJ9_max_7cf53 9 = .ok (.iload_n 1, 1) := by decide +kernel
theorem dJ9_max_7cf53_10 : decode cJ9_max_7cf53 10 = .ok (.ireturn, 1) := by decide +kernel
theorem dJ9_min_7cf53_0 : decode cJ9_min_7cf53 0 = .ok (.iload_n 0, 1) := by decide +kernel
theorem dJ9_min_7cf53_1 : decode cJ9_min_7cf53 1 = .ok (.iload_n 1, 1) := by decide +kernel
theorem dJ9_min_7cf53_2 : decode cJ9_min_7cf53 2 = .ok (.if_icmp .gt 7, 3) := by decide +kernel
theorem dJ9_min_7cf53_5 : decode cJ9_min_7cf53 5 = .ok (.iload_n 0, 1) := by decide +kernel
theorem dJ9_min_7cf53_6 : decode cJ9_min_7cf53 6 = .ok (.goto 4, 3) := by decide +kernel
theorem dJ9_min_7cf53_9 : decode cJ9_min_7cf53 9 = .ok (.iload_n 1, 1) := by decide +kernel
theorem dJ9_min_7cf53_10 : decode cJ9_min_7cf53 10 = .ok (.ireturn, 1) := by decide +kernel
theorem dJ0_init_81219_0 : decode cJ0_init_81219 0 = .ok (.aload_n 0, 1) := by decide +kernel
theorem dJ0_init_81219_1 : decode cJ0_init_81219 1 = .ok (.aload_n 1, 1) := by decide +kernel
theorem dJ0_init_81219_2 : decode cJ0_init_81219 2 = .ok (.aconst_null, 1) := by decide +kernel
theorem dJ0_init_81219_3 : decode cJ0_init_81219 3 = .ok (.invokespecial 489, 3) := by decide +kernel
theorem dJ0_init_81219_6 : decode cJ0_init_81219 6 = .ok (.return_, 1) := by decide +kernel
theorem dJ0_length_8abf5_0 : decode cJ0_length_8abf5 0 = .ok (.aload_n 0, 1) := by decide +kernel
theorem dJ0_length_8abf5_1 : decode cJ0_length_8abf5 1 = .ok (.getfield 9, 3) := by decide +kernel
theorem dJ0_length_8abf5_4 : decode cJ0_length_8abf5 4 = .ok (.arraylength, 1) := by decide +kernel
theorem dJ0_length_8abf5_5 : decode cJ0_length_8abf5 5 = .ok (.aload_n 0, 1) := by decide +kernel
theorem dJ0_length_8abf5_6 : decode cJ0_length_8abf5 6 = .ok (.invokevirtual 335, 3) := by decide +kernel
theorem dJ0_length_8abf5_9 : decode cJ0_length_8abf5 9 = .ok (.ishr, 1) := by decide +kernel
theorem dJ0_length_8abf5_10 : decode cJ0_length_8abf5 10 = .ok (.ireturn, 1) := by decide +kernel
theorem dJ0_getBytes_840e7_0 : decode cJ0_getBytes_840e7 0 = .ok (.aload_n 0, 1) := by decide +kernel
theorem dJ0_getBytes_840e7_1 : decode cJ0_getBytes_840e7 1 = .ok (.invokevirtual 335, 3) := by decide +kernel
theorem dJ0_getBytes_840e7_4 : decode cJ0_getBytes_840e7 4 = .ok (.iload_n 3, 1) := by decide +kernel
theorem dJ0_getBytes_840e7_5 : decode cJ0_getBytes_840e7 5 = .ok (.if_icmp .ne 23, 3) := by decide +kernel
theorem dJ0_getBytes_840e7_8 : decode cJ0_getBytes_840e7 8 = .ok (.aload_n 0, 1) := by decide +kernel
theorem dJ0_getBytes_840e7_9 : decode cJ0_getBytes_840e7 9 = .ok (.getfield 9, 3) := by decide +kernel
theorem dJ0_getBytes_840e7_12 : decode cJ0_getBytes_840e7 12 = .ok (.iconst 0, 1) := by decide +kernel
theorem dJ0_getBytes_840e7_13 : decode cJ0_getBytes_840e7 13 = .ok (.aload_n 1, 1) := by decide +kernel
theorem dJ0_getBytes_840e7_14 : decode cJ0_getBytes_840e7 14 = .ok (.iload_n 2, 1) := by decide +kernel
theorem dJ0_getBytes_840e7_15 : decode cJ0_getBytes_840e7 15 = .ok (.iload_n 3, 1) := by decide +kernel
theorem dJ0_getBytes_840e7_16 : decode cJ0_getBytes_840e7 16 = .ok (.ishl, 1) := by decide +kernel
theorem dJ0_getBytes_840e7_17 : decode cJ0_getBytes_840e7 17 = .ok (.aload_n 0, 1) := by decide +kernel
theorem dJ0_getBytes_840e7_18 : decode cJ0_getBytes_840e7 18 = .ok (.getfield 9, 3) := by decide +kernel
theorem dJ0_getBytes_840e7_21 : decode cJ0_getBytes_840e7 21 = .ok (.arraylength, 1) := by decide +kernel
theorem dJ0_getBytes_840e7_22 : decode cJ0_getBytes_840e7 22 = .ok (.invokestatic 212, 3) := by decide +kernel
