theorem dX8_orderOf_7 : decode cX8_orderOf 7 = .ok (.aload_n 0, 1) := by decide +kernel
theorem dX8_orderOf_8 : decode cX8_orderOf 8 = .ok (.getfield 7, 3) := by decide +kernel
theorem dX8_orderOf_11 : decode cX8_orderOf 11 = .ok (.if_icmp .ge 31, 3) := by decide +kernel
theorem dX8_orderOf_14 : decode cX8_orderOf 14 = .ok (.aload_n 0, 1) := by decide +kernel
theorem dX8_orderOf_15 : decode cX8_orderOf 15 = .ok (.aload_n 1, 1) := by decide +kernel
theorem dX8_orderOf_16 : decode cX8_orderOf 16 = .ok (.iload_n 2, 1) := by decide +kernel
theorem dX8_orderOf_17 : decode cX8_orderOf 17 = .ok (.iload 4, 2) := by decide +kernel
theorem dX8_orderOf_19 : decode cX8_orderOf 19 = .ok (.invokevirtual 61, 3) := by decide +kernel
theorem dX8_orderOf_22 : decode cX8_orderOf 22 = .ok (.istore 5, 2) := by decide +kernel
theorem dX8_orderOf_24 : decode cX8_orderOf 24 = .ok (.iload_n 3, 1) := by decide +kernel
theorem dX8_orderOf_25 : decode cX8_orderOf 25 = .ok (.iload_n 3, 1) := by decide +kernel
theorem dX8_orderOf_26 : decode cX8_orderOf 26 = .ok (.iload 5, 2) := by decide +kernel
theorem dX8_orderOf_28 : decode cX8_orderOf 28 = .ok (.invokestatic 57, 3) := by decide +kernel
theorem dX8_orderOf_31 : decode cX8_orderOf 31 = .ok (.idiv, 1) := by decide +kernel
theorem dX8_orderOf_32 : decode cX8_orderOf 32 = .ok (.iload 5, 2) := by decide +kernel
theorem dX8_orderOf_34 : decode cX8_orderOf 34 = .ok (.imul, 1) := by decide +kernel
theorem dX8_orderOf_35 : decode cX8_orderOf 35 = .ok (.istore_n 3, 1) := by decide +kernel
theorem dX8_orderOf_36 : decode cX8_orderOf 36 = .ok (.iinc 4 1, 3) := by decide +kernel
theorem dX8_orderOf_39 : decode cX8_orderOf 39 = .ok (.goto (-34), 3) := by decide +kernel
theorem dX8_orderOf_42 : decode cX8_orderOf 42 = .ok (.iload_n 3, 1) := by decide +kernel
theorem dX8_orderOf_43 : decode cX8_orderOf 43 = .ok (.ireturn, 1) := by decide +kernel
theorem dX8_longOnes_0 : decode cX8_longOnes 0 = .ok (.iconst 0, 1) := by decide +kernel
theorem dX8_longOnes_1 : decode cX8_longOnes 1 = .ok (.istore_n 3, 1) := by decide +kernel
theorem dX8_longOnes_2 : decode cX8_longOnes 2 = .ok (.iconst 0, 1) := by decide +kernel
theorem dX8_longOnes_3 : decode cX8_longOnes 3 = .ok (.istore 4, 2) := by decide +kernel
theorem dX8_longOnes_5 : decode cX8_longOnes 5 = .ok (.iload 4, 2) := by decide +kernel
theorem dX8_longOnes_7 : decode cX8_longOnes 7 = .ok (.aload_n 0, 1) := by decide +kernel
theorem dX8_longOnes_8 : decode cX8_longOnes 8 = .ok (.getfield 7, 3) := by decide +kernel
theorem dX8_longOnes_11 : decode cX8_longOnes 11 = .ok (.if_icmp .ge 35, 3) := by decide +kernel
theorem dX8_longOnes_14 : decode cX8_longOnes 14 = .ok (.iload_n 3, 1) := by decide +kernel
theorem dX8_longOnes_15 : decode cX8_longOnes 15 = .ok (.aload_n 0, 1) := by decide +kernel
theorem dX8_longOnes_16 : decode cX8_longOnes 16 = .ok (.aload_n 0, 1) := by decide +kernel
theorem dX8_longOnes_17 : decode cX8_longOnes 17 = .ok (.getfield 13, 3) := by decide +kernel
theorem dX8_longOnes_20 : decode cX8_longOnes 20 = .ok (.iload_n 1, 1) := by decide +kernel
theorem dX8_longOnes_21 : decode cX8_longOnes 21 = .ok (.bipush 7, 2) := by decide +kernel
theorem dX8_longOnes_23 : decode cX8_longOnes 23 = .ok (.imul, 1) := by decide +kernel
theorem dX8_longOnes_24 : decode cX8_longOnes 24 = .ok (.iload 4, 2) := by decide +kernel
theorem dX8_longOnes_26 : decode cX8_longOnes 26 = .ok (.invokevirtual 61, 3) := by decide +kernel
theorem dX8_longOnes_29 : decode cX8_longOnes 29 = .ok (.iload_n 2, 1) := by decide +kernel
theorem dX8_longOnes_30 : decode cX8_longOnes 30 = .ok (.if_icmp .ne 7, 3) := by decide +kernel
theorem dX8_longOnes_33 : decode cX8_longOnes 33 = .ok (.iconst 1, 1) := by decide +kernel
theorem dX8_longOnes_34 : decode cX8_longOnes 34 = .ok (.goto 4, 3) := by decide +kernel
theorem dX8_longOnes_37 : decode cX8_longOnes 37 = .ok (.iconst 0, 1) := by decide +kernel
theorem dX8_longOnes_38 : decode cX8_longOnes 38 = .ok (.iadd, 1) := by decide +kernel
theorem dX8_longOnes_39 : decode cX8_longOnes 39 = .ok (.istore_n 3, 1) := by decide +kernel
theorem dX8_longOnes_40 : decode cX8_longOnes 40 = .ok (.iinc 4 1, 3) := by decide +kernel
theorem dX8_longOnes_43 : decode cX8_longOnes 43 = .ok (.goto (-38), 3) := by decide +kernel
theorem dX8_longOnes_46 : decode cX8_longOnes 46 = .ok (.iload_n 3, 1) := by decide +kernel
theorem dX8_longOnes_47 : decode cX8_longOnes 47 = .ok (.iload_n 2, 1) := by decide +kernel
theorem dX8_longOnes_48 : decode cX8_longOnes 48 = .ok (.idiv, 1) := by decide +kernel
theorem dX8_longOnes_49 : decode cX8_longOnes 49 = .ok (.ireturn, 1) := by decide +kernel
theorem dX8_isBit_0 : decode cX8_isBit 0 = .ok (.aload_n 0, 1) := by decide +kernel
theorem dX8_isBit_1 : decode cX8_isBit 1 = .ok (.getfield 23, 3) := by decide +kernel
theorem dX8_isBit_4 : decode cX8_isBit 4 = .ok (.iload_n 1, 1) := by decide +kernel
theorem dX8_isBit_5 : decode cX8_isBit 5 = .ok (.iconst 5, 1) := by decide +kernel
theorem dX8_isBit_6 : decode cX8_isBit 6 = .ok (.ishr, 1) := by decide +kernel
theorem dX8_isBit_7 : decode cX8_isBit 7 = .ok (.iaload, 1) := by decide +kernel
theorem dX8_isBit_8 : decode cX8_isBit 8 = .ok (.iload_n 1, 1) := by decide +kernel
theorem dX8_isBit_9 : decode cX8_isBit 9 = .ok (.bipush 31, 2) := by decide +kernel
theorem dX8_isBit_11 : decode cX8_isBit 11 = .ok (.iand, 1) := by decide +kernel
theorem dX8_isBit_12 : decode cX8_isBit 12 = .ok (.ishr, 1) := by decide +kernel
theorem dX8_isBit_13 : decode cX8_isBit 13 = .ok (.iconst 1, 1) := by decide +kernel
theorem dX8_isBit_14 : decode cX8_isBit 14 = .ok (.iand, 1) := by decide +kernel
theorem dX8_isBit_15 : decode cX8_isBit 15 = .ok (.iconst 1, 1) := by decide +kernel
theorem dX8_isBit_16 : decode cX8_isBit 16 = .ok (.if_icmp .ne 7, 3) := by decide +kernel
theorem dX8_isBit_19 : decode cX8_isBit 19 = .ok (.iconst 1, 1) := by decide +kernel
theorem dX8_isBit_20 : decode cX8_isBit 20 = .ok (.goto 4, 3) := by decide +kernel
theorem dX8_isBit_23 : decode cX8_isBit 23 = .ok (.iconst 0, 1) := by decide +kernel
theorem dX8_isBit_24 : decode cX8_isBit 24 = .ok (.ireturn, 1) := by decide +kernel
theorem dX8_close_0 : decode cX8_close 0 = .ok (.sipush 158, 3) := by decide +kernel
theorem dX8_close_3 : decode cX8_close 3 = .ok (.newarray .int, 2) := by decide +kernel
theorem dX8_close_5 : decode cX8_close 5 = .ok (.astore_n 2, 1) := by decide +kernel
theorem dX8_close_6 : decode cX8_close 6 = .ok (.aload_n 0, 1) := by decide +kernel
theorem dX8_close_7 : decode cX8_close 7 = .ok (.sipush 158, 3) := by decide +kernel
theorem dX8_close_10 : decode cX8_close 10 = .ok (.newarray .int, 2) := by decide +kernel
theorem dX8_close_12 : decode cX8_close 12 = .ok (.putfield 23, 3) := by decide +kernel
theorem dX8_close_15 : decode cX8_close 15 = .ok (.aload_n 0, 1) := by decide +kernel
theorem dX8_close_16 : decode cX8_close 16 = .ok (.getfield 23, 3) := by decide +kernel
theorem dX8_close_19 : decode cX8_close 19 = .ok (.iconst 0, 1) := by decide +kernel
theorem dX8_close_20 : decode cX8_close 20 = .ok (.iconst 1, 1) := by decide +kernel
theorem dX8_close_21 : decode cX8_close 21 = .ok (.iastore, 1) := by decide +kernel
theorem dX8_close_22 : decode cX8_close 22 = .ok (.aload_n 0, 1) := by decide +kernel
theorem dX8_close_23 : decode cX8_close 23 = .ok (.invokevirtual 65, 3) := by decide +kernel
theorem dX8_close_26 : decode cX8_close 26 = .ok (.bipush 31, 2) := by decide +kernel
theorem dX8_close_28 : decode cX8_close 28 = .ok (.iadd, 1) := by decide +kernel
theorem dX8_close_29 : decode cX8_close 29 = .ok (.iconst 5, 1) := by decide +kernel
theorem dX8_close_30 : decode cX8_close 30 = .ok (.ishr, 1) := by decide +kernel
theorem dX8_close_31 : decode cX8_close 31 = .ok (.istore_n 3, 1) := by decide +kernel
theorem dX8_close_32 : decode cX8_close 32 = .ok (.iconst 1, 1) := by decide +kernel
theorem dX8_close_33 : decode cX8_close 33 = .ok (.istore 4, 2) := by decide +kernel
theorem dX8_close_35 : decode cX8_close 35 = .ok (.iload 4, 2) := by decide +kernel
theorem dX8_close_37 : decode cX8_close 37 = .ok (.ifCond .eq 90, 3) := by decide +kernel
theorem dX8_close_40 : decode cX8_close 40 = .ok (.iconst 0, 1) := by decide +kernel
theorem dX8_close_41 : decode cX8_close 41 = .ok (.istore 4, 2) := by decide +kernel
theorem dX8_close_43 : decode cX8_close 43 = .ok (.iconst 0, 1) := by decide +kernel
theorem dX8_close_44 : decode cX8_close 44 = .ok (.istore 5, 2) := by decide +kernel
theorem dX8_close_46 : decode cX8_close 46 = .ok (.iload 5, 2) := by decide +kernel
theorem dX8_close_48 : decode cX8_close 48 = .ok (.iload_n 3, 1) := by decide +kernel
theorem dX8_close_49 : decode cX8_close 49 = .ok (.if_icmp .ge 75, 3) := by decide +kernel
theorem dX8_close_52 : decode cX8_close 52 = .ok (.aload_n 0, 1) := by decide +kernel
theorem dX8_close_53 : decode cX8_close 53 = .ok (.getfield 23, 3) := by decide +kernel
theorem dX8_close_56 : decode cX8_close 56 = .ok (.iload 5, 2) := by decide +kernel
theorem dX8_close_58 : decode cX8_close 58 = .ok (.iaload, 1) := by decide +kernel
theorem dX8_close_59 : decode cX8_close 59 = .ok (.aload_n 2, 1) := by decide +kernel
theorem dX8_close_60 : decode cX8_close 60 = .ok (.iload 5, 2) := by decide +kernel
theorem dX8_close_62 : decode cX8_close 62 = .ok (.iaload, 1) := by decide +kernel
theorem dX8_close_63 : decode cX8_close 63 = .ok (.iconst (-1), 1) := by decide +kernel
theorem dX8_close_64 : decode cX8_close 64 = .ok (.ixor, 1) := by decide +kernel
theorem dX8_close_65 : decode cX8_close 65 = .ok (.iand, 1) := by decide +kernel
theorem dX8_close_66 : decode cX8_close 66 = .ok (.ifCond .eq 52, 3) := by decide +kernel
theorem dX8_close_69 : decode cX8_close 69 = .ok (.aload_n 0, 1) := by decide +kernel
theorem dX8_close_70 : decode cX8_close 70 = .ok (.getfield 23, 3) := by decide +kernel
theorem dX8_close_73 : decode cX8_close 73 = .ok (.iload 5, 2) := by decide +kernel
theorem dX8_close_75 : decode cX8_close 75 = .ok (.iaload, 1) := by decide +kernel
theorem dX8_close_76 : decode cX8_close 76 = .ok (.aload_n 2, 1) := by decide +kernel
theorem dX8_close_77 : decode cX8_close 77 = .ok (.iload 5, 2) := by decide +kernel
theorem dX8_close_79 : decode cX8_close 79 = .ok (.iaload, 1) := by decide +kernel
theorem dX8_close_80 : decode cX8_close 80 = .ok (.iconst (-1), 1) := by decide +kernel
theorem dX8_close_81 : decode cX8_close 81 = .ok (.ixor, 1) := by decide +kernel
theorem dX8_close_82 : decode cX8_close 82 = .ok (.iand, 1) := by decide +kernel
theorem dX8_close_83 : decode cX8_close 83 = .ok (.invokestatic 69, 3) := by decide +kernel
theorem dX8_close_86 : decode cX8_close 86 = .ok (.istore 6, 2) := by decide +kernel
theorem dX8_close_88 : decode cX8_close 88 = .ok (.aload_n 2, 1) := by decide +kernel
theorem dX8_close_89 : decode cX8_close 89 = .ok (.iload 5, 2) := by decide +kernel
theorem dX8_close_91 : decode cX8_close 91 = .ok (.dup2, 1) := by decide +kernel
theorem dX8_close_92 : decode cX8_close 92 = .ok (.iaload, 1) := by decide +kernel
theorem dX8_close_93 : decode cX8_close 93 = .ok (.iconst 1, 1) := by decide +kernel
theorem dX8_close_94 : decode cX8_close 94 = .ok (.iload 6, 2) := by decide +kernel
theorem dX8_close_96 : decode cX8_close 96 = .ok (.ishl, 1) := by decide +kernel
theorem dX8_close_97 : decode cX8_close 97 = .ok (.ior, 1) := by decide +kernel
theorem dX8_close_98 : decode cX8_close 98 = .ok (.iastore, 1) := by decide +kernel
theorem dX8_close_99 : decode cX8_close 99 = .ok (.aload_n 0, 1) := by decide +kernel
theorem dX8_close_100 : decode cX8_close 100 = .ok (.bipush 32, 2) := by decide +kernel
theorem dX8_close_102 : decode cX8_close 102 = .ok (.iload 5, 2) := by decide +kernel
theorem dX8_close_104 : decode cX8_close 104 = .ok (.imul, 1) := by decide +kernel
theorem dX8_close_105 : decode cX8_close 105 = .ok (.iload 6, 2) := by decide +kernel
theorem dX8_close_107 : decode cX8_close 107 = .ok (.iadd, 1) := by decide +kernel
theorem dX8_close_108 : decode cX8_close 108 = .ok (.iload_n 1, 1) := by decide +kernel
theorem dX8_close_109 : decode cX8_close 109 = .ok (.invokevirtual 74, 3) := by decide +kernel
theorem dX8_close_112 : decode cX8_close 112 = .ok (.iconst 1, 1) := by decide +kernel
theorem dX8_close_113 : decode cX8_close 113 = .ok (.istore 4, 2) := by decide +kernel
theorem dX8_close_115 : decode cX8_close 115 = .ok (.goto (-63), 3) := by decide +kernel
theorem dX8_close_118 : decode cX8_close 118 = .ok (.iinc 5 1, 3) := by decide +kernel
theorem dX8_close_121 : decode cX8_close 121 = .ok (.goto (-75), 3) := by decide +kernel
theorem dX8_close_124 : decode cX8_close 124 = .ok (.goto (-89), 3) := by decide +kernel
theorem dX8_close_127 : decode cX8_close 127 = .ok (.return_, 1) := by decide +kernel
theorem dX8_goOn_0 : decode cX8_goOn 0 = .ok (.aload_n 0, 1) := by decide +kernel
theorem dX8_goOn_1 : decode cX8_goOn 1 = .ok (.iload_n 1, 1) := by decide +kernel
theorem dX8_goOn_2 : decode cX8_goOn 2 = .ok (.aload_n 0, 1) := by decide +kernel
theorem dX8_goOn_3 : decode cX8_goOn 3 = .ok (.getfield 17, 3) := by decide +kernel
theorem dX8_goOn_6 : decode cX8_goOn 6 = .ok (.invokevirtual 78, 3) := by decide +kernel
theorem dX8_goOn_9 : decode cX8_goOn 9 = .ok (.iconst 0, 1) := by decide +kernel
theorem dX8_goOn_10 : decode cX8_goOn 10 = .ok (.istore_n 3, 1) := by decide +kernel
theorem dX8_goOn_11 : decode cX8_goOn 11 = .ok (.iload_n 3, 1) := by decide +kernel
theorem dX8_goOn_12 : decode cX8_goOn 12 = .ok (.bipush 6, 2) := by decide +kernel
theorem dX8_goOn_14 : decode cX8_goOn 14 = .ok (.if_icmp .ge 87, 3) := by decide +kernel
theorem dX8_goOn_17 : decode cX8_goOn 17 = .ok (.iload_n 2, 1) := by decide +kernel
theorem dX8_goOn_18 : decode cX8_goOn 18 = .ok (.iload_n 3, 1) := by decide +kernel
theorem dX8_goOn_19 : decode cX8_goOn 19 = .ok (.ishr, 1) := by decide +kernel
theorem dX8_goOn_20 : decode cX8_goOn 20 = .ok (.iconst 1, 1) := by decide +kernel
theorem dX8_goOn_21 : decode cX8_goOn 21 = .ok (.iand, 1) := by decide +kernel
theorem dX8_goOn_22 : decode cX8_goOn 22 = .ok (.ifCond .ne 6, 3) := by decide +kernel
theorem dX8_goOn_25 : decode cX8_goOn 25 = .ok (.goto 70, 3) := by decide +kernel
theorem dX8_goOn_28 : decode cX8_goOn 28 = .ok (.iconst 0, 1) := by decide +kernel
theorem dX8_goOn_29 : decode cX8_goOn 29 = .ok (.istore 4, 2) := by decide +kernel
theorem dX8_goOn_31 : decode cX8_goOn 31 = .ok (.iload 4, 2) := by decide +kernel
theorem dX8_goOn_33 : decode cX8_goOn 33 = .ok (.aload_n 0, 1) := by decide +kernel
theorem dX8_goOn_34 : decode cX8_goOn 34 = .ok (.getfield 7, 3) := by decide +kernel
theorem dX8_goOn_37 : decode cX8_goOn 37 = .ok (.if_icmp .ge 28, 3) := by decide +kernel
theorem dX8_goOn_40 : decode cX8_goOn 40 = .ok (.aload_n 0, 1) := by decide +kernel
theorem dX8_goOn_41 : decode cX8_goOn 41 = .ok (.getfield 20, 3) := by decide +kernel
theorem dX8_goOn_44 : decode cX8_goOn 44 = .ok (.iload 4, 2) := by decide +kernel
theorem dX8_goOn_46 : decode cX8_goOn 46 = .ok (.aload_n 0, 1) := by decide +kernel
theorem dX8_goOn_47 : decode cX8_goOn 47 = .ok (.iload_n 3, 1) := by decide +kernel
theorem dX8_goOn_48 : decode cX8_goOn 48 = .ok (.aload_n 0, 1) := by decide +kernel
theorem dX8_goOn_49 : decode cX8_goOn 49 = .ok (.getfield 17, 3) := by decide +kernel
theorem dX8_goOn_52 : decode cX8_goOn 52 = .ok (.iload 4, 2) := by decide +kernel
theorem dX8_goOn_54 : decode cX8_goOn 54 = .ok (.iaload, 1) := by decide +kernel
theorem dX8_goOn_55 : decode cX8_goOn 55 = .ok (.invokevirtual 82, 3) := by decide +kernel
theorem dX8_goOn_58 : decode cX8_goOn 58 = .ok (.iastore, 1) := by decide +kernel
theorem dX8_goOn_59 : decode cX8_goOn 59 = .ok (.iinc 4 1, 3) := by decide +kernel
theorem dX8_goOn_62 : decode cX8_goOn 62 = .ok (.goto (-31), 3) := by decide +kernel
theorem dX8_goOn_65 : decode cX8_goOn 65 = .ok (.aload_n 0, 1) := by decide +kernel
theorem dX8_goOn_66 : decode cX8_goOn 66 = .ok (.aload_n 0, 1) := by decide +kernel
theorem dX8_goOn_67 : decode cX8_goOn 67 = .ok (.getfield 20, 3) := by decide +kernel
theorem dX8_goOn_70 : decode cX8_goOn 70 = .ok (.iconst 0, 1) := by decide +kernel
theorem dX8_goOn_71 : decode cX8_goOn 71 = .ok (.invokevirtual 45, 3) := by decide +kernel
theorem dX8_goOn_74 : decode cX8_goOn 74 = .ok (.istore 4, 2) := by decide +kernel
theorem dX8_goOn_76 : decode cX8_goOn 76 = .ok (.aload_n 0, 1) := by decide +kernel
theorem dX8_goOn_77 : decode cX8_goOn 77 = .ok (.getfield 23, 3) := by decide +kernel
theorem dX8_goOn_80 : decode cX8_goOn 80 = .ok (.iload 4, 2) := by decide +kernel
theorem dX8_goOn_82 : decode cX8_goOn 82 = .ok (.iconst 5, 1) := by decide +kernel
theorem dX8_goOn_83 : decode cX8_goOn 83 = .ok (.ishr, 1) := by decide +kernel
theorem dX8_goOn_84 : decode cX8_goOn 84 = .ok (.dup2, 1) := by decide +kernel
theorem dX8_goOn_85 : decode cX8_goOn 85 = .ok (.iaload, 1) := by decide +kernel
theorem dX8_goOn_86 : decode cX8_goOn 86 = .ok (.iconst 1, 1) := by decide +kernel
theorem dX8_goOn_87 : decode cX8_goOn 87 = .ok (.iload 4, 2) := by decide +kernel
theorem dX8_goOn_89 : decode cX8_goOn 89 = .ok (.bipush 31, 2) := by decide +kernel
theorem dX8_goOn_91 : decode cX8_goOn 91 = .ok (.iand, 1) := by decide +kernel
theorem dX8_goOn_92 : decode cX8_goOn 92 = .ok (.ishl, 1) := by decide +kernel
theorem dX8_goOn_93 : decode cX8_goOn 93 = .ok (.ior, 1) := by decide +kernel
theorem dX8_goOn_94 : decode cX8_goOn 94 = .ok (.iastore, 1) := by decide +kernel
theorem dX8_goOn_95 : decode cX8_goOn 95 = .ok (.iinc 3 1, 3) := by decide +kernel
theorem dX8_goOn_98 : decode cX8_goOn 98 = .ok (.goto (-87), 3) := by decide +kernel
theorem dX8_goOn_101 : decode cX8_goOn 101 = .ok (.return_, 1) := by decide +kernel
theorem dX8_group_0 : decode cX8_group 0 = .ok (.aload_n 0, 1) := by decide +kernel
theorem dX8_group_1 : decode cX8_group 1 = .ok (.getfield 26, 3) := by decide +kernel
theorem dX8_group_4 : decode cX8_group 4 = .ok (.iload_n 1, 1) := by decide +kernel
theorem dX8_group_5 : decode cX8_group 5 = .ok (.if_icmp .ne 4, 3) := by decide +kernel
theorem dX8_group_8 : decode cX8_group 8 = .ok (.return_, 1) := by decide +kernel
theorem dX8_group_9 : decode cX8_group 9 = .ok (.aload_n 0, 1) := by decide +kernel
theorem dX8_group_10 : decode cX8_group 10 = .ok (.sipush 158, 3) := by decide +kernel
theorem dX8_group_13 : decode cX8_group 13 = .ok (.newarray .int, 2) := by decide +kernel
theorem dX8_group_15 : decode cX8_group 15 = .ok (.putfield 23, 3) := by decide +kernel
theorem dX8_group_18 : decode cX8_group 18 = .ok (.aload_n 0, 1) := by decide +kernel
theorem dX8_group_19 : decode cX8_group 19 = .ok (.getfield 23, 3) := by decide +kernel
theorem dX8_group_22 : decode cX8_group 22 = .ok (.iconst 0, 1) := by decide +kernel
theorem dX8_group_23 : decode cX8_group 23 = .ok (.iconst 1, 1) := by decide +kernel
theorem dX8_group_24 : decode cX8_group 24 = .ok (.iastore, 1) := by decide +kernel
theorem dX8_group_25 : decode cX8_group 25 = .ok (.aload_n 0, 1) := by decide +kernel
theorem dX8_group_26 : decode cX8_group 26 = .ok (.iconst 0, 1) := by decide +kernel
theorem dX8_group_27 : decode cX8_group 27 = .ok (.putfield 85, 3) := by decide +kernel
theorem dX8_group_30 : decode cX8_group 30 = .ok (.iconst 0, 1) := by decide +kernel
theorem dX8_group_31 : decode cX8_group 31 = .ok (.istore_n 2, 1) := by decide +kernel
theorem dX8_group_32 : decode cX8_group 32 = .ok (.iload_n 2, 1) := by decide +kernel
theorem dX8_group_33 : decode cX8_group 33 = .ok (.bipush 6, 2) := by decide +kernel
theorem dX8_group_35 : decode cX8_group 35 = .ok (.if_icmp .ge 59, 3) := by decide +kernel
theorem dX8_group_38 : decode cX8_group 38 = .ok (.iload_n 1, 1) := by decide +kernel
theorem dX8_group_39 : decode cX8_group 39 = .ok (.iload_n 2, 1) := by decide +kernel
theorem dX8_group_40 : decode cX8_group 40 = .ok (.ishr, 1) := by decide +kernel
theorem dX8_group_41 : decode cX8_group 41 = .ok (.iconst 1, 1) := by decide +kernel
theorem dX8_group_42 : decode cX8_group 42 = .ok (.iand, 1) := by decide +kernel
theorem dX8_group_43 : decode cX8_group 43 = .ok (.ifCond .eq 45, 3) := by decide +kernel
theorem dX8_group_46 : decode cX8_group 46 = .ok (.aload_n 0, 1) := by decide +kernel
theorem dX8_group_47 : decode cX8_group 47 = .ok (.aload_n 0, 1) := by decide +kernel
theorem dX8_group_48 : decode cX8_group 48 = .ok (.aload_n 0, 1) := by decide +kernel
theorem dX8_group_49 : decode cX8_group 49 = .ok (.getfield 13, 3) := by decide +kernel
theorem dX8_group_52 : decode cX8_group 52 = .ok (.iload_n 2, 1) := by decide +kernel
theorem dX8_group_53 : decode cX8_group 53 = .ok (.bipush 7, 2) := by decide +kernel
theorem dX8_group_55 : decode cX8_group 55 = .ok (.imul, 1) := by decide +kernel
theorem dX8_group_56 : decode cX8_group 56 = .ok (.invokevirtual 45, 3) := by decide +kernel
theorem dX8_group_59 : decode cX8_group 59 = .ok (.invokevirtual 88, 3) := by decide +kernel
theorem dX8_group_62 : decode cX8_group 62 = .ok (.ifCond .eq 6, 3) := by decide +kernel
theorem dX8_group_65 : decode cX8_group 65 = .ok (.goto 23, 3) := by decide +kernel
theorem dX8_group_68 : decode cX8_group 68 = .ok (.aload_n 0, 1) := by decide +kernel
theorem dX8_group_69 : decode cX8_group 69 = .ok (.dup, 1) := by decide +kernel
theorem dX8_group_70 : decode cX8_group 70 = .ok (.getfield 85, 3) := by decide +kernel
theorem dX8_group_73 : decode cX8_group 73 = .ok (.iconst 1, 1) := by decide +kernel
theorem dX8_group_74 : decode cX8_group 74 = .ok (.iload_n 2, 1) := by decide +kernel
theorem dX8_group_75 : decode cX8_group 75 = .ok (.ishl, 1) := by decide +kernel
theorem dX8_group_76 : decode cX8_group 76 = .ok (.ior, 1) := by decide +kernel
theorem dX8_group_77 : decode cX8_group 77 = .ok (.putfield 85, 3) := by decide +kernel
theorem dX8_group_80 : decode cX8_group 80 = .ok (.aload_n 0, 1) := by decide +kernel
theorem dX8_group_81 : decode cX8_group 81 = .ok (.aload_n 0, 1) := by decide +kernel
theorem dX8_group_82 : decode cX8_group 82 = .ok (.getfield 85, 3) := by decide +kernel
theorem dX8_group_85 : decode cX8_group 85 = .ok (.invokevirtual 92, 3) := by decide +kernel
theorem dX8_group_88 : decode cX8_group 88 = .ok (.iinc 2 1, 3) := by decide +kernel
theorem dX8_group_91 : decode cX8_group 91 = .ok (.goto (-59), 3) := by decide +kernel
theorem dX8_group_94 : decode cX8_group 94 = .ok (.aload_n 0, 1) := by decide +kernel
theorem dX8_group_95 : decode cX8_group 95 = .ok (.iload_n 1, 1) := by decide +kernel
theorem dX8_group_96 : decode cX8_group 96 = .ok (.putfield 26, 3) := by decide +kernel
theorem dX8_group_99 : decode cX8_group 99 = .ok (.return_, 1) := by decide +kernel
theorem dX8_sizeNow_0 : decode cX8_sizeNow 0 = .ok (.iconst 0, 1) := by decide +kernel
theorem dX8_sizeNow_1 : decode cX8_sizeNow 1 = .ok (.istore_n 1, 1) := by decide +kernel
theorem dX8_sizeNow_2 : decode cX8_sizeNow 2 = .ok (.aload_n 0, 1) := by decide +kernel
theorem dX8_sizeNow_3 : decode cX8_sizeNow 3 = .ok (.getfield 23, 3) := by decide +kernel
theorem dX8_sizeNow_6 : decode cX8_sizeNow 6 = .ok (.astore_n 2, 1) := by decide +kernel
theorem dX8_sizeNow_7 : decode cX8_sizeNow 7 = .ok (.aload_n 2, 1) := by decide +kernel
theorem dX8_sizeNow_8 : decode cX8_sizeNow 8 = .ok (.arraylength, 1) := by decide +kernel
theorem dX8_sizeNow_9 : decode cX8_sizeNow 9 = .ok (.istore_n 3, 1) := by decide +kernel
theorem dX8_sizeNow_10 : decode cX8_sizeNow 10 = .ok (.iconst 0, 1) := by decide +kernel
theorem dX8_sizeNow_11 : decode cX8_sizeNow 11 = .ok (.istore 4, 2) := by decide +kernel
theorem dX8_sizeNow_13 : decode cX8_sizeNow 13 = .ok (.iload 4, 2) := by decide +kernel
theorem dX8_sizeNow_15 : decode cX8_sizeNow 15 = .ok (.iload_n 3, 1) := by decide +kernel
theorem dX8_sizeNow_16 : decode cX8_sizeNow 16 = .ok (.if_icmp .ge 23, 3) := by decide +kernel
theorem dX8_sizeNow_19 : decode cX8_sizeNow 19 = .ok (.aload_n 2, 1) := by decide +kernel
theorem dX8_sizeNow_20 : decode cX8_sizeNow 20 = .ok (.iload 4, 2) := by decide +kernel
theorem dX8_sizeNow_22 : decode cX8_sizeNow 22 = .ok (.iaload, 1) := by decide +kernel
theorem dX8_sizeNow_23 : decode cX8_sizeNow 23 = .ok (.istore 5, 2) := by decide +kernel
theorem dX8_sizeNow_25 : decode cX8_sizeNow 25 = .ok (.iload_n 1, 1) := by decide +kernel
theorem dX8_sizeNow_26 : decode cX8_sizeNow 26 = .ok (.iload 5, 2) := by decide +kernel
theorem dX8_sizeNow_28 : decode cX8_sizeNow 28 = .ok (.invokestatic 96, 3) := by decide +kernel
theorem dX8_sizeNow_31 : decode cX8_sizeNow 31 = .ok (.iadd, 1) := by decide +kernel
theorem dX8_sizeNow_32 : decode cX8_sizeNow 32 = .ok (.istore_n 1, 1) := by decide +kernel
theorem dX8_sizeNow_33 : decode cX8_sizeNow 33 = .ok (.iinc 4 1, 3) := by decide +kernel
theorem dX8_sizeNow_36 : decode cX8_sizeNow 36 = .ok (.goto (-23), 3) := by decide +kernel
theorem dX8_sizeNow_39 : decode cX8_sizeNow 39 = .ok (.iload_n 1, 1) := by decide +kernel
theorem dX8_sizeNow_40 : decode cX8_sizeNow 40 = .ok (.ireturn, 1) := by decide +kernel
theorem dX8_sizeOf_0 : decode cX8_sizeOf 0 = .ok (.aload_n 0, 1) := by decide +kernel
theorem dX8_sizeOf_1 : decode cX8_sizeOf 1 = .ok (.iload_n 1, 1) := by decide +kernel
theorem dX8_sizeOf_2 : decode cX8_sizeOf 2 = .ok (.invokevirtual 99, 3) := by decide +kernel
theorem dX8_sizeOf_5 : decode cX8_sizeOf 5 = .ok (.aload_n 0, 1) := by decide +kernel
theorem dX8_sizeOf_6 : decode cX8_sizeOf 6 = .ok (.invokevirtual 102, 3) := by decide +kernel
theorem dX8_sizeOf_9 : decode cX8_sizeOf 9 = .ok (.ireturn, 1) := by decide +kernel
theorem dX8_from_0 : decode cX8_from 0 = .ok (.iload_n 1, 1) := by decide +kernel
theorem dX8_from_1 : decode cX8_from 1 = .ok (.istore_n 2, 1) := by decide +kernel
theorem dX8_from_2 : decode cX8_from 2 = .ok (.iload_n 2, 1) := by decide +kernel
theorem dX8_from_3 : decode cX8_from 3 = .ok (.aload_n 0, 1) := by decide +kernel
theorem dX8_from_4 : decode cX8_from 4 = .ok (.invokevirtual 65, 3) := by decide +kernel
theorem dX8_from_7 : decode cX8_from 7 = .ok (.if_icmp .ge 19, 3) := by decide +kernel
theorem dX8_from_10 : decode cX8_from 10 = .ok (.aload_n 0, 1) := by decide +kernel
theorem dX8_from_11 : decode cX8_from 11 = .ok (.iload_n 2, 1) := by decide +kernel
theorem dX8_from_12 : decode cX8_from 12 = .ok (.invokevirtual 88, 3) := by decide +kernel
theorem dX8_from_15 : decode cX8_from 15 = .ok (.ifCond .eq 5, 3) := by decide +kernel
theorem dX8_from_18 : decode cX8_from 18 = .ok (.iload_n 2, 1) := by decide +kernel
theorem dX8_from_19 : decode cX8_from 19 = .ok (.ireturn, 1) := by decide +kernel
theorem dX8_from_20 : decode cX8_from 20 = .ok (.iinc 2 1, 3) := by decide +kernel
theorem dX8_from_23 : decode cX8_from 23 = .ok (.goto (-21), 3) := by decide +kernel
theorem dX8_from_26 : decode cX8_from 26 = .ok (.iconst (-1), 1) := by decide +kernel
theorem dX8_from_27 : decode cX8_from 27 = .ok (.ireturn, 1) := by decide +kernel
theorem dX8_points_0 : decode cX8_points 0 = .ok (.aload_n 0, 1) := by decide +kernel
theorem dX8_points_1 : decode cX8_points 1 = .ok (.iload_n 1, 1) := by decide +kernel
theorem dX8_points_2 : decode cX8_points 2 = .ok (.iconst 2, 1) := by decide +kernel
theorem dX8_points_3 : decode cX8_points 3 = .ok (.if_icmp .lt 9, 3) := by decide +kernel
theorem dX8_points_6 : decode cX8_points 6 = .ok (.iload_n 1, 1) := by decide +kernel
theorem dX8_points_7 : decode cX8_points 7 = .ok (.bipush 7, 2) := by decide +kernel
theorem dX8_points_9 : decode cX8_points 9 = .ok (.if_icmp .le 7, 3) := by decide +kernel
theorem dX8_points_12 : decode cX8_points 12 = .ok (.iconst 1, 1) := by decide +kernel
theorem dX8_points_13 : decode cX8_points 13 = .ok (.goto 4, 3) := by decide +kernel
theorem dX8_points_16 : decode cX8_points 16 = .ok (.iconst 0, 1) := by decide +kernel
theorem dX8_points_17 : decode cX8_points 17 = .ok (.invokevirtual 105, 3) := by decide +kernel
theorem dX8_points_20 : decode cX8_points 20 = .ok (.ifCond .eq 5, 3) := by decide +kernel
theorem dX8_points_23 : decode cX8_points 23 = .ok (.iconst 0, 1) := by decide +kernel
theorem dX8_points_24 : decode cX8_points 24 = .ok (.ireturn, 1) := by decide +kernel
theorem dX8_points_25 : decode cX8_points 25 = .ok (.aload_n 0, 1) := by decide +kernel
theorem dX8_points_26 : decode cX8_points 26 = .ok (.getfield 7, 3) := by decide +kernel
theorem dX8_points_29 : decode cX8_points 29 = .ok (.istore_n 2, 1) := by decide +kernel
theorem dX8_points_30 : decode cX8_points 30 = .ok (.aload_n 0, 1) := by decide +kernel
theorem dX8_points_31 : decode cX8_points 31 = .ok (.iload_n 1, 1) := by decide +kernel
theorem dX8_points_32 : decode cX8_points 32 = .ok (.putfield 7, 3) := by decide +kernel
theorem dX8_points_35 : decode cX8_points 35 = .ok (.aload_n 0, 1) := by decide +kernel
theorem dX8_points_36 : decode cX8_points 36 = .ok (.invokevirtual 29, 3) := by decide +kernel
theorem dX8_points_39 : decode cX8_points 39 = .ok (.aload_n 0, 1) := by decide +kernel
theorem dX8_points_40 : decode cX8_points 40 = .ok (.iload_n 2, 1) := by decide +kernel
theorem dX8_points_41 : decode cX8_points 41 = .ok (.invokevirtual 49, 3) := by decide +kernel
theorem dX8_points_44 : decode cX8_points 44 = .ok (.ireturn, 1) := by decide +kernel
theorem dX8_lay_0 : decode cX8_lay 0 = .ok (.aload_n 0, 1) := by decide +kernel
theorem dX8_lay_1 : decode cX8_lay 1 = .ok (.iload_n 1, 1) := by decide +kernel
theorem dX8_lay_2 : decode cX8_lay 2 = .ok (.invokestatic 108, 3) := by decide +kernel
theorem dX8_lay_5 : decode cX8_lay 5 = .ok (.ifCond .ne 7, 3) := by decide +kernel
theorem dX8_lay_8 : decode cX8_lay 8 = .ok (.iconst 1, 1) := by decide +kernel
theorem dX8_lay_9 : decode cX8_lay 9 = .ok (.goto 4, 3) := by decide +kernel
theorem dX8_lay_12 : decode cX8_lay 12 = .ok (.iconst 0, 1) := by decide +kernel
theorem dX8_lay_13 : decode cX8_lay 13 = .ok (.iload_n 2, 1) := by decide +kernel
theorem dX8_lay_14 : decode cX8_lay 14 = .ok (.ifCond .lt 11, 3) := by decide +kernel
theorem dX8_lay_17 : decode cX8_lay 17 = .ok (.iload_n 2, 1) := by decide +kernel
theorem dX8_lay_18 : decode cX8_lay 18 = .ok (.aload_n 0, 1) := by decide +kernel
theorem dX8_lay_19 : decode cX8_lay 19 = .ok (.invokevirtual 65, 3) := by decide +kernel
theorem dX8_lay_22 : decode cX8_lay 22 = .ok (.if_icmp .lt 7, 3) := by decide +kernel
theorem dX8_lay_25 : decode cX8_lay 25 = .ok (.iconst 1, 1) := by decide +kernel
theorem dX8_lay_26 : decode cX8_lay 26 = .ok (.goto 4, 3) := by decide +kernel
theorem dX8_lay_29 : decode cX8_lay 29 = .ok (.iconst 0, 1) := by decide +kernel
theorem dX8_lay_30 : decode cX8_lay 30 = .ok (.invokevirtual 35, 3) := by decide +kernel
theorem dX8_lay_33 : decode cX8_lay 33 = .ok (.ifCond .eq 5, 3) := by decide +kernel
theorem dX8_lay_36 : decode cX8_lay 36 = .ok (.iconst 0, 1) := by decide +kernel
theorem dX8_lay_37 : decode cX8_lay 37 = .ok (.ireturn, 1) := by decide +kernel
theorem dX8_lay_38 : decode cX8_lay 38 = .ok (.aload_n 0, 1) := by decide +kernel
theorem dX8_lay_39 : decode cX8_lay 39 = .ok (.aload_n 0, 1) := by decide +kernel
theorem dX8_lay_40 : decode cX8_lay 40 = .ok (.getfield 13, 3) := by decide +kernel
theorem dX8_lay_43 : decode cX8_lay 43 = .ok (.iload_n 1, 1) := by decide +kernel
theorem dX8_lay_44 : decode cX8_lay 44 = .ok (.bipush 7, 2) := by decide +kernel
theorem dX8_lay_46 : decode cX8_lay 46 = .ok (.imul, 1) := by decide +kernel
theorem dX8_lay_47 : decode cX8_lay 47 = .ok (.invokevirtual 45, 3) := by decide +kernel
theorem dX8_lay_50 : decode cX8_lay 50 = .ok (.istore_n 3, 1) := by decide +kernel
theorem dX8_lay_51 : decode cX8_lay 51 = .ok (.aload_n 0, 1) := by decide +kernel
theorem dX8_lay_52 : decode cX8_lay 52 = .ok (.iload_n 2, 1) := by decide +kernel
theorem dX8_lay_53 : decode cX8_lay 53 = .ok (.aload_n 0, 1) := by decide +kernel
theorem dX8_lay_54 : decode cX8_lay 54 = .ok (.getfield 17, 3) := by decide +kernel
theorem dX8_lay_57 : decode cX8_lay 57 = .ok (.invokevirtual 78, 3) := by decide +kernel
theorem dX8_lay_60 : decode cX8_lay 60 = .ok (.aload_n 0, 1) := by decide +kernel
theorem dX8_lay_61 : decode cX8_lay 61 = .ok (.iload_n 1, 1) := by decide +kernel
theorem dX8_lay_62 : decode cX8_lay 62 = .ok (.aload_n 0, 1) := by decide +kernel
theorem dX8_lay_63 : decode cX8_lay 63 = .ok (.getfield 17, 3) := by decide +kernel
theorem dX8_lay_66 : decode cX8_lay 66 = .ok (.invokevirtual 111, 3) := by decide +kernel
theorem dX8_lay_69 : decode cX8_lay 69 = .ok (.pop, 1) := by decide +kernel
theorem dX8_lay_70 : decode cX8_lay 70 = .ok (.iload_n 3, 1) := by decide +kernel
theorem dX8_lay_71 : decode cX8_lay 71 = .ok (.ireturn, 1) := by decide +kernel
theorem dX8_behind_0 : decode cX8_behind 0 = .ok (.iconst 0, 1) := by decide +kernel
theorem dX8_behind_1 : decode cX8_behind 1 = .ok (.istore_n 3, 1) := by decide +kernel
theorem dX8_behind_2 : decode cX8_behind 2 = .ok (.iload_n 3, 1) := by decide +kernel
theorem dX8_behind_3 : decode cX8_behind 3 = .ok (.aload_n 0, 1) := by decide +kernel
theorem dX8_behind_4 : decode cX8_behind 4 = .ok (.getfield 7, 3) := by decide +kernel
theorem dX8_behind_7 : decode cX8_behind 7 = .ok (.if_icmp .ge 23, 3) := by decide +kernel
theorem dX8_behind_10 : decode cX8_behind 10 = .ok (.aload_n 0, 1) := by decide +kernel
theorem dX8_behind_11 : decode cX8_behind 11 = .ok (.getfield 20, 3) := by decide +kernel
theorem dX8_behind_14 : decode cX8_behind 14 = .ok (.iload_n 3, 1) := by decide +kernel
theorem dX8_behind_15 : decode cX8_behind 15 = .ok (.aload_n 2, 1) := by decide +kernel
theorem dX8_behind_16 : decode cX8_behind 16 = .ok (.aload_n 0, 1) := by decide +kernel
theorem dX8_behind_17 : decode cX8_behind 17 = .ok (.iload_n 1, 1) := by decide +kernel
theorem dX8_behind_18 : decode cX8_behind 18 = .ok (.iload_n 3, 1) := by decide +kernel
theorem dX8_behind_19 : decode cX8_behind 19 = .ok (.invokevirtual 82, 3) := by decide +kernel
theorem dX8_behind_22 : decode cX8_behind 22 = .ok (.iaload, 1) := by decide +kernel
theorem dX8_behind_23 : decode cX8_behind 23 = .ok (.iastore, 1) := by decide +kernel
theorem dX8_behind_24 : decode cX8_behind 24 = .ok (.iinc 3 1, 3) := by decide +kernel
theorem dX8_behind_27 : decode cX8_behind 27 = .ok (.goto (-25), 3) := by decide +kernel
theorem dX8_behind_30 : decode cX8_behind 30 = .ok (.aload_n 0, 1) := by decide +kernel
theorem dX8_behind_31 : decode cX8_behind 31 = .ok (.iload_n 1, 1) := by decide +kernel
theorem dX8_behind_32 : decode cX8_behind 32 = .ok (.aload_n 0, 1) := by decide +kernel
theorem dX8_behind_33 : decode cX8_behind 33 = .ok (.getfield 20, 3) := by decide +kernel
theorem dX8_behind_36 : decode cX8_behind 36 = .ok (.invokevirtual 111, 3) := by decide +kernel
theorem dX8_behind_39 : decode cX8_behind 39 = .ok (.pop, 1) := by decide +kernel
theorem dX8_behind_40 : decode cX8_behind 40 = .ok (.aload_n 0, 1) := by decide +kernel
theorem dX8_behind_41 : decode cX8_behind 41 = .ok (.aload_n 0, 1) := by decide +kernel
theorem dX8_behind_42 : decode cX8_behind 42 = .ok (.getfield 13, 3) := by decide +kernel
theorem dX8_behind_45 : decode cX8_behind 45 = .ok (.iload_n 1, 1) := by decide +kernel
theorem dX8_behind_46 : decode cX8_behind 46 = .ok (.bipush 7, 2) := by decide +kernel
theorem dX8_behind_48 : decode cX8_behind 48 = .ok (.imul, 1) := by decide +kernel
theorem dX8_behind_49 : decode cX8_behind 49 = .ok (.invokevirtual 115, 3) := by decide +kernel
theorem dX8_behind_52 : decode cX8_behind 52 = .ok (.ireturn, 1) := by decide +kernel
theorem dX8_stillRow_0 : decode cX8_stillRow 0 = .ok (.iconst 0, 1) := by decide +kernel
theorem dX8_stillRow_1 : decode cX8_stillRow 1 = .ok (.istore_n 1, 1) := by decide +kernel
theorem dX8_stillRow_2 : decode cX8_stillRow 2 = .ok (.iload_n 1, 1) := by decide +kernel
theorem dX8_stillRow_3 : decode cX8_stillRow 3 = .ok (.aload_n 0, 1) := by decide +kernel
theorem dX8_stillRow_4 : decode cX8_stillRow 4 = .ok (.getfield 7, 3) := by decide +kernel
theorem dX8_stillRow_7 : decode cX8_stillRow 7 = .ok (.if_icmp .ge 16, 3) := by decide +kernel
theorem dX8_stillRow_10 : decode cX8_stillRow 10 = .ok (.aload_n 0, 1) := by decide +kernel
theorem dX8_stillRow_11 : decode cX8_stillRow 11 = .ok (.getfield 17, 3) := by decide +kernel
theorem dX8_stillRow_14 : decode cX8_stillRow 14 = .ok (.iload_n 1, 1) := by decide +kernel
theorem dX8_stillRow_15 : decode cX8_stillRow 15 = .ok (.iload_n 1, 1) := by decide +kernel
theorem dX8_stillRow_16 : decode cX8_stillRow 16 = .ok (.iastore, 1) := by decide +kernel
theorem dX8_stillRow_17 : decode cX8_stillRow 17 = .ok (.iinc 1 1, 3) := by decide +kernel
theorem dX8_stillRow_20 : decode cX8_stillRow 20 = .ok (.goto (-18), 3) := by decide +kernel
theorem dX8_stillRow_23 : decode cX8_stillRow 23 = .ok (.return_, 1) := by decide +kernel
theorem dX8_exchange_0 : decode cX8_exchange 0 = .ok (.aload_n 0, 1) := by decide +kernel
theorem dX8_exchange_1 : decode cX8_exchange 1 = .ok (.iload_n 1, 1) := by decide +kernel
theorem dX8_exchange_2 : decode cX8_exchange 2 = .ok (.invokestatic 108, 3) := by decide +kernel
theorem dX8_exchange_5 : decode cX8_exchange 5 = .ok (.ifCond .eq 19, 3) := by decide +kernel
theorem dX8_exchange_8 : decode cX8_exchange 8 = .ok (.aload_n 0, 1) := by decide +kernel
theorem dX8_exchange_9 : decode cX8_exchange 9 = .ok (.iload_n 2, 1) := by decide +kernel
theorem dX8_exchange_10 : decode cX8_exchange 10 = .ok (.invokevirtual 118, 3) := by decide +kernel
theorem dX8_exchange_13 : decode cX8_exchange 13 = .ok (.ifCond .eq 11, 3) := by decide +kernel
theorem dX8_exchange_16 : decode cX8_exchange 16 = .ok (.aload_n 0, 1) := by decide +kernel
theorem dX8_exchange_17 : decode cX8_exchange 17 = .ok (.iload_n 3, 1) := by decide +kernel
theorem dX8_exchange_18 : decode cX8_exchange 18 = .ok (.invokevirtual 118, 3) := by decide +kernel
theorem dX8_exchange_21 : decode cX8_exchange 21 = .ok (.ifCond .ne 7, 3) := by decide +kernel
theorem dX8_exchange_24 : decode cX8_exchange 24 = .ok (.iconst 1, 1) := by decide +kernel
theorem dX8_exchange_25 : decode cX8_exchange 25 = .ok (.goto 4, 3) := by decide +kernel
theorem dX8_exchange_28 : decode cX8_exchange 28 = .ok (.iconst 0, 1) := by decide +kernel
theorem dX8_exchange_29 : decode cX8_exchange 29 = .ok (.invokevirtual 105, 3) := by decide +kernel
theorem dX8_exchange_32 : decode cX8_exchange 32 = .ok (.ifCond .eq 5, 3) := by decide +kernel
theorem dX8_exchange_35 : decode cX8_exchange 35 = .ok (.iconst 0, 1) := by decide +kernel
theorem dX8_exchange_36 : decode cX8_exchange 36 = .ok (.ireturn, 1) := by decide +kernel
theorem dX8_exchange_37 : decode cX8_exchange 37 = .ok (.aload_n 0, 1) := by decide +kernel
theorem dX8_exchange_38 : decode cX8_exchange 38 = .ok (.invokevirtual 121, 3) := by decide +kernel
theorem dX8_exchange_41 : decode cX8_exchange 41 = .ok (.aload_n 0, 1) := by decide +kernel
theorem dX8_exchange_42 : decode cX8_exchange 42 = .ok (.getfield 17, 3) := by decide +kernel
theorem dX8_exchange_45 : decode cX8_exchange 45 = .ok (.iload_n 2, 1) := by decide +kernel
theorem dX8_exchange_46 : decode cX8_exchange 46 = .ok (.iload_n 3, 1) := by decide +kernel
theorem dX8_exchange_47 : decode cX8_exchange 47 = .ok (.iastore, 1) := by decide +kernel
theorem dX8_exchange_48 : decode cX8_exchange 48 = .ok (.aload_n 0, 1) := by decide +kernel
theorem dX8_exchange_49 : decode cX8_exchange 49 = .ok (.getfield 17, 3) := by decide +kernel
theorem dX8_exchange_52 : decode cX8_exchange 52 = .ok (.iload_n 3, 1) := by decide +kernel
theorem dX8_exchange_53 : decode cX8_exchange 53 = .ok (.iload_n 2, 1) := by decide +kernel
theorem dX8_exchange_54 : decode cX8_exchange 54 = .ok (.iastore, 1) := by decide +kernel
theorem dX8_exchange_55 : decode cX8_exchange 55 = .ok (.aload_n 0, 1) := by decide +kernel
theorem dX8_exchange_56 : decode cX8_exchange 56 = .ok (.iload_n 1, 1) := by decide +kernel
theorem dX8_exchange_57 : decode cX8_exchange 57 = .ok (.aload_n 0, 1) := by decide +kernel
theorem dX8_exchange_58 : decode cX8_exchange 58 = .ok (.getfield 17, 3) := by decide +kernel
theorem dX8_exchange_61 : decode cX8_exchange 61 = .ok (.invokevirtual 124, 3) := by decide +kernel
theorem dX8_exchange_64 : decode cX8_exchange 64 = .ok (.ireturn, 1) := by decide +kernel
theorem dX8_ring_0 : decode cX8_ring 0 = .ok (.aload_n 0, 1) := by decide +kernel
theorem dX8_ring_1 : decode cX8_ring 1 = .ok (.iload_n 1, 1) := by decide +kernel
theorem dX8_ring_2 : decode cX8_ring 2 = .ok (.invokestatic 108, 3) := by decide +kernel
theorem dX8_ring_5 : decode cX8_ring 5 = .ok (.ifCond .eq 28, 3) := by decide +kernel
theorem dX8_ring_8 : decode cX8_ring 8 = .ok (.aload_n 0, 1) := by decide +kernel
theorem dX8_ring_9 : decode cX8_ring 9 = .ok (.iload_n 2, 1) := by decide +kernel
theorem dX8_ring_10 : decode cX8_ring 10 = .ok (.invokevirtual 118, 3) := by decide +kernel
theorem dX8_ring_13 : decode cX8_ring 13 = .ok (.ifCond .eq 20, 3) := by decide +kernel
theorem dX8_ring_16 : decode cX8_ring 16 = .ok (.aload_n 0, 1) := by decide +kernel
theorem dX8_ring_17 : decode cX8_ring 17 = .ok (.iload_n 3, 1) := by decide +kernel
theorem dX8_ring_18 : decode cX8_ring 18 = .ok (.invokevirtual 118, 3) := by decide +kernel
theorem dX8_ring_21 : decode cX8_ring 21 = .ok (.ifCond .eq 12, 3) := by decide +kernel
theorem dX8_ring_24 : decode cX8_ring 24 = .ok (.aload_n 0, 1) := by decide +kernel
theorem dX8_ring_25 : decode cX8_ring 25 = .ok (.iload 4, 2) := by decide +kernel
theorem dX8_ring_27 : decode cX8_ring 27 = .ok (.invokevirtual 118, 3) := by decide +kernel
theorem dX8_ring_30 : decode cX8_ring 30 = .ok (.ifCond .ne 7, 3) := by decide +kernel
theorem dX8_ring_33 : decode cX8_ring 33 = .ok (.iconst 1, 1) := by decide +kernel
theorem dX8_ring_34 : decode cX8_ring 34 = .ok (.goto 4, 3) := by decide +kernel
theorem dX8_ring_37 : decode cX8_ring 37 = .ok (.iconst 0, 1) := by decide +kernel
theorem dX8_ring_38 : decode cX8_ring 38 = .ok (.iload_n 2, 1) := by decide +kernel
theorem dX8_ring_39 : decode cX8_ring 39 = .ok (.iload_n 3, 1) := by decide +kernel
theorem dX8_ring_40 : decode cX8_ring 40 = .ok (.if_icmp .eq 15, 3) := by decide +kernel
theorem dX8_ring_43 : decode cX8_ring 43 = .ok (.iload_n 2, 1) := by decide +kernel
theorem dX8_ring_44 : decode cX8_ring 44 = .ok (.iload 4, 2) := by decide +kernel
theorem dX8_ring_46 : decode cX8_ring 46 = .ok (.if_icmp .eq 9, 3) := by decide +kernel
theorem dX8_ring_49 : decode cX8_ring 49 = .ok (.iload_n 3, 1) := by decide +kernel
theorem dX8_ring_50 : decode cX8_ring 50 = .ok (.iload 4, 2) := by decide +kernel
theorem dX8_ring_52 : decode cX8_ring 52 = .ok (.if_icmp .ne 7, 3) := by decide +kernel
theorem dX8_ring_55 : decode cX8_ring 55 = .ok (.iconst 1, 1) := by decide +kernel
theorem dX8_ring_56 : decode cX8_ring 56 = .ok (.goto 4, 3) := by decide +kernel
theorem dX8_ring_59 : decode cX8_ring 59 = .ok (.iconst 0, 1) := by decide +kernel
theorem dX8_ring_60 : decode cX8_ring 60 = .ok (.invokevirtual 35, 3) := by decide +kernel
theorem dX8_ring_63 : decode cX8_ring 63 = .ok (.ifCond .eq 5, 3) := by decide +kernel
theorem dX8_ring_66 : decode cX8_ring 66 = .ok (.iconst 0, 1) := by decide +kernel
theorem dX8_ring_67 : decode cX8_ring 67 = .ok (.ireturn, 1) := by decide +kernel
theorem dX8_ring_68 : decode cX8_ring 68 = .ok (.aload_n 0, 1) := by decide +kernel
theorem dX8_ring_69 : decode cX8_ring 69 = .ok (.invokevirtual 121, 3) := by decide +kernel
theorem dX8_ring_72 : decode cX8_ring 72 = .ok (.aload_n 0, 1) := by decide +kernel
theorem dX8_ring_73 : decode cX8_ring 73 = .ok (.getfield 17, 3) := by decide +kernel
theorem dX8_ring_76 : decode cX8_ring 76 = .ok (.iload_n 2, 1) := by decide +kernel
theorem dX8_ring_77 : decode cX8_ring 77 = .ok (.iload_n 3, 1) := by decide +kernel
theorem dX8_ring_78 : decode cX8_ring 78 = .ok (.iastore, 1) := by decide +kernel
theorem dX8_ring_79 : decode cX8_ring 79 = .ok (.aload_n 0, 1) := by decide +kernel
theorem dX8_ring_80 : decode cX8_ring 80 = .ok (.getfield 17, 3) := by decide +kernel
theorem dX8_ring_83 : decode cX8_ring 83 = .ok (.iload_n 3, 1) := by decide +kernel
theorem dX8_ring_84 : decode cX8_ring 84 = .ok (.iload 4, 2) := by decide +kernel
theorem dX8_ring_86 : decode cX8_ring 86 = .ok (.iastore, 1) := by decide +kernel
theorem dX8_ring_87 : decode cX8_ring 87 = .ok (.aload_n 0, 1) := by decide +kernel
theorem dX8_ring_88 : decode cX8_ring 88 = .ok (.getfield 17, 3) := by decide +kernel
theorem dX8_ring_91 : decode cX8_ring 91 = .ok (.iload 4, 2) := by decide +kernel
theorem dX8_ring_93 : decode cX8_ring 93 = .ok (.iload_n 2, 1) := by decide +kernel
theorem dX8_ring_94 : decode cX8_ring 94 = .ok (.iastore, 1) := by decide +kernel
theorem dX8_ring_95 : decode cX8_ring 95 = .ok (.aload_n 0, 1) := by decide +kernel
theorem dX8_ring_96 : decode cX8_ring 96 = .ok (.iload_n 1, 1) := by decide +kernel
theorem dX8_ring_97 : decode cX8_ring 97 = .ok (.aload_n 0, 1) := by decide +kernel
theorem dX8_ring_98 : decode cX8_ring 98 = .ok (.getfield 17, 3) := by decide +kernel
theorem dX8_ring_101 : decode cX8_ring 101 = .ok (.invokevirtual 124, 3) := by decide +kernel
theorem dX8_ring_104 : decode cX8_ring 104 = .ok (.ireturn, 1) := by decide +kernel
theorem dX8_turn_0 : decode cX8_turn 0 = .ok (.aload_n 0, 1) := by decide +kernel
theorem dX8_turn_1 : decode cX8_turn 1 = .ok (.iload_n 1, 1) := by decide +kernel
theorem dX8_turn_2 : decode cX8_turn 2 = .ok (.invokestatic 108, 3) := by decide +kernel
theorem dX8_turn_5 : decode cX8_turn 5 = .ok (.ifCond .ne 7, 3) := by decide +kernel
theorem dX8_turn_8 : decode cX8_turn 8 = .ok (.iconst 1, 1) := by decide +kernel
theorem dX8_turn_9 : decode cX8_turn 9 = .ok (.goto 4, 3) := by decide +kernel
theorem dX8_turn_12 : decode cX8_turn 12 = .ok (.iconst 0, 1) := by decide +kernel
theorem dX8_turn_13 : decode cX8_turn 13 = .ok (.iload_n 2, 1) := by decide +kernel
theorem dX8_turn_14 : decode cX8_turn 14 = .ok (.bipush (-100), 2) := by decide +kernel
theorem dX8_turn_16 : decode cX8_turn 16 = .ok (.if_icmp .lt 9, 3) := by decide +kernel
theorem dX8_turn_19 : decode cX8_turn 19 = .ok (.iload_n 2, 1) := by decide +kernel
theorem dX8_turn_20 : decode cX8_turn 20 = .ok (.bipush 100, 2) := by decide +kernel
theorem dX8_turn_22 : decode cX8_turn 22 = .ok (.if_icmp .le 7, 3) := by decide +kernel
theorem dX8_turn_25 : decode cX8_turn 25 = .ok (.iconst 1, 1) := by decide +kernel
theorem dX8_turn_26 : decode cX8_turn 26 = .ok (.goto 4, 3) := by decide +kernel
theorem dX8_turn_29 : decode cX8_turn 29 = .ok (.iconst 0, 1) := by decide +kernel
theorem dX8_turn_30 : decode cX8_turn 30 = .ok (.invokevirtual 35, 3) := by decide +kernel
theorem dX8_turn_33 : decode cX8_turn 33 = .ok (.ifCond .eq 5, 3) := by decide +kernel
theorem dX8_turn_36 : decode cX8_turn 36 = .ok (.iconst 0, 1) := by decide +kernel
theorem dX8_turn_37 : decode cX8_turn 37 = .ok (.ireturn, 1) := by decide +kernel
theorem dX8_turn_38 : decode cX8_turn 38 = .ok (.iconst 0, 1) := by decide +kernel
theorem dX8_turn_39 : decode cX8_turn 39 = .ok (.istore_n 3, 1) := by decide +kernel
theorem dX8_turn_40 : decode cX8_turn 40 = .ok (.iload_n 3, 1) := by decide +kernel
theorem dX8_turn_41 : decode cX8_turn 41 = .ok (.aload_n 0, 1) := by decide +kernel
theorem dX8_turn_42 : decode cX8_turn 42 = .ok (.getfield 7, 3) := by decide +kernel
theorem dX8_turn_45 : decode cX8_turn 45 = .ok (.if_icmp .ge 33, 3) := by decide +kernel
theorem dX8_turn_48 : decode cX8_turn 48 = .ok (.aload_n 0, 1) := by decide +kernel
theorem dX8_turn_49 : decode cX8_turn 49 = .ok (.getfield 17, 3) := by decide +kernel
theorem dX8_turn_52 : decode cX8_turn 52 = .ok (.iload_n 3, 1) := by decide +kernel
theorem dX8_turn_53 : decode cX8_turn 53 = .ok (.iload_n 3, 1) := by decide +kernel
theorem dX8_turn_54 : decode cX8_turn 54 = .ok (.iload_n 2, 1) := by decide +kernel
theorem dX8_turn_55 : decode cX8_turn 55 = .ok (.iadd, 1) := by decide +kernel
theorem dX8_turn_56 : decode cX8_turn 56 = .ok (.aload_n 0, 1) := by decide +kernel
theorem dX8_turn_57 : decode cX8_turn 57 = .ok (.getfield 7, 3) := by decide +kernel
theorem dX8_turn_60 : decode cX8_turn 60 = .ok (.irem, 1) := by decide +kernel
theorem dX8_turn_61 : decode cX8_turn 61 = .ok (.aload_n 0, 1) := by decide +kernel
theorem dX8_turn_62 : decode cX8_turn 62 = .ok (.getfield 7, 3) := by decide +kernel
theorem dX8_turn_65 : decode cX8_turn 65 = .ok (.iadd, 1) := by decide +kernel
theorem dX8_turn_66 : decode cX8_turn 66 = .ok (.aload_n 0, 1) := by decide +kernel
theorem dX8_turn_67 : decode cX8_turn 67 = .ok (.getfield 7, 3) := by decide +kernel
theorem dX8_turn_70 : decode cX8_turn 70 = .ok (.irem, 1) := by decide +kernel
theorem dX8_turn_71 : decode cX8_turn 71 = .ok (.iastore, 1) := by decide +kernel
theorem dX8_turn_72 : decode cX8_turn 72 = .ok (.iinc 3 1, 3) := by decide +kernel
theorem dX8_turn_75 : decode cX8_turn 75 = .ok (.goto (-35), 3) := by decide +kernel
theorem dX8_turn_78 : decode cX8_turn 78 = .ok (.aload_n 0, 1) := by decide +kernel
theorem dX8_turn_79 : decode cX8_turn 79 = .ok (.iload_n 1, 1) := by decide +kernel
theorem dX8_turn_80 : decode cX8_turn 80 = .ok (.aload_n 0, 1) := by decide +kernel
theorem dX8_turn_81 : decode cX8_turn 81 = .ok (.getfield 17, 3) := by decide +kernel
theorem dX8_turn_84 : decode cX8_turn 84 = .ok (.invokevirtual 124, 3) := by decide +kernel
theorem dX8_turn_87 : decode cX8_turn 87 = .ok (.ireturn, 1) := by decide +kernel
theorem dX8_mirror_0 : decode cX8_mirror 0 = .ok (.aload_n 0, 1) := by decide +kernel
theorem dX8_mirror_1 : decode cX8_mirror 1 = .ok (.iload_n 1, 1) := by decide +kernel
theorem dX8_mirror_2 : decode cX8_mirror 2 = .ok (.invokestatic 108, 3) := by decide +kernel
theorem dX8_mirror_5 : decode cX8_mirror 5 = .ok (.ifCond .ne 7, 3) := by decide +kernel
theorem dX8_mirror_8 : decode cX8_mirror 8 = .ok (.iconst 1, 1) := by decide +kernel
theorem dX8_mirror_9 : decode cX8_mirror 9 = .ok (.goto 4, 3) := by decide +kernel
theorem dX8_mirror_12 : decode cX8_mirror 12 = .ok (.iconst 0, 1) := by decide +kernel
theorem dX8_mirror_13 : decode cX8_mirror 13 = .ok (.invokevirtual 105, 3) := by decide +kernel
theorem dX8_mirror_16 : decode cX8_mirror 16 = .ok (.ifCond .eq 5, 3) := by decide +kernel
theorem dX8_mirror_19 : decode cX8_mirror 19 = .ok (.iconst 0, 1) := by decide +kernel
theorem dX8_mirror_20 : decode cX8_mirror 20 = .ok (.ireturn, 1) := by decide +kernel
theorem dX8_mirror_21 : decode cX8_mirror 21 = .ok (.iconst 0, 1) := by decide +kernel
theorem dX8_mirror_22 : decode cX8_mirror 22 = .ok (.istore_n 2, 1) := by decide +kernel
theorem dX8_mirror_23 : decode cX8_mirror 23 = .ok (.iload_n 2, 1) := by decide +kernel
theorem dX8_mirror_24 : decode cX8_mirror 24 = .ok (.aload_n 0, 1) := by decide +kernel
theorem dX8_mirror_25 : decode cX8_mirror 25 = .ok (.getfield 7, 3) := by decide +kernel
theorem dX8_mirror_28 : decode cX8_mirror 28 = .ok (.if_icmp .ge 23, 3) := by decide +kernel
theorem dX8_mirror_31 : decode cX8_mirror 31 = .ok (.aload_n 0, 1) := by decide +kernel
theorem dX8_mirror_32 : decode cX8_mirror 32 = .ok (.getfield 17, 3) := by decide +kernel
theorem dX8_mirror_35 : decode cX8_mirror 35 = .ok (.iload_n 2, 1) := by decide +kernel
theorem dX8_mirror_36 : decode cX8_mirror 36 = .ok (.aload_n 0, 1) := by decide +kernel
theorem dX8_mirror_37 : decode cX8_mirror 37 = .ok (.getfield 7, 3) := by decide +kernel
theorem dX8_mirror_40 : decode cX8_mirror 40 = .ok (.iconst 1, 1) := by decide +kernel
theorem dX8_mirror_41 : decode cX8_mirror 41 = .ok (.isub, 1) := by decide +kernel
theorem dX8_mirror_42 : decode cX8_mirror 42 = .ok (.iload_n 2, 1) := by decide +kernel
theorem dX8_mirror_43 : decode cX8_mirror 43 = .ok (.isub, 1) := by decide +kernel
theorem dX8_mirror_44 : decode cX8_mirror 44 = .ok (.iastore, 1) := by decide +kernel
theorem dX8_mirror_45 : decode cX8_mirror 45 = .ok (.iinc 2 1, 3) := by decide +kernel
theorem dX8_mirror_48 : decode cX8_mirror 48 = .ok (.goto (-25), 3) := by decide +kernel
theorem dX8_mirror_51 : decode cX8_mirror 51 = .ok (.aload_n 0, 1) := by decide +kernel
theorem dX8_mirror_52 : decode cX8_mirror 52 = .ok (.iload_n 1, 1) := by decide +kernel
theorem dX8_mirror_53 : decode cX8_mirror 53 = .ok (.aload_n 0, 1) := by decide +kernel
theorem dX8_mirror_54 : decode cX8_mirror 54 = .ok (.getfield 17, 3) := by decide +kernel
theorem dX8_mirror_57 : decode cX8_mirror 57 = .ok (.invokevirtual 124, 3) := by decide +kernel
theorem dX8_mirror_60 : decode cX8_mirror 60 = .ok (.ireturn, 1) := by decide +kernel
theorem dX8_areUnlike_0 : decode cX8_areUnlike 0 = .ok (.iconst 0, 1) := by decide +kernel
theorem dX8_areUnlike_1 : decode cX8_areUnlike 1 = .ok (.istore_n 3, 1) := by decide +kernel
theorem dX8_areUnlike_2 : decode cX8_areUnlike 2 = .ok (.iload_n 3, 1) := by decide +kernel
theorem dX8_areUnlike_3 : decode cX8_areUnlike 3 = .ok (.aload_n 0, 1) := by decide +kernel
theorem dX8_areUnlike_4 : decode cX8_areUnlike 4 = .ok (.getfield 7, 3) := by decide +kernel
theorem dX8_areUnlike_7 : decode cX8_areUnlike 7 = .ok (.if_icmp .ge 26, 3) := by decide +kernel
theorem dX8_areUnlike_10 : decode cX8_areUnlike 10 = .ok (.aload_n 0, 1) := by decide +kernel
theorem dX8_areUnlike_11 : decode cX8_areUnlike 11 = .ok (.iload_n 1, 1) := by decide +kernel
theorem dX8_areUnlike_12 : decode cX8_areUnlike 12 = .ok (.iload_n 3, 1) := by decide +kernel
theorem dX8_areUnlike_13 : decode cX8_areUnlike 13 = .ok (.invokevirtual 82, 3) := by decide +kernel
theorem dX8_areUnlike_16 : decode cX8_areUnlike 16 = .ok (.aload_n 0, 1) := by decide +kernel
theorem dX8_areUnlike_17 : decode cX8_areUnlike 17 = .ok (.iload_n 2, 1) := by decide +kernel
theorem dX8_areUnlike_18 : decode cX8_areUnlike 18 = .ok (.iload_n 3, 1) := by decide +kernel
theorem dX8_areUnlike_19 : decode cX8_areUnlike 19 = .ok (.invokevirtual 82, 3) := by decide +kernel
theorem dX8_areUnlike_22 : decode cX8_areUnlike 22 = .ok (.if_icmp .eq 5, 3) := by decide +kernel
theorem dX8_areUnlike_25 : decode cX8_areUnlike 25 = .ok (.iconst 1, 1) := by decide +kernel
theorem dX8_areUnlike_26 : decode cX8_areUnlike 26 = .ok (.ireturn, 1) := by decide +kernel
theorem dX8_areUnlike_27 : decode cX8_areUnlike 27 = .ok (.iinc 3 1, 3) := by decide +kernel
theorem dX8_areUnlike_30 : decode cX8_areUnlike 30 = .ok (.goto (-28), 3) := by decide +kernel
theorem dX8_areUnlike_33 : decode cX8_areUnlike 33 = .ok (.iconst 0, 1) := by decide +kernel
theorem dX8_areUnlike_34 : decode cX8_areUnlike 34 = .ok (.ireturn, 1) := by decide +kernel
theorem dX8_copy_0 : decode cX8_copy 0 = .ok (.aload_n 0, 1) := by decide +kernel
theorem dX8_copy_1 : decode cX8_copy 1 = .ok (.iload_n 1, 1) := by decide +kernel
theorem dX8_copy_2 : decode cX8_copy 2 = .ok (.invokestatic 108, 3) := by decide +kernel
theorem dX8_copy_5 : decode cX8_copy 5 = .ok (.ifCond .eq 10, 3) := by decide +kernel
theorem dX8_copy_8 : decode cX8_copy 8 = .ok (.iload_n 2, 1) := by decide +kernel
theorem dX8_copy_9 : decode cX8_copy 9 = .ok (.invokestatic 108, 3) := by decide +kernel
theorem dX8_copy_12 : decode cX8_copy 12 = .ok (.ifCond .ne 7, 3) := by decide +kernel
theorem dX8_copy_15 : decode cX8_copy 15 = .ok (.iconst 1, 1) := by decide +kernel
theorem dX8_copy_16 : decode cX8_copy 16 = .ok (.goto 4, 3) := by decide +kernel
theorem dX8_copy_19 : decode cX8_copy 19 = .ok (.iconst 0, 1) := by decide +kernel
theorem dX8_copy_20 : decode cX8_copy 20 = .ok (.invokevirtual 105, 3) := by decide +kernel
theorem dX8_copy_23 : decode cX8_copy 23 = .ok (.ifCond .eq 5, 3) := by decide +kernel
theorem dX8_copy_26 : decode cX8_copy 26 = .ok (.iconst 0, 1) := by decide +kernel
theorem dX8_copy_27 : decode cX8_copy 27 = .ok (.ireturn, 1) := by decide +kernel
theorem dX8_copy_28 : decode cX8_copy 28 = .ok (.aload_n 0, 1) := by decide +kernel
theorem dX8_copy_29 : decode cX8_copy 29 = .ok (.iload_n 1, 1) := by decide +kernel
theorem dX8_copy_30 : decode cX8_copy 30 = .ok (.iload_n 2, 1) := by decide +kernel
theorem dX8_copy_31 : decode cX8_copy 31 = .ok (.invokevirtual 127, 3) := by decide +kernel
theorem dX8_copy_34 : decode cX8_copy 34 = .ok (.istore_n 3, 1) := by decide +kernel
theorem dX8_copy_35 : decode cX8_copy 35 = .ok (.iconst 0, 1) := by decide +kernel
theorem dX8_copy_36 : decode cX8_copy 36 = .ok (.istore 4, 2) := by decide +kernel
theorem dX8_copy_38 : decode cX8_copy 38 = .ok (.iload 4, 2) := by decide +kernel
theorem dX8_copy_40 : decode cX8_copy 40 = .ok (.aload_n 0, 1) := by decide +kernel
theorem dX8_copy_41 : decode cX8_copy 41 = .ok (.getfield 7, 3) := by decide +kernel
theorem dX8_copy_44 : decode cX8_copy 44 = .ok (.if_icmp .ge 23, 3) := by decide +kernel
theorem dX8_copy_47 : decode cX8_copy 47 = .ok (.aload_n 0, 1) := by decide +kernel
theorem dX8_copy_48 : decode cX8_copy 48 = .ok (.getfield 20, 3) := by decide +kernel
theorem dX8_copy_51 : decode cX8_copy 51 = .ok (.iload 4, 2) := by decide +kernel
theorem dX8_copy_53 : decode cX8_copy 53 = .ok (.aload_n 0, 1) := by decide +kernel
theorem dX8_copy_54 : decode cX8_copy 54 = .ok (.iload_n 1, 1) := by decide +kernel
theorem dX8_copy_55 : decode cX8_copy 55 = .ok (.iload 4, 2) := by decide +kernel
theorem dX8_copy_57 : decode cX8_copy 57 = .ok (.invokevirtual 82, 3) := by decide +kernel
theorem dX8_copy_60 : decode cX8_copy 60 = .ok (.iastore, 1) := by decide +kernel
theorem dX8_copy_61 : decode cX8_copy 61 = .ok (.iinc 4 1, 3) := by decide +kernel
theorem dX8_copy_64 : decode cX8_copy 64 = .ok (.goto (-26), 3) := by decide +kernel
theorem dX8_copy_67 : decode cX8_copy 67 = .ok (.aload_n 0, 1) := by decide +kernel
theorem dX8_copy_68 : decode cX8_copy 68 = .ok (.iload_n 2, 1) := by decide +kernel
theorem dX8_copy_69 : decode cX8_copy 69 = .ok (.aload_n 0, 1) := by decide +kernel
theorem dX8_copy_70 : decode cX8_copy 70 = .ok (.getfield 20, 3) := by decide +kernel
theorem dX8_copy_73 : decode cX8_copy 73 = .ok (.invokevirtual 111, 3) := by decide +kernel
theorem dX8_copy_76 : decode cX8_copy 76 = .ok (.pop, 1) := by decide +kernel
theorem dX8_copy_77 : decode cX8_copy 77 = .ok (.iload_n 3, 1) := by decide +kernel
theorem dX8_copy_78 : decode cX8_copy 78 = .ok (.ifCond .eq 7, 3) := by decide +kernel
theorem dX8_copy_81 : decode cX8_copy 81 = .ok (.iconst 1, 1) := by decide +kernel
theorem dX8_copy_82 : decode cX8_copy 82 = .ok (.goto 4, 3) := by decide +kernel
theorem dX8_copy_85 : decode cX8_copy 85 = .ok (.iconst 0, 1) := by decide +kernel
theorem dX8_copy_86 : decode cX8_copy 86 = .ok (.ireturn, 1) := by decide +kernel
theorem dX8_swap_0 : decode cX8_swap 0 = .ok (.aload_n 0, 1) := by decide +kernel
theorem dX8_swap_1 : decode cX8_swap 1 = .ok (.iload_n 1, 1) := by decide +kernel
theorem dX8_swap_2 : decode cX8_swap 2 = .ok (.invokestatic 108, 3) := by decide +kernel
theorem dX8_swap_5 : decode cX8_swap 5 = .ok (.ifCond .eq 10, 3) := by decide +kernel
theorem dX8_swap_8 : decode cX8_swap 8 = .ok (.iload_n 2, 1) := by decide +kernel
theorem dX8_swap_9 : decode cX8_swap 9 = .ok (.invokestatic 108, 3) := by decide +kernel
theorem dX8_swap_12 : decode cX8_swap 12 = .ok (.ifCond .ne 7, 3) := by decide +kernel
theorem dX8_swap_15 : decode cX8_swap 15 = .ok (.iconst 1, 1) := by decide +kernel
theorem dX8_swap_16 : decode cX8_swap 16 = .ok (.goto 4, 3) := by decide +kernel
theorem dX8_swap_19 : decode cX8_swap 19 = .ok (.iconst 0, 1) := by decide +kernel
theorem dX8_swap_20 : decode cX8_swap 20 = .ok (.invokevirtual 105, 3) := by decide +kernel
theorem dX8_swap_23 : decode cX8_swap 23 = .ok (.ifCond .eq 5, 3) := by decide +kernel
theorem dX8_swap_26 : decode cX8_swap 26 = .ok (.iconst 0, 1) := by decide +kernel
theorem dX8_swap_27 : decode cX8_swap 27 = .ok (.ireturn, 1) := by decide +kernel
theorem dX8_swap_28 : decode cX8_swap 28 = .ok (.aload_n 0, 1) := by decide +kernel
theorem dX8_swap_29 : decode cX8_swap 29 = .ok (.iload_n 1, 1) := by decide +kernel
theorem dX8_swap_30 : decode cX8_swap 30 = .ok (.iload_n 2, 1) := by decide +kernel
theorem dX8_swap_31 : decode cX8_swap 31 = .ok (.invokevirtual 127, 3) := by decide +kernel
theorem dX8_swap_34 : decode cX8_swap 34 = .ok (.istore_n 3, 1) := by decide +kernel
theorem dX8_swap_35 : decode cX8_swap 35 = .ok (.iconst 0, 1) := by decide +kernel
theorem dX8_swap_36 : decode cX8_swap 36 = .ok (.istore 4, 2) := by decide +kernel
theorem dX8_swap_38 : decode cX8_swap 38 = .ok (.iload 4, 2) := by decide +kernel
theorem dX8_swap_40 : decode cX8_swap 40 = .ok (.aload_n 0, 1) := by decide +kernel
theorem dX8_swap_41 : decode cX8_swap 41 = .ok (.getfield 7, 3) := by decide +kernel
theorem dX8_swap_44 : decode cX8_swap 44 = .ok (.if_icmp .ge 51, 3) := by decide +kernel
theorem dX8_swap_47 : decode cX8_swap 47 = .ok (.aload_n 0, 1) := by decide +kernel
theorem dX8_swap_48 : decode cX8_swap 48 = .ok (.iload_n 1, 1) := by decide +kernel
theorem dX8_swap_49 : decode cX8_swap 49 = .ok (.iload 4, 2) := by decide +kernel
theorem dX8_swap_51 : decode cX8_swap 51 = .ok (.invokevirtual 82, 3) := by decide +kernel
theorem dX8_swap_54 : decode cX8_swap 54 = .ok (.istore 5, 2) := by decide +kernel
theorem dX8_swap_56 : decode cX8_swap 56 = .ok (.aload_n 0, 1) := by decide +kernel
theorem dX8_swap_57 : decode cX8_swap 57 = .ok (.getfield 13, 3) := by decide +kernel
theorem dX8_swap_60 : decode cX8_swap 60 = .ok (.iload_n 1, 1) := by decide +kernel
theorem dX8_swap_61 : decode cX8_swap 61 = .ok (.bipush 7, 2) := by decide +kernel
theorem dX8_swap_63 : decode cX8_swap 63 = .ok (.imul, 1) := by decide +kernel
theorem dX8_swap_64 : decode cX8_swap 64 = .ok (.iload 4, 2) := by decide +kernel
theorem dX8_swap_66 : decode cX8_swap 66 = .ok (.iadd, 1) := by decide +kernel
theorem dX8_swap_67 : decode cX8_swap 67 = .ok (.aload_n 0, 1) := by decide +kernel
theorem dX8_swap_68 : decode cX8_swap 68 = .ok (.iload_n 2, 1) := by decide +kernel
theorem dX8_swap_69 : decode cX8_swap 69 = .ok (.iload 4, 2) := by decide +kernel
theorem dX8_swap_71 : decode cX8_swap 71 = .ok (.invokevirtual 82, 3) := by decide +kernel
theorem dX8_swap_74 : decode cX8_swap 74 = .ok (.iastore, 1) := by decide +kernel
theorem dX8_swap_75 : decode cX8_swap 75 = .ok (.aload_n 0, 1) := by decide +kernel
theorem dX8_swap_76 : decode cX8_swap 76 = .ok (.getfield 13, 3) := by decide +kernel
theorem dX8_swap_79 : decode cX8_swap 79 = .ok (.iload_n 2, 1) := by decide +kernel
theorem dX8_swap_80 : decode cX8_swap 80 = .ok (.bipush 7, 2) := by decide +kernel
theorem dX8_swap_82 : decode cX8_swap 82 = .ok (.imul, 1) := by decide +kernel
theorem dX8_swap_83 : decode cX8_swap 83 = .ok (.iload 4, 2) := by decide +kernel
theorem dX8_swap_85 : decode cX8_swap 85 = .ok (.iadd, 1) := by decide +kernel
theorem dX8_swap_86 : decode cX8_swap 86 = .ok (.iload 5, 2) := by decide +kernel
theorem dX8_swap_88 : decode cX8_swap 88 = .ok (.iastore, 1) := by decide +kernel
theorem dX8_swap_89 : decode cX8_swap 89 = .ok (.iinc 4 1, 3) := by decide +kernel
theorem dX8_swap_92 : decode cX8_swap 92 = .ok (.goto (-54), 3) := by decide +kernel
theorem dX8_swap_95 : decode cX8_swap 95 = .ok (.aload_n 0, 1) := by decide +kernel
theorem dX8_swap_96 : decode cX8_swap 96 = .ok (.iconst (-1), 1) := by decide +kernel
theorem dX8_swap_97 : decode cX8_swap 97 = .ok (.putfield 26, 3) := by decide +kernel
theorem dX8_swap_100 : decode cX8_swap 100 = .ok (.aload_n 0, 1) := by decide +kernel
theorem dX8_swap_101 : decode cX8_swap 101 = .ok (.iload_n 3, 1) := by decide +kernel
theorem dX8_swap_102 : decode cX8_swap 102 = .ok (.ifCond .eq 7, 3) := by decide +kernel
theorem dX8_swap_105 : decode cX8_swap 105 = .ok (.iconst 1, 1) := by decide +kernel
theorem dX8_swap_106 : decode cX8_swap 106 = .ok (.goto 4, 3) := by decide +kernel
theorem dX8_swap_109 : decode cX8_swap 109 = .ok (.iconst 0, 1) := by decide +kernel
theorem dX8_swap_110 : decode cX8_swap 110 = .ok (.invokevirtual 49, 3) := by decide +kernel
theorem dX8_swap_113 : decode cX8_swap 113 = .ok (.ireturn, 1) := by decide +kernel
theorem dX8_then_0 : decode cX8_then 0 = .ok (.aload_n 0, 1) := by decide +kernel
theorem dX8_then_1 : decode cX8_then 1 = .ok (.iload_n 1, 1) := by decide +kernel
theorem dX8_then_2 : decode cX8_then 2 = .ok (.invokestatic 108, 3) := by decide +kernel
theorem dX8_then_5 : decode cX8_then 5 = .ok (.ifCond .eq 17, 3) := by decide +kernel
theorem dX8_then_8 : decode cX8_then 8 = .ok (.iload_n 2, 1) := by decide +kernel
theorem dX8_then_9 : decode cX8_then 9 = .ok (.invokestatic 108, 3) := by decide +kernel
theorem dX8_then_12 : decode cX8_then 12 = .ok (.ifCond .eq 10, 3) := by decide +kernel
theorem dX8_then_15 : decode cX8_then 15 = .ok (.iload_n 3, 1) := by decide +kernel
theorem dX8_then_16 : decode cX8_then 16 = .ok (.invokestatic 108, 3) := by decide +kernel
theorem dX8_then_19 : decode cX8_then 19 = .ok (.ifCond .ne 7, 3) := by decide +kernel
theorem dX8_then_22 : decode cX8_then 22 = .ok (.iconst 1, 1) := by decide +kernel
theorem dX8_then_23 : decode cX8_then 23 = .ok (.goto 4, 3) := by decide +kernel
theorem dX8_then_26 : decode cX8_then 26 = .ok (.iconst 0, 1) := by decide +kernel
theorem dX8_then_27 : decode cX8_then 27 = .ok (.invokevirtual 105, 3) := by decide +kernel
theorem dX8_then_30 : decode cX8_then 30 = .ok (.ifCond .eq 5, 3) := by decide +kernel
theorem dX8_then_33 : decode cX8_then 33 = .ok (.iconst 0, 1) := by decide +kernel
theorem dX8_then_34 : decode cX8_then 34 = .ok (.ireturn, 1) := by decide +kernel
theorem dX8_then_35 : decode cX8_then 35 = .ok (.iconst 0, 1) := by decide +kernel
theorem dX8_then_36 : decode cX8_then 36 = .ok (.istore 4, 2) := by decide +kernel
theorem dX8_then_38 : decode cX8_then 38 = .ok (.iload 4, 2) := by decide +kernel
theorem dX8_then_40 : decode cX8_then 40 = .ok (.aload_n 0, 1) := by decide +kernel
theorem dX8_then_41 : decode cX8_then 41 = .ok (.getfield 7, 3) := by decide +kernel
theorem dX8_then_44 : decode cX8_then 44 = .ok (.if_icmp .ge 28, 3) := by decide +kernel
theorem dX8_then_47 : decode cX8_then 47 = .ok (.aload_n 0, 1) := by decide +kernel
theorem dX8_then_48 : decode cX8_then 48 = .ok (.getfield 20, 3) := by decide +kernel
theorem dX8_then_51 : decode cX8_then 51 = .ok (.iload 4, 2) := by decide +kernel
theorem dX8_then_53 : decode cX8_then 53 = .ok (.aload_n 0, 1) := by decide +kernel
theorem dX8_then_54 : decode cX8_then 54 = .ok (.iload_n 2, 1) := by decide +kernel
theorem dX8_then_55 : decode cX8_then 55 = .ok (.aload_n 0, 1) := by decide +kernel
theorem dX8_then_56 : decode cX8_then 56 = .ok (.iload_n 1, 1) := by decide +kernel
theorem dX8_then_57 : decode cX8_then 57 = .ok (.iload 4, 2) := by decide +kernel
theorem dX8_then_59 : decode cX8_then 59 = .ok (.invokevirtual 82, 3) := by decide +kernel
theorem dX8_then_62 : decode cX8_then 62 = .ok (.invokevirtual 82, 3) := by decide +kernel
theorem dX8_then_65 : decode cX8_then 65 = .ok (.iastore, 1) := by decide +kernel
theorem dX8_then_66 : decode cX8_then 66 = .ok (.iinc 4 1, 3) := by decide +kernel
theorem dX8_then_69 : decode cX8_then 69 = .ok (.goto (-31), 3) := by decide +kernel
theorem dX8_then_72 : decode cX8_then 72 = .ok (.aload_n 0, 1) := by decide +kernel
theorem dX8_then_73 : decode cX8_then 73 = .ok (.iload_n 3, 1) := by decide +kernel
theorem dX8_then_74 : decode cX8_then 74 = .ok (.aload_n 0, 1) := by decide +kernel
theorem dX8_then_75 : decode cX8_then 75 = .ok (.getfield 20, 3) := by decide +kernel
theorem dX8_then_78 : decode cX8_then 78 = .ok (.invokevirtual 111, 3) := by decide +kernel
theorem dX8_then_81 : decode cX8_then 81 = .ok (.ireturn, 1) := by decide +kernel
theorem dX8_undo_0 : decode cX8_undo 0 = .ok (.aload_n 0, 1) := by decide +kernel
theorem dX8_undo_1 : decode cX8_undo 1 = .ok (.iload_n 1, 1) := by decide +kernel
theorem dX8_undo_2 : decode cX8_undo 2 = .ok (.invokestatic 108, 3) := by decide +kernel
theorem dX8_undo_5 : decode cX8_undo 5 = .ok (.ifCond .eq 10, 3) := by decide +kernel
theorem dX8_undo_8 : decode cX8_undo 8 = .ok (.iload_n 2, 1) := by decide +kernel
theorem dX8_undo_9 : decode cX8_undo 9 = .ok (.invokestatic 108, 3) := by decide +kernel
theorem dX8_undo_12 : decode cX8_undo 12 = .ok (.ifCond .ne 7, 3) := by decide +kernel
theorem dX8_undo_15 : decode cX8_undo 15 = .ok (.iconst 1, 1) := by decide +kernel
theorem dX8_undo_16 : decode cX8_undo 16 = .ok (.goto 4, 3) := by decide +kernel
theorem dX8_undo_19 : decode cX8_undo 19 = .ok (.iconst 0, 1) := by decide +kernel
theorem dX8_undo_20 : decode cX8_undo 20 = .ok (.invokevirtual 105, 3) := by decide +kernel
theorem dX8_undo_23 : decode cX8_undo 23 = .ok (.ifCond .eq 5, 3) := by decide +kernel
theorem dX8_undo_26 : decode cX8_undo 26 = .ok (.iconst 0, 1) := by decide +kernel
theorem dX8_undo_27 : decode cX8_undo 27 = .ok (.ireturn, 1) := by decide +kernel
theorem dX8_undo_28 : decode cX8_undo 28 = .ok (.iconst 0, 1) := by decide +kernel
theorem dX8_undo_29 : decode cX8_undo 29 = .ok (.istore_n 3, 1) := by decide +kernel
theorem dX8_undo_30 : decode cX8_undo 30 = .ok (.iload_n 3, 1) := by decide +kernel
theorem dX8_undo_31 : decode cX8_undo 31 = .ok (.aload_n 0, 1) := by decide +kernel
theorem dX8_undo_32 : decode cX8_undo 32 = .ok (.getfield 7, 3) := by decide +kernel
theorem dX8_undo_35 : decode cX8_undo 35 = .ok (.if_icmp .ge 21, 3) := by decide +kernel
theorem dX8_undo_38 : decode cX8_undo 38 = .ok (.aload_n 0, 1) := by decide +kernel
theorem dX8_undo_39 : decode cX8_undo 39 = .ok (.getfield 20, 3) := by decide +kernel
theorem dX8_undo_42 : decode cX8_undo 42 = .ok (.aload_n 0, 1) := by decide +kernel
theorem dX8_undo_43 : decode cX8_undo 43 = .ok (.iload_n 1, 1) := by decide +kernel
theorem dX8_undo_44 : decode cX8_undo 44 = .ok (.iload_n 3, 1) := by decide +kernel
theorem dX8_undo_45 : decode cX8_undo 45 = .ok (.invokevirtual 82, 3) := by decide +kernel
theorem dX8_undo_48 : decode cX8_undo 48 = .ok (.iload_n 3, 1) := by decide +kernel
theorem dX8_undo_49 : decode cX8_undo 49 = .ok (.iastore, 1) := by decide +kernel
theorem dX8_undo_50 : decode cX8_undo 50 = .ok (.iinc 3 1, 3) := by decide +kernel
theorem dX8_undo_53 : decode cX8_undo 53 = .ok (.goto (-23), 3) := by decide +kernel
theorem dX8_undo_56 : decode cX8_undo 56 = .ok (.aload_n 0, 1) := by decide +kernel
theorem dX8_undo_57 : decode cX8_undo 57 = .ok (.iload_n 2, 1) := by decide +kernel
theorem dX8_undo_58 : decode cX8_undo 58 = .ok (.aload_n 0, 1) := by decide +kernel
theorem dX8_undo_59 : decode cX8_undo 59 = .ok (.getfield 20, 3) := by decide +kernel
theorem dX8_undo_62 : decode cX8_undo 62 = .ok (.invokevirtual 111, 3) := by decide +kernel
theorem dX8_undo_65 : decode cX8_undo 65 = .ok (.ireturn, 1) := by decide +kernel
theorem dX8_power_0 : decode cX8_power 0 = .ok (.aload_n 0, 1) := by decide +kernel
theorem dX8_power_1 : decode cX8_power 1 = .ok (.iload_n 1, 1) := by decide +kernel
theorem dX8_power_2 : decode cX8_power 2 = .ok (.invokestatic 108, 3) := by decide +kernel
theorem dX8_power_5 : decode cX8_power 5 = .ok (.ifCond .eq 10, 3) := by decide +kernel
theorem dX8_power_8 : decode cX8_power 8 = .ok (.iload_n 3, 1) := by decide +kernel
theorem dX8_power_9 : decode cX8_power 9 = .ok (.invokestatic 108, 3) := by decide +kernel
theorem dX8_power_12 : decode cX8_power 12 = .ok (.ifCond .ne 7, 3) := by decide +kernel
theorem dX8_power_15 : decode cX8_power 15 = .ok (.iconst 1, 1) := by decide +kernel
theorem dX8_power_16 : decode cX8_power 16 = .ok (.goto 4, 3) := by decide +kernel
theorem dX8_power_19 : decode cX8_power 19 = .ok (.iconst 0, 1) := by decide +kernel
theorem dX8_power_20 : decode cX8_power 20 = .ok (.iload_n 2, 1) := by decide +kernel
theorem dX8_power_21 : decode cX8_power 21 = .ok (.sipush (-1000), 3) := by decide +kernel
theorem dX8_power_24 : decode cX8_power 24 = .ok (.if_icmp .lt 10, 3) := by decide +kernel
theorem dX8_power_27 : decode cX8_power 27 = .ok (.iload_n 2, 1) := by decide +kernel
theorem dX8_power_28 : decode cX8_power 28 = .ok (.sipush 1000, 3) := by decide +kernel
theorem dX8_power_31 : decode cX8_power 31 = .ok (.if_icmp .le 7, 3) := by decide +kernel
theorem dX8_power_34 : decode cX8_power 34 = .ok (.iconst 1, 1) := by decide +kernel
theorem dX8_power_35 : decode cX8_power 35 = .ok (.goto 4, 3) := by decide +kernel
theorem dX8_power_38 : decode cX8_power 38 = .ok (.iconst 0, 1) := by decide +kernel
theorem dX8_power_39 : decode cX8_power 39 = .ok (.invokevirtual 35, 3) := by decide +kernel
theorem dX8_power_42 : decode cX8_power 42 = .ok (.ifCond .eq 5, 3) := by decide +kernel
theorem dX8_power_45 : decode cX8_power 45 = .ok (.iconst 0, 1) := by decide +kernel
theorem dX8_power_46 : decode cX8_power 46 = .ok (.ireturn, 1) := by decide +kernel
theorem dX8_power_47 : decode cX8_power 47 = .ok (.iconst 0, 1) := by decide +kernel
theorem dX8_power_48 : decode cX8_power 48 = .ok (.istore 4, 2) := by decide +kernel
theorem dX8_power_50 : decode cX8_power 50 = .ok (.iload 4, 2) := by decide +kernel
theorem dX8_power_52 : decode cX8_power 52 = .ok (.aload_n 0, 1) := by decide +kernel
theorem dX8_power_53 : decode cX8_power 53 = .ok (.getfield 7, 3) := by decide +kernel
theorem dX8_power_56 : decode cX8_power 56 = .ok (.if_icmp .ge 70, 3) := by decide +kernel
theorem dX8_power_59 : decode cX8_power 59 = .ok (.aload_n 0, 1) := by decide +kernel
theorem dX8_power_60 : decode cX8_power 60 = .ok (.aload_n 0, 1) := by decide +kernel
theorem dX8_power_61 : decode cX8_power 61 = .ok (.getfield 13, 3) := by decide +kernel
theorem dX8_power_64 : decode cX8_power 64 = .ok (.iload_n 1, 1) := by decide +kernel
theorem dX8_power_65 : decode cX8_power 65 = .ok (.bipush 7, 2) := by decide +kernel
theorem dX8_power_67 : decode cX8_power 67 = .ok (.imul, 1) := by decide +kernel
theorem dX8_power_68 : decode cX8_power 68 = .ok (.iload 4, 2) := by decide +kernel
theorem dX8_power_70 : decode cX8_power 70 = .ok (.invokevirtual 61, 3) := by decide +kernel
theorem dX8_power_73 : decode cX8_power 73 = .ok (.istore 5, 2) := by decide +kernel
theorem dX8_power_75 : decode cX8_power 75 = .ok (.iload 4, 2) := by decide +kernel
theorem dX8_power_77 : decode cX8_power 77 = .ok (.istore 6, 2) := by decide +kernel
theorem dX8_power_79 : decode cX8_power 79 = .ok (.iload_n 2, 1) := by decide +kernel
theorem dX8_power_80 : decode cX8_power 80 = .ok (.iload 5, 2) := by decide +kernel
theorem dX8_power_82 : decode cX8_power 82 = .ok (.irem, 1) := by decide +kernel
theorem dX8_power_83 : decode cX8_power 83 = .ok (.iload 5, 2) := by decide +kernel
theorem dX8_power_85 : decode cX8_power 85 = .ok (.iadd, 1) := by decide +kernel
theorem dX8_power_86 : decode cX8_power 86 = .ok (.iload 5, 2) := by decide +kernel
theorem dX8_power_88 : decode cX8_power 88 = .ok (.irem, 1) := by decide +kernel
theorem dX8_power_89 : decode cX8_power 89 = .ok (.istore 7, 2) := by decide +kernel
theorem dX8_power_91 : decode cX8_power 91 = .ok (.iload 7, 2) := by decide +kernel
theorem dX8_power_93 : decode cX8_power 93 = .ok (.ifCond .le 18, 3) := by decide +kernel
theorem dX8_power_96 : decode cX8_power 96 = .ok (.aload_n 0, 1) := by decide +kernel
theorem dX8_power_97 : decode cX8_power 97 = .ok (.iload_n 1, 1) := by decide +kernel
theorem dX8_power_98 : decode cX8_power 98 = .ok (.iload 6, 2) := by decide +kernel
theorem dX8_power_100 : decode cX8_power 100 = .ok (.invokevirtual 82, 3) := by decide +kernel
theorem dX8_power_103 : decode cX8_power 103 = .ok (.istore 6, 2) := by decide +kernel
theorem dX8_power_105 : decode cX8_power 105 = .ok (.iinc 7 (-1), 3) := by decide +kernel
theorem dX8_power_108 : decode cX8_power 108 = .ok (.goto (-17), 3) := by decide +kernel
theorem dX8_power_111 : decode cX8_power 111 = .ok (.aload_n 0, 1) := by decide +kernel
theorem dX8_power_112 : decode cX8_power 112 = .ok (.getfield 20, 3) := by decide +kernel
theorem dX8_power_115 : decode cX8_power 115 = .ok (.iload 4, 2) := by decide +kernel
theorem dX8_power_117 : decode cX8_power 117 = .ok (.iload 6, 2) := by decide +kernel
theorem dX8_power_119 : decode cX8_power 119 = .ok (.iastore, 1) := by decide +kernel
theorem dX8_power_120 : decode cX8_power 120 = .ok (.iinc 4 1, 3) := by decide +kernel
theorem dX8_power_123 : decode cX8_power 123 = .ok (.goto (-73), 3) := by decide +kernel
theorem dX8_power_126 : decode cX8_power 126 = .ok (.aload_n 0, 1) := by decide +kernel
theorem dX8_power_127 : decode cX8_power 127 = .ok (.iload_n 3, 1) := by decide +kernel
theorem dX8_power_128 : decode cX8_power 128 = .ok (.aload_n 0, 1) := by decide +kernel
theorem dX8_power_129 : decode cX8_power 129 = .ok (.getfield 20, 3) := by decide +kernel
theorem dX8_power_132 : decode cX8_power 132 = .ok (.invokevirtual 111, 3) := by decide +kernel
theorem dX8_power_135 : decode cX8_power 135 = .ok (.ireturn, 1) := by decide +kernel
theorem dX8_rename_0 : decode cX8_rename 0 = .ok (.aload_n 0, 1) := by decide +kernel
theorem dX8_rename_1 : decode cX8_rename 1 = .ok (.iload_n 1, 1) := by decide +kernel
theorem dX8_rename_2 : decode cX8_rename 2 = .ok (.invokestatic 108, 3) := by decide +kernel
theorem dX8_rename_5 : decode cX8_rename 5 = .ok (.ifCond .eq 17, 3) := by decide +kernel
theorem dX8_rename_8 : decode cX8_rename 8 = .ok (.iload_n 2, 1) := by decide +kernel
theorem dX8_rename_9 : decode cX8_rename 9 = .ok (.invokestatic 108, 3) := by decide +kernel
theorem dX8_rename_12 : decode cX8_rename 12 = .ok (.ifCond .eq 10, 3) := by decide +kernel
theorem dX8_rename_15 : decode cX8_rename 15 = .ok (.iload_n 3, 1) := by decide +kernel
theorem dX8_rename_16 : decode cX8_rename 16 = .ok (.invokestatic 108, 3) := by decide +kernel
theorem dX8_rename_19 : decode cX8_rename 19 = .ok (.ifCond .ne 7, 3) := by decide +kernel
theorem dX8_rename_22 : decode cX8_rename 22 = .ok (.iconst 1, 1) := by decide +kernel
theorem dX8_rename_23 : decode cX8_rename 23 = .ok (.goto 4, 3) := by decide +kernel
theorem dX8_rename_26 : decode cX8_rename 26 = .ok (.iconst 0, 1) := by decide +kernel
theorem dX8_rename_27 : decode cX8_rename 27 = .ok (.invokevirtual 105, 3) := by decide +kernel
theorem dX8_rename_30 : decode cX8_rename 30 = .ok (.ifCond .eq 5, 3) := by decide +kernel
theorem dX8_rename_33 : decode cX8_rename 33 = .ok (.iconst 0, 1) := by decide +kernel
theorem dX8_rename_34 : decode cX8_rename 34 = .ok (.ireturn, 1) := by decide +kernel
theorem dX8_rename_35 : decode cX8_rename 35 = .ok (.iconst 0, 1) := by decide +kernel
theorem dX8_rename_36 : decode cX8_rename 36 = .ok (.istore 4, 2) := by decide +kernel
theorem dX8_rename_38 : decode cX8_rename 38 = .ok (.iload 4, 2) := by decide +kernel
theorem dX8_rename_40 : decode cX8_rename 40 = .ok (.aload_n 0, 1) := by decide +kernel
theorem dX8_rename_41 : decode cX8_rename 41 = .ok (.getfield 7, 3) := by decide +kernel
theorem dX8_rename_44 : decode cX8_rename 44 = .ok (.if_icmp .ge 33, 3) := by decide +kernel
theorem dX8_rename_47 : decode cX8_rename 47 = .ok (.aload_n 0, 1) := by decide +kernel
theorem dX8_rename_48 : decode cX8_rename 48 = .ok (.getfield 20, 3) := by decide +kernel
theorem dX8_rename_51 : decode cX8_rename 51 = .ok (.aload_n 0, 1) := by decide +kernel
theorem dX8_rename_52 : decode cX8_rename 52 = .ok (.iload_n 2, 1) := by decide +kernel
theorem dX8_rename_53 : decode cX8_rename 53 = .ok (.iload 4, 2) := by decide +kernel
theorem dX8_rename_55 : decode cX8_rename 55 = .ok (.invokevirtual 82, 3) := by decide +kernel
theorem dX8_rename_58 : decode cX8_rename 58 = .ok (.aload_n 0, 1) := by decide +kernel
theorem dX8_rename_59 : decode cX8_rename 59 = .ok (.iload_n 2, 1) := by decide +kernel
theorem dX8_rename_60 : decode cX8_rename 60 = .ok (.aload_n 0, 1) := by decide +kernel
theorem dX8_rename_61 : decode cX8_rename 61 = .ok (.iload_n 1, 1) := by decide +kernel
theorem dX8_rename_62 : decode cX8_rename 62 = .ok (.iload 4, 2) := by decide +kernel
theorem dX8_rename_64 : decode cX8_rename 64 = .ok (.invokevirtual 82, 3) := by decide +kernel
theorem dX8_rename_67 : decode cX8_rename 67 = .ok (.invokevirtual 82, 3) := by decide +kernel
theorem dX8_rename_70 : decode cX8_rename 70 = .ok (.iastore, 1) := by decide +kernel
theorem dX8_rename_71 : decode cX8_rename 71 = .ok (.iinc 4 1, 3) := by decide +kernel
theorem dX8_rename_74 : decode cX8_rename 74 = .ok (.goto (-36), 3) := by decide +kernel
theorem dX8_rename_77 : decode cX8_rename 77 = .ok (.aload_n 0, 1) := by decide +kernel
theorem dX8_rename_78 : decode cX8_rename 78 = .ok (.iload_n 3, 1) := by decide +kernel
theorem dX8_rename_79 : decode cX8_rename 79 = .ok (.aload_n 0, 1) := by decide +kernel
theorem dX8_rename_80 : decode cX8_rename 80 = .ok (.getfield 20, 3) := by decide +kernel
theorem dX8_rename_83 : decode cX8_rename 83 = .ok (.invokevirtual 111, 3) := by decide +kernel
theorem dX8_rename_86 : decode cX8_rename 86 = .ok (.ireturn, 1) := by decide +kernel
theorem dX8_match_0 : decode cX8_match 0 = .ok (.aload_n 0, 1) := by decide +kernel
theorem dX8_match_1 : decode cX8_match 1 = .ok (.iload_n 1, 1) := by decide +kernel
theorem dX8_match_2 : decode cX8_match 2 = .ok (.invokestatic 108, 3) := by decide +kernel
theorem dX8_match_5 : decode cX8_match 5 = .ok (.ifCond .eq 17, 3) := by decide +kernel
theorem dX8_match_8 : decode cX8_match 8 = .ok (.iload_n 2, 1) := by decide +kernel
theorem dX8_match_9 : decode cX8_match 9 = .ok (.invokestatic 108, 3) := by decide +kernel
theorem dX8_match_12 : decode cX8_match 12 = .ok (.ifCond .eq 10, 3) := by decide +kernel
theorem dX8_match_15 : decode cX8_match 15 = .ok (.iload_n 3, 1) := by decide +kernel
theorem dX8_match_16 : decode cX8_match 16 = .ok (.invokestatic 108, 3) := by decide +kernel
theorem dX8_match_19 : decode cX8_match 19 = .ok (.ifCond .ne 7, 3) := by decide +kernel
theorem dX8_match_22 : decode cX8_match 22 = .ok (.iconst 1, 1) := by decide +kernel
theorem dX8_match_23 : decode cX8_match 23 = .ok (.goto 4, 3) := by decide +kernel
theorem dX8_match_26 : decode cX8_match 26 = .ok (.iconst 0, 1) := by decide +kernel
theorem dX8_match_27 : decode cX8_match 27 = .ok (.invokevirtual 105, 3) := by decide +kernel
theorem dX8_match_30 : decode cX8_match 30 = .ok (.ifCond .eq 5, 3) := by decide +kernel
theorem dX8_match_33 : decode cX8_match 33 = .ok (.iconst 0, 1) := by decide +kernel
theorem dX8_match_34 : decode cX8_match 34 = .ok (.ireturn, 1) := by decide +kernel
theorem dX8_match_35 : decode cX8_match 35 = .ok (.iconst 0, 1) := by decide +kernel
theorem dX8_match_36 : decode cX8_match 36 = .ok (.istore 4, 2) := by decide +kernel
theorem dX8_match_38 : decode cX8_match 38 = .ok (.iload 4, 2) := by decide +kernel
theorem dX8_match_40 : decode cX8_match 40 = .ok (.aload_n 0, 1) := by decide +kernel
theorem dX8_match_41 : decode cX8_match 41 = .ok (.invokevirtual 65, 3) := by decide +kernel
theorem dX8_match_44 : decode cX8_match 44 = .ok (.if_icmp .ge 94, 3) := by decide +kernel
theorem dX8_match_47 : decode cX8_match 47 = .ok (.aload_n 0, 1) := by decide +kernel
theorem dX8_match_48 : decode cX8_match 48 = .ok (.iload 4, 2) := by decide +kernel
theorem dX8_match_50 : decode cX8_match 50 = .ok (.aload_n 0, 1) := by decide +kernel
theorem dX8_match_51 : decode cX8_match 51 = .ok (.getfield 17, 3) := by decide +kernel
theorem dX8_match_54 : decode cX8_match 54 = .ok (.invokevirtual 78, 3) := by decide +kernel
theorem dX8_match_57 : decode cX8_match 57 = .ok (.iconst 1, 1) := by decide +kernel
theorem dX8_match_58 : decode cX8_match 58 = .ok (.istore 5, 2) := by decide +kernel
theorem dX8_match_60 : decode cX8_match 60 = .ok (.iconst 0, 1) := by decide +kernel
theorem dX8_match_61 : decode cX8_match 61 = .ok (.istore 6, 2) := by decide +kernel
theorem dX8_match_63 : decode cX8_match 63 = .ok (.iload 6, 2) := by decide +kernel
theorem dX8_match_65 : decode cX8_match 65 = .ok (.aload_n 0, 1) := by decide +kernel
theorem dX8_match_66 : decode cX8_match 66 = .ok (.getfield 7, 3) := by decide +kernel
theorem dX8_match_69 : decode cX8_match 69 = .ok (.if_icmp .ge 48, 3) := by decide +kernel
theorem dX8_match_72 : decode cX8_match 72 = .ok (.iload 5, 2) := by decide +kernel
theorem dX8_match_74 : decode cX8_match 74 = .ok (.ifCond .eq 43, 3) := by decide +kernel
theorem dX8_match_77 : decode cX8_match 77 = .ok (.aload_n 0, 1) := by decide +kernel
theorem dX8_match_78 : decode cX8_match 78 = .ok (.getfield 17, 3) := by decide +kernel
theorem dX8_match_81 : decode cX8_match 81 = .ok (.aload_n 0, 1) := by decide +kernel
theorem dX8_match_82 : decode cX8_match 82 = .ok (.iload_n 1, 1) := by decide +kernel
theorem dX8_match_83 : decode cX8_match 83 = .ok (.iload 6, 2) := by decide +kernel
theorem dX8_match_85 : decode cX8_match 85 = .ok (.invokevirtual 82, 3) := by decide +kernel
theorem dX8_match_88 : decode cX8_match 88 = .ok (.iaload, 1) := by decide +kernel
theorem dX8_match_89 : decode cX8_match 89 = .ok (.aload_n 0, 1) := by decide +kernel
theorem dX8_match_90 : decode cX8_match 90 = .ok (.iload_n 2, 1) := by decide +kernel
theorem dX8_match_91 : decode cX8_match 91 = .ok (.aload_n 0, 1) := by decide +kernel
theorem dX8_match_92 : decode cX8_match 92 = .ok (.getfield 17, 3) := by decide +kernel
theorem dX8_match_95 : decode cX8_match 95 = .ok (.iload 6, 2) := by decide +kernel
theorem dX8_match_97 : decode cX8_match 97 = .ok (.iaload, 1) := by decide +kernel
theorem dX8_match_98 : decode cX8_match 98 = .ok (.invokevirtual 82, 3) := by decide +kernel
theorem dX8_match_101 : decode cX8_match 101 = .ok (.if_icmp .ne 7, 3) := by decide +kernel
theorem dX8_match_104 : decode cX8_match 104 = .ok (.iconst 1, 1) := by decide +kernel
theorem dX8_match_105 : decode cX8_match 105 = .ok (.goto 4, 3) := by decide +kernel
theorem dX8_match_108 : decode cX8_match 108 = .ok (.iconst 0, 1) := by decide +kernel
theorem dX8_match_109 : decode cX8_match 109 = .ok (.istore 5, 2) := by decide +kernel
theorem dX8_match_111 : decode cX8_match 111 = .ok (.iinc 6 1, 3) := by decide +kernel
theorem dX8_match_114 : decode cX8_match 114 = .ok (.goto (-51), 3) := by decide +kernel
theorem dX8_match_117 : decode cX8_match 117 = .ok (.iload 5, 2) := by decide +kernel
theorem dX8_match_119 : decode cX8_match 119 = .ok (.ifCond .eq 13, 3) := by decide +kernel
theorem dX8_match_122 : decode cX8_match 122 = .ok (.aload_n 0, 1) := by decide +kernel
theorem dX8_match_123 : decode cX8_match 123 = .ok (.iload_n 3, 1) := by decide +kernel
theorem dX8_match_124 : decode cX8_match 124 = .ok (.aload_n 0, 1) := by decide +kernel
theorem dX8_match_125 : decode cX8_match 125 = .ok (.getfield 17, 3) := by decide +kernel
theorem dX8_match_128 : decode cX8_match 128 = .ok (.invokevirtual 111, 3) := by decide +kernel
theorem dX8_match_131 : decode cX8_match 131 = .ok (.ireturn, 1) := by decide +kernel
theorem dX8_match_132 : decode cX8_match 132 = .ok (.iinc 4 1, 3) := by decide +kernel
theorem dX8_match_135 : decode cX8_match 135 = .ok (.goto (-97), 3) := by decide +kernel
theorem dX8_match_138 : decode cX8_match 138 = .ok (.aload_n 0, 1) := by decide +kernel
theorem dX8_match_139 : decode cX8_match 139 = .ok (.invokevirtual 131, 3) := by decide +kernel
theorem dX8_match_142 : decode cX8_match 142 = .ok (.ireturn, 1) := by decide +kernel
theorem dX8_nth_0 : decode cX8_nth 0 = .ok (.aload_n 0, 1) := by decide +kernel
theorem dX8_nth_1 : decode cX8_nth 1 = .ok (.iload_n 2, 1) := by decide +kernel
theorem dX8_nth_2 : decode cX8_nth 2 = .ok (.invokestatic 108, 3) := by decide +kernel
theorem dX8_nth_5 : decode cX8_nth 5 = .ok (.ifCond .eq 11, 3) := by decide +kernel
theorem dX8_nth_8 : decode cX8_nth 8 = .ok (.iload 4, 2) := by decide +kernel
theorem dX8_nth_10 : decode cX8_nth 10 = .ok (.invokestatic 108, 3) := by decide +kernel
theorem dX8_nth_13 : decode cX8_nth 13 = .ok (.ifCond .ne 7, 3) := by decide +kernel
theorem dX8_nth_16 : decode cX8_nth 16 = .ok (.iconst 1, 1) := by decide +kernel
theorem dX8_nth_17 : decode cX8_nth 17 = .ok (.goto 4, 3) := by decide +kernel
theorem dX8_nth_20 : decode cX8_nth 20 = .ok (.iconst 0, 1) := by decide +kernel
theorem dX8_nth_21 : decode cX8_nth 21 = .ok (.iload_n 1, 1) := by decide +kernel
theorem dX8_nth_22 : decode cX8_nth 22 = .ok (.invokestatic 134, 3) := by decide +kernel
theorem dX8_nth_25 : decode cX8_nth 25 = .ok (.ifCond .eq 7, 3) := by decide +kernel
theorem dX8_nth_28 : decode cX8_nth 28 = .ok (.iload_n 3, 1) := by decide +kernel
theorem dX8_nth_29 : decode cX8_nth 29 = .ok (.ifCond .ge 7, 3) := by decide +kernel
theorem dX8_nth_32 : decode cX8_nth 32 = .ok (.iconst 1, 1) := by decide +kernel
theorem dX8_nth_33 : decode cX8_nth 33 = .ok (.goto 4, 3) := by decide +kernel
theorem dX8_nth_36 : decode cX8_nth 36 = .ok (.iconst 0, 1) := by decide +kernel
theorem dX8_nth_37 : decode cX8_nth 37 = .ok (.invokevirtual 35, 3) := by decide +kernel
theorem dX8_nth_40 : decode cX8_nth 40 = .ok (.ifCond .eq 5, 3) := by decide +kernel
theorem dX8_nth_43 : decode cX8_nth 43 = .ok (.iconst 0, 1) := by decide +kernel
theorem dX8_nth_44 : decode cX8_nth 44 = .ok (.ireturn, 1) := by decide +kernel
theorem dX8_nth_45 : decode cX8_nth 45 = .ok (.aload_n 0, 1) := by decide +kernel
theorem dX8_nth_46 : decode cX8_nth 46 = .ok (.iload_n 1, 1) := by decide +kernel
theorem dX8_nth_47 : decode cX8_nth 47 = .ok (.invokevirtual 99, 3) := by decide +kernel
theorem dX8_nth_50 : decode cX8_nth 50 = .ok (.iload_n 3, 1) := by decide +kernel
theorem dX8_nth_51 : decode cX8_nth 51 = .ok (.aload_n 0, 1) := by decide +kernel
theorem dX8_nth_52 : decode cX8_nth 52 = .ok (.invokevirtual 102, 3) := by decide +kernel
theorem dX8_nth_55 : decode cX8_nth 55 = .ok (.if_icmp .lt 8, 3) := by decide +kernel
theorem dX8_nth_58 : decode cX8_nth 58 = .ok (.aload_n 0, 1) := by decide +kernel
theorem dX8_nth_59 : decode cX8_nth 59 = .ok (.invokevirtual 131, 3) := by decide +kernel
theorem dX8_nth_62 : decode cX8_nth 62 = .ok (.ireturn, 1) := by decide +kernel
theorem dX8_nth_63 : decode cX8_nth 63 = .ok (.bipush 7, 2) := by decide +kernel
theorem dX8_nth_65 : decode cX8_nth 65 = .ok (.newarray .int, 2) := by decide +kernel
theorem dX8_nth_67 : decode cX8_nth 67 = .ok (.astore 5, 2) := by decide +kernel
theorem dX8_nth_69 : decode cX8_nth 69 = .ok (.bipush 7, 2) := by decide +kernel
theorem dX8_nth_71 : decode cX8_nth 71 = .ok (.newarray .int, 2) := by decide +kernel
theorem dX8_nth_73 : decode cX8_nth 73 = .ok (.astore 6, 2) := by decide +kernel
theorem dX8_nth_75 : decode cX8_nth 75 = .ok (.iload_n 3, 1) := by decide +kernel
theorem dX8_nth_76 : decode cX8_nth 76 = .ok (.istore 7, 2) := by decide +kernel
theorem dX8_nth_78 : decode cX8_nth 78 = .ok (.iconst 0, 1) := by decide +kernel
theorem dX8_nth_79 : decode cX8_nth 79 = .ok (.istore 8, 2) := by decide +kernel
theorem dX8_nth_81 : decode cX8_nth 81 = .ok (.iload 8, 2) := by decide +kernel
theorem dX8_nth_83 : decode cX8_nth 83 = .ok (.aload_n 0, 1) := by decide +kernel
theorem dX8_nth_84 : decode cX8_nth 84 = .ok (.getfield 7, 3) := by decide +kernel
theorem dX8_nth_87 : decode cX8_nth 87 = .ok (.if_icmp .ge 127, 3) := by decide +kernel
theorem dX8_nth_90 : decode cX8_nth 90 = .ok (.iconst 0, 1) := by decide +kernel
theorem dX8_nth_91 : decode cX8_nth 91 = .ok (.istore 9, 2) := by decide +kernel
theorem dX8_nth_93 : decode cX8_nth 93 = .ok (.iload 9, 2) := by decide +kernel
theorem dX8_nth_95 : decode cX8_nth 95 = .ok (.aload_n 0, 1) := by decide +kernel
theorem dX8_nth_96 : decode cX8_nth 96 = .ok (.getfield 7, 3) := by decide +kernel
theorem dX8_nth_99 : decode cX8_nth 99 = .ok (.if_icmp .ge 15, 3) := by decide +kernel
theorem dX8_nth_102 : decode cX8_nth 102 = .ok (.aload 5, 2) := by decide +kernel
theorem dX8_nth_104 : decode cX8_nth 104 = .ok (.iload 9, 2) := by decide +kernel
theorem dX8_nth_106 : decode cX8_nth 106 = .ok (.iconst 0, 1) := by decide +kernel
theorem dX8_nth_107 : decode cX8_nth 107 = .ok (.iastore, 1) := by decide +kernel
theorem dX8_nth_108 : decode cX8_nth 108 = .ok (.iinc 9 1, 3) := by decide +kernel
theorem dX8_nth_111 : decode cX8_nth 111 = .ok (.goto (-18), 3) := by decide +kernel
theorem dX8_nth_114 : decode cX8_nth 114 = .ok (.aload_n 0, 1) := by decide +kernel
theorem dX8_nth_115 : decode cX8_nth 115 = .ok (.iconst 0, 1) := by decide +kernel
theorem dX8_nth_116 : decode cX8_nth 116 = .ok (.invokevirtual 137, 3) := by decide +kernel
theorem dX8_nth_119 : decode cX8_nth 119 = .ok (.istore 9, 2) := by decide +kernel
theorem dX8_nth_121 : decode cX8_nth 121 = .ok (.iload 9, 2) := by decide +kernel
theorem dX8_nth_123 : decode cX8_nth 123 = .ok (.ifCond .lt 49, 3) := by decide +kernel
theorem dX8_nth_126 : decode cX8_nth 126 = .ok (.aload_n 0, 1) := by decide +kernel
theorem dX8_nth_127 : decode cX8_nth 127 = .ok (.iload 9, 2) := by decide +kernel
theorem dX8_nth_129 : decode cX8_nth 129 = .ok (.iload_n 2, 1) := by decide +kernel
theorem dX8_nth_130 : decode cX8_nth 130 = .ok (.iload 8, 2) := by decide +kernel
theorem dX8_nth_132 : decode cX8_nth 132 = .ok (.aload 6, 2) := by decide +kernel
theorem dX8_nth_134 : decode cX8_nth 134 = .ok (.invokevirtual 140, 3) := by decide +kernel
theorem dX8_nth_137 : decode cX8_nth 137 = .ok (.ifCond .eq 22, 3) := by decide +kernel
theorem dX8_nth_140 : decode cX8_nth 140 = .ok (.aload 5, 2) := by decide +kernel
theorem dX8_nth_142 : decode cX8_nth 142 = .ok (.aload_n 0, 1) := by decide +kernel
theorem dX8_nth_143 : decode cX8_nth 143 = .ok (.getfield 17, 3) := by decide +kernel
theorem dX8_nth_146 : decode cX8_nth 146 = .ok (.aload_n 0, 1) := by decide +kernel
theorem dX8_nth_147 : decode cX8_nth 147 = .ok (.iload_n 2, 1) := by decide +kernel
theorem dX8_nth_148 : decode cX8_nth 148 = .ok (.iload 8, 2) := by decide +kernel
theorem dX8_nth_150 : decode cX8_nth 150 = .ok (.invokevirtual 82, 3) := by decide +kernel
theorem dX8_nth_153 : decode cX8_nth 153 = .ok (.iaload, 1) := by decide +kernel
theorem dX8_nth_154 : decode cX8_nth 154 = .ok (.dup2, 1) := by decide +kernel
theorem dX8_nth_155 : decode cX8_nth 155 = .ok (.iaload, 1) := by decide +kernel
theorem dX8_nth_156 : decode cX8_nth 156 = .ok (.iconst 1, 1) := by decide +kernel
theorem dX8_nth_157 : decode cX8_nth 157 = .ok (.iadd, 1) := by decide +kernel
theorem dX8_nth_158 : decode cX8_nth 158 = .ok (.iastore, 1) := by decide +kernel
theorem dX8_nth_159 : decode cX8_nth 159 = .ok (.aload_n 0, 1) := by decide +kernel
theorem dX8_nth_160 : decode cX8_nth 160 = .ok (.iload 9, 2) := by decide +kernel
theorem dX8_nth_162 : decode cX8_nth 162 = .ok (.iconst 1, 1) := by decide +kernel
theorem dX8_nth_163 : decode cX8_nth 163 = .ok (.iadd, 1) := by decide +kernel
theorem dX8_nth_164 : decode cX8_nth 164 = .ok (.invokevirtual 137, 3) := by decide +kernel
theorem dX8_nth_167 : decode cX8_nth 167 = .ok (.istore 9, 2) := by decide +kernel
theorem dX8_nth_169 : decode cX8_nth 169 = .ok (.goto (-48), 3) := by decide +kernel
theorem dX8_nth_172 : decode cX8_nth 172 = .ok (.iconst 0, 1) := by decide +kernel
theorem dX8_nth_173 : decode cX8_nth 173 = .ok (.istore 9, 2) := by decide +kernel
theorem dX8_nth_175 : decode cX8_nth 175 = .ok (.iload 7, 2) := by decide +kernel
theorem dX8_nth_177 : decode cX8_nth 177 = .ok (.aload 5, 2) := by decide +kernel
theorem dX8_nth_179 : decode cX8_nth 179 = .ok (.iload 9, 2) := by decide +kernel
theorem dX8_nth_181 : decode cX8_nth 181 = .ok (.iaload, 1) := by decide +kernel
theorem dX8_nth_182 : decode cX8_nth 182 = .ok (.if_icmp .lt 19, 3) := by decide +kernel
theorem dX8_nth_185 : decode cX8_nth 185 = .ok (.iload 7, 2) := by decide +kernel
theorem dX8_nth_187 : decode cX8_nth 187 = .ok (.aload 5, 2) := by decide +kernel
theorem dX8_nth_189 : decode cX8_nth 189 = .ok (.iload 9, 2) := by decide +kernel
theorem dX8_nth_191 : decode cX8_nth 191 = .ok (.iaload, 1) := by decide +kernel
theorem dX8_nth_192 : decode cX8_nth 192 = .ok (.isub, 1) := by decide +kernel
theorem dX8_nth_193 : decode cX8_nth 193 = .ok (.istore 7, 2) := by decide +kernel
theorem dX8_nth_195 : decode cX8_nth 195 = .ok (.iinc 9 1, 3) := by decide +kernel
theorem dX8_nth_198 : decode cX8_nth 198 = .ok (.goto (-23), 3) := by decide +kernel
theorem dX8_nth_201 : decode cX8_nth 201 = .ok (.aload 6, 2) := by decide +kernel
theorem dX8_nth_203 : decode cX8_nth 203 = .ok (.iload 8, 2) := by decide +kernel
theorem dX8_nth_205 : decode cX8_nth 205 = .ok (.iload 9, 2) := by decide +kernel
theorem dX8_nth_207 : decode cX8_nth 207 = .ok (.iastore, 1) := by decide +kernel
theorem dX8_nth_208 : decode cX8_nth 208 = .ok (.iinc 8 1, 3) := by decide +kernel
theorem dX8_nth_211 : decode cX8_nth 211 = .ok (.goto (-130), 3) := by decide +kernel
theorem dX8_nth_214 : decode cX8_nth 214 = .ok (.iconst 0, 1) := by decide +kernel
theorem dX8_nth_215 : decode cX8_nth 215 = .ok (.istore 8, 2) := by decide +kernel
theorem dX8_nth_217 : decode cX8_nth 217 = .ok (.iload 8, 2) := by decide +kernel
theorem dX8_nth_219 : decode cX8_nth 219 = .ok (.aload_n 0, 1) := by decide +kernel
theorem dX8_nth_220 : decode cX8_nth 220 = .ok (.getfield 7, 3) := by decide +kernel
theorem dX8_nth_223 : decode cX8_nth 223 = .ok (.if_icmp .ge 26, 3) := by decide +kernel
theorem dX8_nth_226 : decode cX8_nth 226 = .ok (.aload_n 0, 1) := by decide +kernel
theorem dX8_nth_227 : decode cX8_nth 227 = .ok (.getfield 20, 3) := by decide +kernel
theorem dX8_nth_230 : decode cX8_nth 230 = .ok (.aload_n 0, 1) := by decide +kernel
theorem dX8_nth_231 : decode cX8_nth 231 = .ok (.iload_n 2, 1) := by decide +kernel
theorem dX8_nth_232 : decode cX8_nth 232 = .ok (.iload 8, 2) := by decide +kernel
theorem dX8_nth_234 : decode cX8_nth 234 = .ok (.invokevirtual 82, 3) := by decide +kernel
theorem dX8_nth_237 : decode cX8_nth 237 = .ok (.aload 6, 2) := by decide +kernel
theorem dX8_nth_239 : decode cX8_nth 239 = .ok (.iload 8, 2) := by decide +kernel
theorem dX8_nth_241 : decode cX8_nth 241 = .ok (.iaload, 1) := by decide +kernel
theorem dX8_nth_242 : decode cX8_nth 242 = .ok (.iastore, 1) := by decide +kernel
theorem dX8_nth_243 : decode cX8_nth 243 = .ok (.iinc 8 1, 3) := by decide +kernel
theorem dX8_nth_246 : decode cX8_nth 246 = .ok (.goto (-29), 3) := by decide +kernel
theorem dX8_nth_249 : decode cX8_nth 249 = .ok (.aload_n 0, 1) := by decide +kernel
theorem dX8_nth_250 : decode cX8_nth 250 = .ok (.iload 4, 2) := by decide +kernel
theorem dX8_nth_252 : decode cX8_nth 252 = .ok (.aload_n 0, 1) := by decide +kernel
theorem dX8_nth_253 : decode cX8_nth 253 = .ok (.getfield 20, 3) := by decide +kernel
theorem dX8_nth_256 : decode cX8_nth 256 = .ok (.invokevirtual 111, 3) := by decide +kernel
theorem dX8_nth_259 : decode cX8_nth 259 = .ok (.ireturn, 1) := by decide +kernel
theorem dX8_isSuch_0 : decode cX8_isSuch 0 = .ok (.aload_n 0, 1) := by decide +kernel
theorem dX8_isSuch_1 : decode cX8_isSuch 1 = .ok (.iload_n 1, 1) := by decide +kernel
theorem dX8_isSuch_2 : decode cX8_isSuch 2 = .ok (.aload_n 0, 1) := by decide +kernel
theorem dX8_isSuch_3 : decode cX8_isSuch 3 = .ok (.getfield 17, 3) := by decide +kernel
theorem dX8_isSuch_6 : decode cX8_isSuch 6 = .ok (.invokevirtual 78, 3) := by decide +kernel
theorem dX8_isSuch_9 : decode cX8_isSuch 9 = .ok (.iconst 0, 1) := by decide +kernel
theorem dX8_isSuch_10 : decode cX8_isSuch 10 = .ok (.istore 5, 2) := by decide +kernel
theorem dX8_isSuch_12 : decode cX8_isSuch 12 = .ok (.iload 5, 2) := by decide +kernel
theorem dX8_isSuch_14 : decode cX8_isSuch 14 = .ok (.iload_n 3, 1) := by decide +kernel
theorem dX8_isSuch_15 : decode cX8_isSuch 15 = .ok (.if_icmp .ge 31, 3) := by decide +kernel
theorem dX8_isSuch_18 : decode cX8_isSuch 18 = .ok (.aload_n 0, 1) := by decide +kernel
theorem dX8_isSuch_19 : decode cX8_isSuch 19 = .ok (.getfield 17, 3) := by decide +kernel
theorem dX8_isSuch_22 : decode cX8_isSuch 22 = .ok (.aload_n 0, 1) := by decide +kernel
theorem dX8_isSuch_23 : decode cX8_isSuch 23 = .ok (.iload_n 2, 1) := by decide +kernel
theorem dX8_isSuch_24 : decode cX8_isSuch 24 = .ok (.iload 5, 2) := by decide +kernel
theorem dX8_isSuch_26 : decode cX8_isSuch 26 = .ok (.invokevirtual 82, 3) := by decide +kernel
theorem dX8_isSuch_29 : decode cX8_isSuch 29 = .ok (.iaload, 1) := by decide +kernel
theorem dX8_isSuch_30 : decode cX8_isSuch 30 = .ok (.aload 4, 2) := by decide +kernel
theorem dX8_isSuch_32 : decode cX8_isSuch 32 = .ok (.iload 5, 2) := by decide +kernel
theorem dX8_isSuch_34 : decode cX8_isSuch 34 = .ok (.iaload, 1) := by decide +kernel
theorem dX8_isSuch_35 : decode cX8_isSuch 35 = .ok (.if_icmp .eq 5, 3) := by decide +kernel
theorem dX8_isSuch_38 : decode cX8_isSuch 38 = .ok (.iconst 0, 1) := by decide +kernel
theorem dX8_isSuch_39 : decode cX8_isSuch 39 = .ok (.ireturn, 1) := by decide +kernel
theorem dX8_isSuch_40 : decode cX8_isSuch 40 = .ok (.iinc 5 1, 3) := by decide +kernel
theorem dX8_isSuch_43 : decode cX8_isSuch 43 = .ok (.goto (-31), 3) := by decide +kernel
theorem dX8_isSuch_46 : decode cX8_isSuch 46 = .ok (.iconst 1, 1) := by decide +kernel
theorem dX8_isSuch_47 : decode cX8_isSuch 47 = .ok (.ireturn, 1) := by decide +kernel
theorem dX8_count_0 : decode cX8_count 0 = .ok (.aload_n 0, 1) := by decide +kernel
theorem dX8_count_1 : decode cX8_count 1 = .ok (.iconst 0, 1) := by decide +kernel
theorem dX8_count_2 : decode cX8_count 2 = .ok (.putfield 32, 3) := by decide +kernel
theorem dX8_count_5 : decode cX8_count 5 = .ok (.aload_n 0, 1) := by decide +kernel
theorem dX8_count_6 : decode cX8_count 6 = .ok (.getfield 7, 3) := by decide +kernel
theorem dX8_count_9 : decode cX8_count 9 = .ok (.ireturn, 1) := by decide +kernel
theorem dX8_number_0 : decode cX8_number 0 = .ok (.aload_n 0, 1) := by decide +kernel
theorem dX8_number_1 : decode cX8_number 1 = .ok (.iload_n 1, 1) := by decide +kernel
theorem dX8_number_2 : decode cX8_number 2 = .ok (.invokestatic 108, 3) := by decide +kernel
theorem dX8_number_5 : decode cX8_number 5 = .ok (.ifCond .ne 7, 3) := by decide +kernel
theorem dX8_number_8 : decode cX8_number 8 = .ok (.iconst 1, 1) := by decide +kernel
theorem dX8_number_9 : decode cX8_number 9 = .ok (.goto 4, 3) := by decide +kernel
theorem dX8_number_12 : decode cX8_number 12 = .ok (.iconst 0, 1) := by decide +kernel
theorem dX8_number_13 : decode cX8_number 13 = .ok (.invokevirtual 105, 3) := by decide +kernel
theorem dX8_number_16 : decode cX8_number 16 = .ok (.ifCond .eq 7, 3) := by decide +kernel
theorem dX8_number_19 : decode cX8_number 19 = .ok (.iconst 0, 1) := by decide +kernel
theorem dX8_number_20 : decode cX8_number 20 = .ok (.goto 15, 3) := by decide +kernel
theorem dX8_number_23 : decode cX8_number 23 = .ok (.aload_n 0, 1) := by decide +kernel
theorem dX8_number_24 : decode cX8_number 24 = .ok (.aload_n 0, 1) := by decide +kernel
theorem dX8_number_25 : decode cX8_number 25 = .ok (.getfield 13, 3) := by decide +kernel
theorem dX8_number_28 : decode cX8_number 28 = .ok (.iload_n 1, 1) := by decide +kernel
theorem dX8_number_29 : decode cX8_number 29 = .ok (.bipush 7, 2) := by decide +kernel
theorem dX8_number_31 : decode cX8_number 31 = .ok (.imul, 1) := by decide +kernel
theorem dX8_number_32 : decode cX8_number 32 = .ok (.invokevirtual 45, 3) := by decide +kernel
theorem dX8_number_35 : decode cX8_number 35 = .ok (.ireturn, 1) := by decide +kernel
theorem dX8_goes_0 : decode cX8_goes 0 = .ok (.aload_n 0, 1) := by decide +kernel
theorem dX8_goes_1 : decode cX8_goes 1 = .ok (.iload_n 1, 1) := by decide +kernel
theorem dX8_goes_2 : decode cX8_goes 2 = .ok (.invokestatic 108, 3) := by decide +kernel
theorem dX8_goes_5 : decode cX8_goes 5 = .ok (.ifCond .eq 11, 3) := by decide +kernel
theorem dX8_goes_8 : decode cX8_goes 8 = .ok (.aload_n 0, 1) := by decide +kernel
theorem dX8_goes_9 : decode cX8_goes 9 = .ok (.iload_n 2, 1) := by decide +kernel
theorem dX8_goes_10 : decode cX8_goes 10 = .ok (.invokevirtual 118, 3) := by decide +kernel
theorem dX8_goes_13 : decode cX8_goes 13 = .ok (.ifCond .ne 7, 3) := by decide +kernel
theorem dX8_goes_16 : decode cX8_goes 16 = .ok (.iconst 1, 1) := by decide +kernel
theorem dX8_goes_17 : decode cX8_goes 17 = .ok (.goto 4, 3) := by decide +kernel
theorem dX8_goes_20 : decode cX8_goes 20 = .ok (.iconst 0, 1) := by decide +kernel
theorem dX8_goes_21 : decode cX8_goes 21 = .ok (.invokevirtual 105, 3) := by decide +kernel
