theorem dX0_init_0 : decode cX0_init 0 = .ok (.aload_n 0, 1) := by decide +kernel
theorem dX0_init_1 : decode cX0_init 1 = .ok (.invokespecial 1, 3) := by decide +kernel
theorem dX0_init_4 : decode cX0_init 4 = .ok (.aload_n 0, 1) := by decide +kernel
theorem dX0_init_5 : decode cX0_init 5 = .ok (.bipush 64, 2) := by decide +kernel
theorem dX0_init_7 : decode cX0_init 7 = .ok (.newarray .int, 2) := by decide +kernel
theorem dX0_init_9 : decode cX0_init 9 = .ok (.putfield 9, 3) := by decide +kernel
theorem dX0_init_12 : decode cX0_init 12 = .ok (.aload_n 0, 1) := by decide +kernel
theorem dX0_init_13 : decode cX0_init 13 = .ok (.bipush 64, 2) := by decide +kernel
theorem dX0_init_15 : decode cX0_init 15 = .ok (.newarray .int, 2) := by decide +kernel
theorem dX0_init_17 : decode cX0_init 17 = .ok (.putfield 15, 3) := by decide +kernel
theorem dX0_init_20 : decode cX0_init 20 = .ok (.aload_n 0, 1) := by decide +kernel
theorem dX0_init_21 : decode cX0_init 21 = .ok (.bipush 8, 2) := by decide +kernel
theorem dX0_init_23 : decode cX0_init 23 = .ok (.newarray .int, 2) := by decide +kernel
theorem dX0_init_25 : decode cX0_init 25 = .ok (.putfield 18, 3) := by decide +kernel
theorem dX0_init_28 : decode cX0_init 28 = .ok (.aload_n 0, 1) := by decide +kernel
theorem dX0_init_29 : decode cX0_init 29 = .ok (.bipush 8, 2) := by decide +kernel
theorem dX0_init_31 : decode cX0_init 31 = .ok (.newarray .int, 2) := by decide +kernel
theorem dX0_init_33 : decode cX0_init 33 = .ok (.putfield 21, 3) := by decide +kernel
theorem dX0_init_36 : decode cX0_init 36 = .ok (.aload_n 0, 1) := by decide +kernel
theorem dX0_init_37 : decode cX0_init 37 = .ok (.bipush 21, 2) := by decide +kernel
theorem dX0_init_39 : decode cX0_init 39 = .ok (.newarray .int, 2) := by decide +kernel
theorem dX0_init_41 : decode cX0_init 41 = .ok (.putfield 24, 3) := by decide +kernel
theorem dX0_init_44 : decode cX0_init 44 = .ok (.aload_n 0, 1) := by decide +kernel
theorem dX0_init_45 : decode cX0_init 45 = .ok (.iconst 0, 1) := by decide +kernel
theorem dX0_init_46 : decode cX0_init 46 = .ok (.putfield 27, 3) := by decide +kernel
theorem dX0_init_49 : decode cX0_init 49 = .ok (.aload_n 0, 1) := by decide +kernel
theorem dX0_init_50 : decode cX0_init 50 = .ok (.iconst 0, 1) := by decide +kernel
theorem dX0_init_51 : decode cX0_init 51 = .ok (.putfield 31, 3) := by decide +kernel
theorem dX0_init_54 : decode cX0_init 54 = .ok (.aload_n 0, 1) := by decide +kernel
theorem dX0_init_55 : decode cX0_init 55 = .ok (.ldc 34, 2) := by decide +kernel
theorem dX0_init_57 : decode cX0_init 57 = .ok (.putfield 35, 3) := by decide +kernel
theorem dX0_init_60 : decode cX0_init 60 = .ok (.aload_n 0, 1) := by decide +kernel
theorem dX0_init_61 : decode cX0_init 61 = .ok (.iconst 0, 1) := by decide +kernel
theorem dX0_init_62 : decode cX0_init 62 = .ok (.putfield 38, 3) := by decide +kernel
theorem dX0_init_65 : decode cX0_init 65 = .ok (.return_, 1) := by decide +kernel
theorem dX0_raise_0 : decode cX0_raise 0 = .ok (.aload_n 0, 1) := by decide +kernel
theorem dX0_raise_1 : decode cX0_raise 1 = .ok (.iload 4, 2) := by decide +kernel
theorem dX0_raise_3 : decode cX0_raise 3 = .ok (.putfield 38, 3) := by decide +kernel
theorem dX0_raise_6 : decode cX0_raise 6 = .ok (.aload_n 0, 1) := by decide +kernel
theorem dX0_raise_7 : decode cX0_raise 7 = .ok (.iload_n 3, 1) := by decide +kernel
theorem dX0_raise_8 : decode cX0_raise 8 = .ok (.putfield 35, 3) := by decide +kernel
theorem dX0_raise_11 : decode cX0_raise 11 = .ok (.aload_n 0, 1) := by decide +kernel
theorem dX0_raise_12 : decode cX0_raise 12 = .ok (.iconst 0, 1) := by decide +kernel
theorem dX0_raise_13 : decode cX0_raise 13 = .ok (.putfield 27, 3) := by decide +kernel
theorem dX0_raise_16 : decode cX0_raise 16 = .ok (.aload_n 0, 1) := by decide +kernel
theorem dX0_raise_17 : decode cX0_raise 17 = .ok (.iconst 0, 1) := by decide +kernel
theorem dX0_raise_18 : decode cX0_raise 18 = .ok (.putfield 31, 3) := by decide +kernel
theorem dX0_raise_21 : decode cX0_raise 21 = .ok (.iconst 0, 1) := by decide +kernel
theorem dX0_raise_22 : decode cX0_raise 22 = .ok (.istore 5, 2) := by decide +kernel
theorem dX0_raise_24 : decode cX0_raise 24 = .ok (.iload 5, 2) := by decide +kernel
theorem dX0_raise_26 : decode cX0_raise 26 = .ok (.aload_n 0, 1) := by decide +kernel
theorem dX0_raise_27 : decode cX0_raise 27 = .ok (.getfield 38, 3) := by decide +kernel
theorem dX0_raise_30 : decode cX0_raise 30 = .ok (.if_icmp .ge 45, 3) := by decide +kernel
theorem dX0_raise_33 : decode cX0_raise 33 = .ok (.aload_n 0, 1) := by decide +kernel
theorem dX0_raise_34 : decode cX0_raise 34 = .ok (.getfield 35, 3) := by decide +kernel
theorem dX0_raise_37 : decode cX0_raise 37 = .ok (.iload 5, 2) := by decide +kernel
theorem dX0_raise_39 : decode cX0_raise 39 = .ok (.invokestatic 41, 3) := by decide +kernel
theorem dX0_raise_42 : decode cX0_raise 42 = .ok (.istore 6, 2) := by decide +kernel
theorem dX0_raise_44 : decode cX0_raise 44 = .ok (.aload_n 0, 1) := by decide +kernel
theorem dX0_raise_45 : decode cX0_raise 45 = .ok (.getfield 18, 3) := by decide +kernel
theorem dX0_raise_48 : decode cX0_raise 48 = .ok (.iload 5, 2) := by decide +kernel
theorem dX0_raise_50 : decode cX0_raise 50 = .ok (.iconst 1, 1) := by decide +kernel
theorem dX0_raise_51 : decode cX0_raise 51 = .ok (.iload 6, 2) := by decide +kernel
theorem dX0_raise_53 : decode cX0_raise 53 = .ok (.ishl, 1) := by decide +kernel
theorem dX0_raise_54 : decode cX0_raise 54 = .ok (.iastore, 1) := by decide +kernel
theorem dX0_raise_55 : decode cX0_raise 55 = .ok (.aload_n 0, 1) := by decide +kernel
theorem dX0_raise_56 : decode cX0_raise 56 = .ok (.getfield 9, 3) := by decide +kernel
theorem dX0_raise_59 : decode cX0_raise 59 = .ok (.iload 5, 2) := by decide +kernel
theorem dX0_raise_61 : decode cX0_raise 61 = .ok (.iload 6, 2) := by decide +kernel
theorem dX0_raise_63 : decode cX0_raise 63 = .ok (.invokestatic 45, 3) := by decide +kernel
theorem dX0_raise_66 : decode cX0_raise 66 = .ok (.ldc 34, 2) := by decide +kernel
theorem dX0_raise_68 : decode cX0_raise 68 = .ok (.iastore, 1) := by decide +kernel
theorem dX0_raise_69 : decode cX0_raise 69 = .ok (.iinc 5 1, 3) := by decide +kernel
theorem dX0_raise_72 : decode cX0_raise 72 = .ok (.goto (-48), 3) := by decide +kernel
theorem dX0_raise_75 : decode cX0_raise 75 = .ok (.iconst 0, 1) := by decide +kernel
theorem dX0_raise_76 : decode cX0_raise 76 = .ok (.istore 5, 2) := by decide +kernel
theorem dX0_raise_78 : decode cX0_raise 78 = .ok (.iload 5, 2) := by decide +kernel
theorem dX0_raise_80 : decode cX0_raise 80 = .ok (.aload_n 1, 1) := by decide +kernel
theorem dX0_raise_81 : decode cX0_raise 81 = .ok (.arraylength, 1) := by decide +kernel
theorem dX0_raise_82 : decode cX0_raise 82 = .ok (.if_icmp .ge 46, 3) := by decide +kernel
theorem dX0_raise_85 : decode cX0_raise 85 = .ok (.iload_n 2, 1) := by decide +kernel
theorem dX0_raise_86 : decode cX0_raise 86 = .ok (.iload 5, 2) := by decide +kernel
theorem dX0_raise_88 : decode cX0_raise 88 = .ok (.invokestatic 48, 3) := by decide +kernel
theorem dX0_raise_91 : decode cX0_raise 91 = .ok (.ifCond .eq 31, 3) := by decide +kernel
theorem dX0_raise_94 : decode cX0_raise 94 = .ok (.aload_n 0, 1) := by decide +kernel
theorem dX0_raise_95 : decode cX0_raise 95 = .ok (.aload_n 1, 1) := by decide +kernel
theorem dX0_raise_96 : decode cX0_raise 96 = .ok (.iload 5, 2) := by decide +kernel
theorem dX0_raise_98 : decode cX0_raise 98 = .ok (.iaload, 1) := by decide +kernel
theorem dX0_raise_99 : decode cX0_raise 99 = .ok (.invokevirtual 54, 3) := by decide +kernel
theorem dX0_raise_102 : decode cX0_raise 102 = .ok (.ifCond .eq 20, 3) := by decide +kernel
theorem dX0_raise_105 : decode cX0_raise 105 = .ok (.aload_n 0, 1) := by decide +kernel
theorem dX0_raise_106 : decode cX0_raise 106 = .ok (.dup, 1) := by decide +kernel
theorem dX0_raise_107 : decode cX0_raise 107 = .ok (.getfield 31, 3) := by decide +kernel
theorem dX0_raise_110 : decode cX0_raise 110 = .ok (.iconst 1, 1) := by decide +kernel
theorem dX0_raise_111 : decode cX0_raise 111 = .ok (.iload 5, 2) := by decide +kernel
theorem dX0_raise_113 : decode cX0_raise 113 = .ok (.ishl, 1) := by decide +kernel
theorem dX0_raise_114 : decode cX0_raise 114 = .ok (.ior, 1) := by decide +kernel
theorem dX0_raise_115 : decode cX0_raise 115 = .ok (.putfield 31, 3) := by decide +kernel
theorem dX0_raise_118 : decode cX0_raise 118 = .ok (.aload_n 0, 1) := by decide +kernel
theorem dX0_raise_119 : decode cX0_raise 119 = .ok (.invokevirtual 58, 3) := by decide +kernel
theorem dX0_raise_122 : decode cX0_raise 122 = .ok (.iinc 5 1, 3) := by decide +kernel
theorem dX0_raise_125 : decode cX0_raise 125 = .ok (.goto (-47), 3) := by decide +kernel
theorem dX0_raise_128 : decode cX0_raise 128 = .ok (.aload_n 0, 1) := by decide +kernel
theorem dX0_raise_129 : decode cX0_raise 129 = .ok (.invokevirtual 61, 3) := by decide +kernel
theorem dX0_raise_132 : decode cX0_raise 132 = .ok (.return_, 1) := by decide +kernel
theorem dX0_total_0 : decode cX0_total 0 = .ok (.aload_n 0, 1) := by decide +kernel
theorem dX0_total_1 : decode cX0_total 1 = .ok (.getfield 21, 3) := by decide +kernel
theorem dX0_total_4 : decode cX0_total 4 = .ok (.iconst 0, 1) := by decide +kernel
theorem dX0_total_5 : decode cX0_total 5 = .ok (.iaload, 1) := by decide +kernel
theorem dX0_total_6 : decode cX0_total 6 = .ok (.ireturn, 1) := by decide +kernel
theorem dX0_takenCells_0 : decode cX0_takenCells 0 = .ok (.aload_n 0, 1) := by decide +kernel
theorem dX0_takenCells_1 : decode cX0_takenCells 1 = .ok (.getfield 31, 3) := by decide +kernel
theorem dX0_takenCells_4 : decode cX0_takenCells 4 = .ok (.ireturn, 1) := by decide +kernel
theorem dX0_reachAt_0 : decode cX0_reachAt 0 = .ok (.iload_n 1, 1) := by decide +kernel
theorem dX0_reachAt_1 : decode cX0_reachAt 1 = .ok (.ifCond .lt 11, 3) := by decide +kernel
theorem dX0_reachAt_4 : decode cX0_reachAt 4 = .ok (.iload_n 1, 1) := by decide +kernel
theorem dX0_reachAt_5 : decode cX0_reachAt 5 = .ok (.aload_n 0, 1) := by decide +kernel
theorem dX0_reachAt_6 : decode cX0_reachAt 6 = .ok (.getfield 38, 3) := by decide +kernel
theorem dX0_reachAt_9 : decode cX0_reachAt 9 = .ok (.if_icmp .lt 7, 3) := by decide +kernel
theorem dX0_reachAt_12 : decode cX0_reachAt 12 = .ok (.iconst 0, 1) := by decide +kernel
theorem dX0_reachAt_13 : decode cX0_reachAt 13 = .ok (.goto 9, 3) := by decide +kernel
theorem dX0_reachAt_16 : decode cX0_reachAt 16 = .ok (.aload_n 0, 1) := by decide +kernel
theorem dX0_reachAt_17 : decode cX0_reachAt 17 = .ok (.getfield 18, 3) := by decide +kernel
theorem dX0_reachAt_20 : decode cX0_reachAt 20 = .ok (.iload_n 1, 1) := by decide +kernel
theorem dX0_reachAt_21 : decode cX0_reachAt 21 = .ok (.iaload, 1) := by decide +kernel
theorem dX0_reachAt_22 : decode cX0_reachAt 22 = .ok (.ireturn, 1) := by decide +kernel
theorem dX0_holds_0 : decode cX0_holds 0 = .ok (.aload_n 0, 1) := by decide +kernel
theorem dX0_holds_1 : decode cX0_holds 1 = .ok (.iload_n 1, 1) := by decide +kernel
theorem dX0_holds_2 : decode cX0_holds 2 = .ok (.invokevirtual 64, 3) := by decide +kernel
theorem dX0_holds_5 : decode cX0_holds 5 = .ok (.ifCond .lt 7, 3) := by decide +kernel
theorem dX0_holds_8 : decode cX0_holds 8 = .ok (.iconst 1, 1) := by decide +kernel
theorem dX0_holds_9 : decode cX0_holds 9 = .ok (.goto 4, 3) := by decide +kernel
theorem dX0_holds_12 : decode cX0_holds 12 = .ok (.iconst 0, 1) := by decide +kernel
theorem dX0_holds_13 : decode cX0_holds 13 = .ok (.ireturn, 1) := by decide +kernel
theorem dX0_holdsAll_0 : decode cX0_holdsAll 0 = .ok (.iconst 0, 1) := by decide +kernel
theorem dX0_holdsAll_1 : decode cX0_holdsAll 1 = .ok (.istore_n 3, 1) := by decide +kernel
theorem dX0_holdsAll_2 : decode cX0_holdsAll 2 = .ok (.iload_n 3, 1) := by decide +kernel
theorem dX0_holdsAll_3 : decode cX0_holdsAll 3 = .ok (.aload_n 1, 1) := by decide +kernel
theorem dX0_holdsAll_4 : decode cX0_holdsAll 4 = .ok (.arraylength, 1) := by decide +kernel
theorem dX0_holdsAll_5 : decode cX0_holdsAll 5 = .ok (.if_icmp .ge 29, 3) := by decide +kernel
theorem dX0_holdsAll_8 : decode cX0_holdsAll 8 = .ok (.iload_n 2, 1) := by decide +kernel
theorem dX0_holdsAll_9 : decode cX0_holdsAll 9 = .ok (.iload_n 3, 1) := by decide +kernel
theorem dX0_holdsAll_10 : decode cX0_holdsAll 10 = .ok (.invokestatic 48, 3) := by decide +kernel
theorem dX0_holdsAll_13 : decode cX0_holdsAll 13 = .ok (.ifCond .eq 15, 3) := by decide +kernel
theorem dX0_holdsAll_16 : decode cX0_holdsAll 16 = .ok (.aload_n 0, 1) := by decide +kernel
theorem dX0_holdsAll_17 : decode cX0_holdsAll 17 = .ok (.aload_n 1, 1) := by decide +kernel
theorem dX0_holdsAll_18 : decode cX0_holdsAll 18 = .ok (.iload_n 3, 1) := by decide +kernel
theorem dX0_holdsAll_19 : decode cX0_holdsAll 19 = .ok (.iaload, 1) := by decide +kernel
theorem dX0_holdsAll_20 : decode cX0_holdsAll 20 = .ok (.invokevirtual 68, 3) := by decide +kernel
theorem dX0_holdsAll_23 : decode cX0_holdsAll 23 = .ok (.ifCond .ne 5, 3) := by decide +kernel
theorem dX0_holdsAll_26 : decode cX0_holdsAll 26 = .ok (.iconst 0, 1) := by decide +kernel
theorem dX0_holdsAll_27 : decode cX0_holdsAll 27 = .ok (.ireturn, 1) := by decide +kernel
theorem dX0_holdsAll_28 : decode cX0_holdsAll 28 = .ok (.iinc 3 1, 3) := by decide +kernel
theorem dX0_holdsAll_31 : decode cX0_holdsAll 31 = .ok (.goto (-29), 3) := by decide +kernel
theorem dX0_holdsAll_34 : decode cX0_holdsAll 34 = .ok (.iconst 1, 1) := by decide +kernel
theorem dX0_holdsAll_35 : decode cX0_holdsAll 35 = .ok (.ireturn, 1) := by decide +kernel
theorem dX0_rankOf_0 : decode cX0_rankOf 0 = .ok (.iconst 0, 1) := by decide +kernel
theorem dX0_rankOf_1 : decode cX0_rankOf 1 = .ok (.istore_n 2, 1) := by decide +kernel
theorem dX0_rankOf_2 : decode cX0_rankOf 2 = .ok (.ldc 34, 2) := by decide +kernel
theorem dX0_rankOf_4 : decode cX0_rankOf 4 = .ok (.istore_n 3, 1) := by decide +kernel
theorem dX0_rankOf_5 : decode cX0_rankOf 5 = .ok (.iconst 0, 1) := by decide +kernel
theorem dX0_rankOf_6 : decode cX0_rankOf 6 = .ok (.istore 4, 2) := by decide +kernel
theorem dX0_rankOf_8 : decode cX0_rankOf 8 = .ok (.iload 4, 2) := by decide +kernel
theorem dX0_rankOf_10 : decode cX0_rankOf 10 = .ok (.aload_n 0, 1) := by decide +kernel
theorem dX0_rankOf_11 : decode cX0_rankOf 11 = .ok (.getfield 38, 3) := by decide +kernel
theorem dX0_rankOf_14 : decode cX0_rankOf 14 = .ok (.if_icmp .ge 90, 3) := by decide +kernel
theorem dX0_rankOf_17 : decode cX0_rankOf 17 = .ok (.iload_n 3, 1) := by decide +kernel
theorem dX0_rankOf_18 : decode cX0_rankOf 18 = .ok (.aload_n 0, 1) := by decide +kernel
theorem dX0_rankOf_19 : decode cX0_rankOf 19 = .ok (.getfield 18, 3) := by decide +kernel
theorem dX0_rankOf_22 : decode cX0_rankOf 22 = .ok (.iload 4, 2) := by decide +kernel
theorem dX0_rankOf_24 : decode cX0_rankOf 24 = .ok (.iaload, 1) := by decide +kernel
theorem dX0_rankOf_25 : decode cX0_rankOf 25 = .ok (.invokestatic 71, 3) := by decide +kernel
theorem dX0_rankOf_28 : decode cX0_rankOf 28 = .ok (.istore 5, 2) := by decide +kernel
theorem dX0_rankOf_30 : decode cX0_rankOf 30 = .ok (.iload_n 1, 1) := by decide +kernel
theorem dX0_rankOf_31 : decode cX0_rankOf 31 = .ok (.aload_n 0, 1) := by decide +kernel
theorem dX0_rankOf_32 : decode cX0_rankOf 32 = .ok (.getfield 35, 3) := by decide +kernel
theorem dX0_rankOf_35 : decode cX0_rankOf 35 = .ok (.iload 4, 2) := by decide +kernel
theorem dX0_rankOf_37 : decode cX0_rankOf 37 = .ok (.invokestatic 41, 3) := by decide +kernel
theorem dX0_rankOf_40 : decode cX0_rankOf 40 = .ok (.invokestatic 41, 3) := by decide +kernel
theorem dX0_rankOf_43 : decode cX0_rankOf 43 = .ok (.istore 6, 2) := by decide +kernel
theorem dX0_rankOf_45 : decode cX0_rankOf 45 = .ok (.iload 5, 2) := by decide +kernel
theorem dX0_rankOf_47 : decode cX0_rankOf 47 = .ok (.iload 6, 2) := by decide +kernel
theorem dX0_rankOf_49 : decode cX0_rankOf 49 = .ok (.invokestatic 48, 3) := by decide +kernel
theorem dX0_rankOf_52 : decode cX0_rankOf 52 = .ok (.ifCond .ne 5, 3) := by decide +kernel
theorem dX0_rankOf_55 : decode cX0_rankOf 55 = .ok (.iconst (-1), 1) := by decide +kernel
theorem dX0_rankOf_56 : decode cX0_rankOf 56 = .ok (.ireturn, 1) := by decide +kernel
theorem dX0_rankOf_57 : decode cX0_rankOf 57 = .ok (.iload_n 2, 1) := by decide +kernel
theorem dX0_rankOf_58 : decode cX0_rankOf 58 = .ok (.iload 5, 2) := by decide +kernel
theorem dX0_rankOf_60 : decode cX0_rankOf 60 = .ok (.iload 6, 2) := by decide +kernel
theorem dX0_rankOf_62 : decode cX0_rankOf 62 = .ok (.invokestatic 74, 3) := by decide +kernel
theorem dX0_rankOf_65 : decode cX0_rankOf 65 = .ok (.aload_n 0, 1) := by decide +kernel
theorem dX0_rankOf_66 : decode cX0_rankOf 66 = .ok (.getfield 21, 3) := by decide +kernel
theorem dX0_rankOf_69 : decode cX0_rankOf 69 = .ok (.iload 4, 2) := by decide +kernel
theorem dX0_rankOf_71 : decode cX0_rankOf 71 = .ok (.iconst 1, 1) := by decide +kernel
theorem dX0_rankOf_72 : decode cX0_rankOf 72 = .ok (.iadd, 1) := by decide +kernel
theorem dX0_rankOf_73 : decode cX0_rankOf 73 = .ok (.iaload, 1) := by decide +kernel
theorem dX0_rankOf_74 : decode cX0_rankOf 74 = .ok (.imul, 1) := by decide +kernel
theorem dX0_rankOf_75 : decode cX0_rankOf 75 = .ok (.iadd, 1) := by decide +kernel
theorem dX0_rankOf_76 : decode cX0_rankOf 76 = .ok (.istore_n 2, 1) := by decide +kernel
theorem dX0_rankOf_77 : decode cX0_rankOf 77 = .ok (.aload_n 0, 1) := by decide +kernel
theorem dX0_rankOf_78 : decode cX0_rankOf 78 = .ok (.getfield 9, 3) := by decide +kernel
theorem dX0_rankOf_81 : decode cX0_rankOf 81 = .ok (.iload 4, 2) := by decide +kernel
theorem dX0_rankOf_83 : decode cX0_rankOf 83 = .ok (.iload_n 3, 1) := by decide +kernel
theorem dX0_rankOf_84 : decode cX0_rankOf 84 = .ok (.iload 6, 2) := by decide +kernel
theorem dX0_rankOf_86 : decode cX0_rankOf 86 = .ok (.invokestatic 77, 3) := by decide +kernel
theorem dX0_rankOf_89 : decode cX0_rankOf 89 = .ok (.invokestatic 45, 3) := by decide +kernel
theorem dX0_rankOf_92 : decode cX0_rankOf 92 = .ok (.iaload, 1) := by decide +kernel
theorem dX0_rankOf_93 : decode cX0_rankOf 93 = .ok (.iload_n 3, 1) := by decide +kernel
theorem dX0_rankOf_94 : decode cX0_rankOf 94 = .ok (.invokestatic 80, 3) := by decide +kernel
theorem dX0_rankOf_97 : decode cX0_rankOf 97 = .ok (.istore_n 3, 1) := by decide +kernel
theorem dX0_rankOf_98 : decode cX0_rankOf 98 = .ok (.iinc 4 1, 3) := by decide +kernel
theorem dX0_rankOf_101 : decode cX0_rankOf 101 = .ok (.goto (-93), 3) := by decide +kernel
theorem dX0_rankOf_104 : decode cX0_rankOf 104 = .ok (.iload_n 2, 1) := by decide +kernel
theorem dX0_rankOf_105 : decode cX0_rankOf 105 = .ok (.ireturn, 1) := by decide +kernel
theorem dX0_moveAt_0 : decode cX0_moveAt 0 = .ok (.iload_n 1, 1) := by decide +kernel
theorem dX0_moveAt_1 : decode cX0_moveAt 1 = .ok (.istore_n 3, 1) := by decide +kernel
theorem dX0_moveAt_2 : decode cX0_moveAt 2 = .ok (.iload_n 2, 1) := by decide +kernel
theorem dX0_moveAt_3 : decode cX0_moveAt 3 = .ok (.istore 4, 2) := by decide +kernel
theorem dX0_moveAt_5 : decode cX0_moveAt 5 = .ok (.iconst 0, 1) := by decide +kernel
theorem dX0_moveAt_6 : decode cX0_moveAt 6 = .ok (.istore 5, 2) := by decide +kernel
theorem dX0_moveAt_8 : decode cX0_moveAt 8 = .ok (.iload 5, 2) := by decide +kernel
theorem dX0_moveAt_10 : decode cX0_moveAt 10 = .ok (.aload_n 0, 1) := by decide +kernel
theorem dX0_moveAt_11 : decode cX0_moveAt 11 = .ok (.getfield 38, 3) := by decide +kernel
theorem dX0_moveAt_14 : decode cX0_moveAt 14 = .ok (.if_icmp .ge 86, 3) := by decide +kernel
theorem dX0_moveAt_17 : decode cX0_moveAt 17 = .ok (.iload 4, 2) := by decide +kernel
theorem dX0_moveAt_19 : decode cX0_moveAt 19 = .ok (.aload_n 0, 1) := by decide +kernel
theorem dX0_moveAt_20 : decode cX0_moveAt 20 = .ok (.getfield 18, 3) := by decide +kernel
theorem dX0_moveAt_23 : decode cX0_moveAt 23 = .ok (.iload 5, 2) := by decide +kernel
theorem dX0_moveAt_25 : decode cX0_moveAt 25 = .ok (.iaload, 1) := by decide +kernel
theorem dX0_moveAt_26 : decode cX0_moveAt 26 = .ok (.invokestatic 71, 3) := by decide +kernel
theorem dX0_moveAt_29 : decode cX0_moveAt 29 = .ok (.istore 6, 2) := by decide +kernel
theorem dX0_moveAt_31 : decode cX0_moveAt 31 = .ok (.iload_n 3, 1) := by decide +kernel
theorem dX0_moveAt_32 : decode cX0_moveAt 32 = .ok (.aload_n 0, 1) := by decide +kernel
theorem dX0_moveAt_33 : decode cX0_moveAt 33 = .ok (.getfield 21, 3) := by decide +kernel
theorem dX0_moveAt_36 : decode cX0_moveAt 36 = .ok (.iload 5, 2) := by decide +kernel
theorem dX0_moveAt_38 : decode cX0_moveAt 38 = .ok (.iconst 1, 1) := by decide +kernel
theorem dX0_moveAt_39 : decode cX0_moveAt 39 = .ok (.iadd, 1) := by decide +kernel
theorem dX0_moveAt_40 : decode cX0_moveAt 40 = .ok (.iaload, 1) := by decide +kernel
theorem dX0_moveAt_41 : decode cX0_moveAt 41 = .ok (.invokestatic 83, 3) := by decide +kernel
theorem dX0_moveAt_44 : decode cX0_moveAt 44 = .ok (.istore 7, 2) := by decide +kernel
theorem dX0_moveAt_46 : decode cX0_moveAt 46 = .ok (.iload_n 3, 1) := by decide +kernel
theorem dX0_moveAt_47 : decode cX0_moveAt 47 = .ok (.iload 7, 2) := by decide +kernel
theorem dX0_moveAt_49 : decode cX0_moveAt 49 = .ok (.aload_n 0, 1) := by decide +kernel
theorem dX0_moveAt_50 : decode cX0_moveAt 50 = .ok (.getfield 21, 3) := by decide +kernel
theorem dX0_moveAt_53 : decode cX0_moveAt 53 = .ok (.iload 5, 2) := by decide +kernel
theorem dX0_moveAt_55 : decode cX0_moveAt 55 = .ok (.iconst 1, 1) := by decide +kernel
theorem dX0_moveAt_56 : decode cX0_moveAt 56 = .ok (.iadd, 1) := by decide +kernel
theorem dX0_moveAt_57 : decode cX0_moveAt 57 = .ok (.iaload, 1) := by decide +kernel
theorem dX0_moveAt_58 : decode cX0_moveAt 58 = .ok (.imul, 1) := by decide +kernel
theorem dX0_moveAt_59 : decode cX0_moveAt 59 = .ok (.isub, 1) := by decide +kernel
theorem dX0_moveAt_60 : decode cX0_moveAt 60 = .ok (.istore_n 3, 1) := by decide +kernel
theorem dX0_moveAt_61 : decode cX0_moveAt 61 = .ok (.iload 4, 2) := by decide +kernel
theorem dX0_moveAt_63 : decode cX0_moveAt 63 = .ok (.iload 6, 2) := by decide +kernel
theorem dX0_moveAt_65 : decode cX0_moveAt 65 = .ok (.iload 7, 2) := by decide +kernel
theorem dX0_moveAt_67 : decode cX0_moveAt 67 = .ok (.invokestatic 86, 3) := by decide +kernel
theorem dX0_moveAt_70 : decode cX0_moveAt 70 = .ok (.invokestatic 77, 3) := by decide +kernel
theorem dX0_moveAt_73 : decode cX0_moveAt 73 = .ok (.istore 8, 2) := by decide +kernel
theorem dX0_moveAt_75 : decode cX0_moveAt 75 = .ok (.aload_n 0, 1) := by decide +kernel
theorem dX0_moveAt_76 : decode cX0_moveAt 76 = .ok (.getfield 9, 3) := by decide +kernel
theorem dX0_moveAt_79 : decode cX0_moveAt 79 = .ok (.iload 5, 2) := by decide +kernel
theorem dX0_moveAt_81 : decode cX0_moveAt 81 = .ok (.iload 8, 2) := by decide +kernel
theorem dX0_moveAt_83 : decode cX0_moveAt 83 = .ok (.invokestatic 45, 3) := by decide +kernel
theorem dX0_moveAt_86 : decode cX0_moveAt 86 = .ok (.iaload, 1) := by decide +kernel
theorem dX0_moveAt_87 : decode cX0_moveAt 87 = .ok (.iload 4, 2) := by decide +kernel
theorem dX0_moveAt_89 : decode cX0_moveAt 89 = .ok (.invokestatic 80, 3) := by decide +kernel
theorem dX0_moveAt_92 : decode cX0_moveAt 92 = .ok (.istore 4, 2) := by decide +kernel
theorem dX0_moveAt_94 : decode cX0_moveAt 94 = .ok (.iinc 5 1, 3) := by decide +kernel
theorem dX0_moveAt_97 : decode cX0_moveAt 97 = .ok (.goto (-89), 3) := by decide +kernel
theorem dX0_moveAt_100 : decode cX0_moveAt 100 = .ok (.iload 4, 2) := by decide +kernel
theorem dX0_moveAt_102 : decode cX0_moveAt 102 = .ok (.ireturn, 1) := by decide +kernel
theorem dX0_admit_0 : decode cX0_admit 0 = .ok (.iload_n 1, 1) := by decide +kernel
theorem dX0_admit_1 : decode cX0_admit 1 = .ok (.istore_n 2, 1) := by decide +kernel
theorem dX0_admit_2 : decode cX0_admit 2 = .ok (.iconst 0, 1) := by decide +kernel
theorem dX0_admit_3 : decode cX0_admit 3 = .ok (.istore_n 3, 1) := by decide +kernel
theorem dX0_admit_4 : decode cX0_admit 4 = .ok (.iload_n 3, 1) := by decide +kernel
theorem dX0_admit_5 : decode cX0_admit 5 = .ok (.aload_n 0, 1) := by decide +kernel
theorem dX0_admit_6 : decode cX0_admit 6 = .ok (.getfield 38, 3) := by decide +kernel
theorem dX0_admit_9 : decode cX0_admit 9 = .ok (.if_icmp .ge 94, 3) := by decide +kernel
theorem dX0_admit_12 : decode cX0_admit 12 = .ok (.aload_n 0, 1) := by decide +kernel
theorem dX0_admit_13 : decode cX0_admit 13 = .ok (.getfield 35, 3) := by decide +kernel
theorem dX0_admit_16 : decode cX0_admit 16 = .ok (.iload_n 3, 1) := by decide +kernel
theorem dX0_admit_17 : decode cX0_admit 17 = .ok (.invokestatic 41, 3) := by decide +kernel
theorem dX0_admit_20 : decode cX0_admit 20 = .ok (.istore 4, 2) := by decide +kernel
theorem dX0_admit_22 : decode cX0_admit 22 = .ok (.iload_n 2, 1) := by decide +kernel
theorem dX0_admit_23 : decode cX0_admit 23 = .ok (.iload 4, 2) := by decide +kernel
theorem dX0_admit_25 : decode cX0_admit 25 = .ok (.invokestatic 41, 3) := by decide +kernel
theorem dX0_admit_28 : decode cX0_admit 28 = .ok (.istore 5, 2) := by decide +kernel
theorem dX0_admit_30 : decode cX0_admit 30 = .ok (.iload_n 3, 1) := by decide +kernel
theorem dX0_admit_31 : decode cX0_admit 31 = .ok (.iload 5, 2) := by decide +kernel
theorem dX0_admit_33 : decode cX0_admit 33 = .ok (.invokestatic 45, 3) := by decide +kernel
theorem dX0_admit_36 : decode cX0_admit 36 = .ok (.istore 6, 2) := by decide +kernel
theorem dX0_admit_38 : decode cX0_admit 38 = .ok (.aload_n 0, 1) := by decide +kernel
theorem dX0_admit_39 : decode cX0_admit 39 = .ok (.getfield 18, 3) := by decide +kernel
theorem dX0_admit_42 : decode cX0_admit 42 = .ok (.iload_n 3, 1) := by decide +kernel
theorem dX0_admit_43 : decode cX0_admit 43 = .ok (.iaload, 1) := by decide +kernel
theorem dX0_admit_44 : decode cX0_admit 44 = .ok (.iload 5, 2) := by decide +kernel
theorem dX0_admit_46 : decode cX0_admit 46 = .ok (.invokestatic 48, 3) := by decide +kernel
theorem dX0_admit_49 : decode cX0_admit 49 = .ok (.ifCond .ne 29, 3) := by decide +kernel
theorem dX0_admit_52 : decode cX0_admit 52 = .ok (.aload_n 0, 1) := by decide +kernel
theorem dX0_admit_53 : decode cX0_admit 53 = .ok (.getfield 18, 3) := by decide +kernel
theorem dX0_admit_56 : decode cX0_admit 56 = .ok (.iload_n 3, 1) := by decide +kernel
theorem dX0_admit_57 : decode cX0_admit 57 = .ok (.dup2, 1) := by decide +kernel
theorem dX0_admit_58 : decode cX0_admit 58 = .ok (.iaload, 1) := by decide +kernel
theorem dX0_admit_59 : decode cX0_admit 59 = .ok (.iconst 1, 1) := by decide +kernel
theorem dX0_admit_60 : decode cX0_admit 60 = .ok (.iload 5, 2) := by decide +kernel
theorem dX0_admit_62 : decode cX0_admit 62 = .ok (.ishl, 1) := by decide +kernel
theorem dX0_admit_63 : decode cX0_admit 63 = .ok (.ior, 1) := by decide +kernel
theorem dX0_admit_64 : decode cX0_admit 64 = .ok (.iastore, 1) := by decide +kernel
theorem dX0_admit_65 : decode cX0_admit 65 = .ok (.aload_n 0, 1) := by decide +kernel
theorem dX0_admit_66 : decode cX0_admit 66 = .ok (.iload 6, 2) := by decide +kernel
theorem dX0_admit_68 : decode cX0_admit 68 = .ok (.iload_n 2, 1) := by decide +kernel
theorem dX0_admit_69 : decode cX0_admit 69 = .ok (.iload_n 2, 1) := by decide +kernel
theorem dX0_admit_70 : decode cX0_admit 70 = .ok (.invokestatic 89, 3) := by decide +kernel
theorem dX0_admit_73 : decode cX0_admit 73 = .ok (.invokevirtual 92, 3) := by decide +kernel
theorem dX0_admit_76 : decode cX0_admit 76 = .ok (.iconst 1, 1) := by decide +kernel
theorem dX0_admit_77 : decode cX0_admit 77 = .ok (.ireturn, 1) := by decide +kernel
theorem dX0_admit_78 : decode cX0_admit 78 = .ok (.iload 5, 2) := by decide +kernel
theorem dX0_admit_80 : decode cX0_admit 80 = .ok (.iload 4, 2) := by decide +kernel
theorem dX0_admit_82 : decode cX0_admit 82 = .ok (.if_icmp .eq 15, 3) := by decide +kernel
theorem dX0_admit_85 : decode cX0_admit 85 = .ok (.iload_n 2, 1) := by decide +kernel
theorem dX0_admit_86 : decode cX0_admit 86 = .ok (.aload_n 0, 1) := by decide +kernel
theorem dX0_admit_87 : decode cX0_admit 87 = .ok (.getfield 15, 3) := by decide +kernel
theorem dX0_admit_90 : decode cX0_admit 90 = .ok (.iload 6, 2) := by decide +kernel
theorem dX0_admit_92 : decode cX0_admit 92 = .ok (.iaload, 1) := by decide +kernel
theorem dX0_admit_93 : decode cX0_admit 93 = .ok (.invokestatic 80, 3) := by decide +kernel
theorem dX0_admit_96 : decode cX0_admit 96 = .ok (.istore_n 2, 1) := by decide +kernel
theorem dX0_admit_97 : decode cX0_admit 97 = .ok (.iinc 3 1, 3) := by decide +kernel
theorem dX0_admit_100 : decode cX0_admit 100 = .ok (.goto (-96), 3) := by decide +kernel
theorem dX0_admit_103 : decode cX0_admit 103 = .ok (.iconst 0, 1) := by decide +kernel
theorem dX0_admit_104 : decode cX0_admit 104 = .ok (.ireturn, 1) := by decide +kernel
theorem dX0_close_0 : decode cX0_close 0 = .ok (.iconst 0, 1) := by decide +kernel
theorem dX0_close_1 : decode cX0_close 1 = .ok (.istore_n 1, 1) := by decide +kernel
theorem dX0_close_2 : decode cX0_close 2 = .ok (.iload_n 1, 1) := by decide +kernel
theorem dX0_close_3 : decode cX0_close 3 = .ok (.bipush 21, 2) := by decide +kernel
theorem dX0_close_5 : decode cX0_close 5 = .ok (.if_icmp .ge 70, 3) := by decide +kernel
theorem dX0_close_8 : decode cX0_close 8 = .ok (.iload_n 1, 1) := by decide +kernel
theorem dX0_close_9 : decode cX0_close 9 = .ok (.aload_n 0, 1) := by decide +kernel
theorem dX0_close_10 : decode cX0_close 10 = .ok (.getfield 27, 3) := by decide +kernel
theorem dX0_close_13 : decode cX0_close 13 = .ok (.if_icmp .ge 62, 3) := by decide +kernel
theorem dX0_close_16 : decode cX0_close 16 = .ok (.iconst 0, 1) := by decide +kernel
theorem dX0_close_17 : decode cX0_close 17 = .ok (.istore_n 2, 1) := by decide +kernel
theorem dX0_close_18 : decode cX0_close 18 = .ok (.iload_n 2, 1) := by decide +kernel
theorem dX0_close_19 : decode cX0_close 19 = .ok (.iload_n 1, 1) := by decide +kernel
theorem dX0_close_20 : decode cX0_close 20 = .ok (.if_icmp .gt 49, 3) := by decide +kernel
theorem dX0_close_23 : decode cX0_close 23 = .ok (.aload_n 0, 1) := by decide +kernel
theorem dX0_close_24 : decode cX0_close 24 = .ok (.aload_n 0, 1) := by decide +kernel
theorem dX0_close_25 : decode cX0_close 25 = .ok (.getfield 24, 3) := by decide +kernel
theorem dX0_close_28 : decode cX0_close 28 = .ok (.iload_n 1, 1) := by decide +kernel
theorem dX0_close_29 : decode cX0_close 29 = .ok (.iaload, 1) := by decide +kernel
theorem dX0_close_30 : decode cX0_close 30 = .ok (.aload_n 0, 1) := by decide +kernel
theorem dX0_close_31 : decode cX0_close 31 = .ok (.getfield 24, 3) := by decide +kernel
theorem dX0_close_34 : decode cX0_close 34 = .ok (.iload_n 2, 1) := by decide +kernel
theorem dX0_close_35 : decode cX0_close 35 = .ok (.iaload, 1) := by decide +kernel
theorem dX0_close_36 : decode cX0_close 36 = .ok (.invokestatic 80, 3) := by decide +kernel
theorem dX0_close_39 : decode cX0_close 39 = .ok (.invokevirtual 54, 3) := by decide +kernel
theorem dX0_close_42 : decode cX0_close 42 = .ok (.pop, 1) := by decide +kernel
theorem dX0_close_43 : decode cX0_close 43 = .ok (.aload_n 0, 1) := by decide +kernel
theorem dX0_close_44 : decode cX0_close 44 = .ok (.aload_n 0, 1) := by decide +kernel
theorem dX0_close_45 : decode cX0_close 45 = .ok (.getfield 24, 3) := by decide +kernel
theorem dX0_close_48 : decode cX0_close 48 = .ok (.iload_n 2, 1) := by decide +kernel
theorem dX0_close_49 : decode cX0_close 49 = .ok (.iaload, 1) := by decide +kernel
theorem dX0_close_50 : decode cX0_close 50 = .ok (.aload_n 0, 1) := by decide +kernel
theorem dX0_close_51 : decode cX0_close 51 = .ok (.getfield 24, 3) := by decide +kernel
theorem dX0_close_54 : decode cX0_close 54 = .ok (.iload_n 1, 1) := by decide +kernel
theorem dX0_close_55 : decode cX0_close 55 = .ok (.iaload, 1) := by decide +kernel
theorem dX0_close_56 : decode cX0_close 56 = .ok (.invokestatic 80, 3) := by decide +kernel
theorem dX0_close_59 : decode cX0_close 59 = .ok (.invokevirtual 54, 3) := by decide +kernel
theorem dX0_close_62 : decode cX0_close 62 = .ok (.pop, 1) := by decide +kernel
theorem dX0_close_63 : decode cX0_close 63 = .ok (.iinc 2 1, 3) := by decide +kernel
theorem dX0_close_66 : decode cX0_close 66 = .ok (.goto (-48), 3) := by decide +kernel
theorem dX0_close_69 : decode cX0_close 69 = .ok (.iinc 1 1, 3) := by decide +kernel
theorem dX0_close_72 : decode cX0_close 72 = .ok (.goto (-70), 3) := by decide +kernel
theorem dX0_close_75 : decode cX0_close 75 = .ok (.return_, 1) := by decide +kernel
theorem dX0_addStep_0 : decode cX0_addStep 0 = .ok (.aload_n 0, 1) := by decide +kernel
theorem dX0_addStep_1 : decode cX0_addStep 1 = .ok (.getfield 9, 3) := by decide +kernel
theorem dX0_addStep_4 : decode cX0_addStep 4 = .ok (.iload_n 1, 1) := by decide +kernel
theorem dX0_addStep_5 : decode cX0_addStep 5 = .ok (.iload_n 2, 1) := by decide +kernel
theorem dX0_addStep_6 : decode cX0_addStep 6 = .ok (.iastore, 1) := by decide +kernel
theorem dX0_addStep_7 : decode cX0_addStep 7 = .ok (.aload_n 0, 1) := by decide +kernel
theorem dX0_addStep_8 : decode cX0_addStep 8 = .ok (.getfield 15, 3) := by decide +kernel
theorem dX0_addStep_11 : decode cX0_addStep 11 = .ok (.iload_n 1, 1) := by decide +kernel
theorem dX0_addStep_12 : decode cX0_addStep 12 = .ok (.iload_n 3, 1) := by decide +kernel
theorem dX0_addStep_13 : decode cX0_addStep 13 = .ok (.iastore, 1) := by decide +kernel
theorem dX0_addStep_14 : decode cX0_addStep 14 = .ok (.aload_n 0, 1) := by decide +kernel
theorem dX0_addStep_15 : decode cX0_addStep 15 = .ok (.getfield 27, 3) := by decide +kernel
theorem dX0_addStep_18 : decode cX0_addStep 18 = .ok (.bipush 21, 2) := by decide +kernel
theorem dX0_addStep_20 : decode cX0_addStep 20 = .ok (.if_icmp .ge 23, 3) := by decide +kernel
theorem dX0_addStep_23 : decode cX0_addStep 23 = .ok (.aload_n 0, 1) := by decide +kernel
theorem dX0_addStep_24 : decode cX0_addStep 24 = .ok (.getfield 24, 3) := by decide +kernel
theorem dX0_addStep_27 : decode cX0_addStep 27 = .ok (.aload_n 0, 1) := by decide +kernel
theorem dX0_addStep_28 : decode cX0_addStep 28 = .ok (.getfield 27, 3) := by decide +kernel
theorem dX0_addStep_31 : decode cX0_addStep 31 = .ok (.iload_n 2, 1) := by decide +kernel
theorem dX0_addStep_32 : decode cX0_addStep 32 = .ok (.iastore, 1) := by decide +kernel
theorem dX0_addStep_33 : decode cX0_addStep 33 = .ok (.aload_n 0, 1) := by decide +kernel
theorem dX0_addStep_34 : decode cX0_addStep 34 = .ok (.dup, 1) := by decide +kernel
theorem dX0_addStep_35 : decode cX0_addStep 35 = .ok (.getfield 27, 3) := by decide +kernel
theorem dX0_addStep_38 : decode cX0_addStep 38 = .ok (.iconst 1, 1) := by decide +kernel
theorem dX0_addStep_39 : decode cX0_addStep 39 = .ok (.iadd, 1) := by decide +kernel
theorem dX0_addStep_40 : decode cX0_addStep 40 = .ok (.putfield 27, 3) := by decide +kernel
theorem dX0_addStep_43 : decode cX0_addStep 43 = .ok (.return_, 1) := by decide +kernel
theorem dX0_place_0 : decode cX0_place 0 = .ok (.iload_n 0, 1) := by decide +kernel
theorem dX0_place_1 : decode cX0_place 1 = .ok (.bipush 8, 2) := by decide +kernel
theorem dX0_place_3 : decode cX0_place 3 = .ok (.imul, 1) := by decide +kernel
theorem dX0_place_4 : decode cX0_place 4 = .ok (.iload_n 1, 1) := by decide +kernel
theorem dX0_place_5 : decode cX0_place 5 = .ok (.iadd, 1) := by decide +kernel
theorem dX0_place_6 : decode cX0_place 6 = .ok (.ireturn, 1) := by decide +kernel
theorem dX0_measure_0 : decode cX0_measure 0 = .ok (.aload_n 0, 1) := by decide +kernel
theorem dX0_measure_1 : decode cX0_measure 1 = .ok (.getfield 21, 3) := by decide +kernel
theorem dX0_measure_4 : decode cX0_measure 4 = .ok (.aload_n 0, 1) := by decide +kernel
theorem dX0_measure_5 : decode cX0_measure 5 = .ok (.getfield 38, 3) := by decide +kernel
theorem dX0_measure_8 : decode cX0_measure 8 = .ok (.iconst 1, 1) := by decide +kernel
theorem dX0_measure_9 : decode cX0_measure 9 = .ok (.iastore, 1) := by decide +kernel
theorem dX0_measure_10 : decode cX0_measure 10 = .ok (.aload_n 0, 1) := by decide +kernel
theorem dX0_measure_11 : decode cX0_measure 11 = .ok (.getfield 38, 3) := by decide +kernel
theorem dX0_measure_14 : decode cX0_measure 14 = .ok (.iconst 1, 1) := by decide +kernel
theorem dX0_measure_15 : decode cX0_measure 15 = .ok (.isub, 1) := by decide +kernel
theorem dX0_measure_16 : decode cX0_measure 16 = .ok (.istore_n 1, 1) := by decide +kernel
theorem dX0_measure_17 : decode cX0_measure 17 = .ok (.iload_n 1, 1) := by decide +kernel
theorem dX0_measure_18 : decode cX0_measure 18 = .ok (.ifCond .lt 33, 3) := by decide +kernel
theorem dX0_measure_21 : decode cX0_measure 21 = .ok (.aload_n 0, 1) := by decide +kernel
theorem dX0_measure_22 : decode cX0_measure 22 = .ok (.getfield 21, 3) := by decide +kernel
theorem dX0_measure_25 : decode cX0_measure 25 = .ok (.iload_n 1, 1) := by decide +kernel
theorem dX0_measure_26 : decode cX0_measure 26 = .ok (.aload_n 0, 1) := by decide +kernel
theorem dX0_measure_27 : decode cX0_measure 27 = .ok (.getfield 21, 3) := by decide +kernel
theorem dX0_measure_30 : decode cX0_measure 30 = .ok (.iload_n 1, 1) := by decide +kernel
theorem dX0_measure_31 : decode cX0_measure 31 = .ok (.iconst 1, 1) := by decide +kernel
theorem dX0_measure_32 : decode cX0_measure 32 = .ok (.iadd, 1) := by decide +kernel
theorem dX0_measure_33 : decode cX0_measure 33 = .ok (.iaload, 1) := by decide +kernel
theorem dX0_measure_34 : decode cX0_measure 34 = .ok (.aload_n 0, 1) := by decide +kernel
theorem dX0_measure_35 : decode cX0_measure 35 = .ok (.getfield 18, 3) := by decide +kernel
theorem dX0_measure_38 : decode cX0_measure 38 = .ok (.iload_n 1, 1) := by decide +kernel
theorem dX0_measure_39 : decode cX0_measure 39 = .ok (.iaload, 1) := by decide +kernel
theorem dX0_measure_40 : decode cX0_measure 40 = .ok (.invokestatic 96, 3) := by decide +kernel
theorem dX0_measure_43 : decode cX0_measure 43 = .ok (.imul, 1) := by decide +kernel
theorem dX0_measure_44 : decode cX0_measure 44 = .ok (.iastore, 1) := by decide +kernel
theorem dX0_measure_45 : decode cX0_measure 45 = .ok (.iinc 1 (-1), 3) := by decide +kernel
theorem dX0_measure_48 : decode cX0_measure 48 = .ok (.goto (-31), 3) := by decide +kernel
theorem dX0_measure_51 : decode cX0_measure 51 = .ok (.return_, 1) := by decide +kernel
theorem dX1_init_0 : decode cX1_init 0 = .ok (.aload_n 0, 1) := by decide +kernel
theorem dX1_init_1 : decode cX1_init 1 = .ok (.invokespecial 1, 3) := by decide +kernel
theorem dX1_init_4 : decode cX1_init 4 = .ok (.aload_n 0, 1) := by decide +kernel
theorem dX1_init_5 : decode cX1_init 5 = .ok (.iconst 0, 1) := by decide +kernel
theorem dX1_init_6 : decode cX1_init 6 = .ok (.putfield 7, 3) := by decide +kernel
theorem dX1_init_9 : decode cX1_init 9 = .ok (.iload_n 1, 1) := by decide +kernel
theorem dX1_init_10 : decode cX1_init 10 = .ok (.iconst 0, 1) := by decide +kernel
theorem dX1_init_11 : decode cX1_init 11 = .ok (.invokestatic 13, 3) := by decide +kernel
theorem dX1_init_14 : decode cX1_init 14 = .ok (.istore_n 2, 1) := by decide +kernel
theorem dX1_init_15 : decode cX1_init 15 = .ok (.aload_n 0, 1) := by decide +kernel
theorem dX1_init_16 : decode cX1_init 16 = .ok (.iload_n 2, 1) := by decide +kernel
theorem dX1_init_17 : decode cX1_init 17 = .ok (.newarray .int, 2) := by decide +kernel
theorem dX1_init_19 : decode cX1_init 19 = .ok (.putfield 19, 3) := by decide +kernel
theorem dX1_init_22 : decode cX1_init 22 = .ok (.aload_n 0, 1) := by decide +kernel
theorem dX1_init_23 : decode cX1_init 23 = .ok (.iload_n 2, 1) := by decide +kernel
theorem dX1_init_24 : decode cX1_init 24 = .ok (.bipush 32, 2) := by decide +kernel
theorem dX1_init_26 : decode cX1_init 26 = .ok (.idiv, 1) := by decide +kernel
theorem dX1_init_27 : decode cX1_init 27 = .ok (.iconst 1, 1) := by decide +kernel
theorem dX1_init_28 : decode cX1_init 28 = .ok (.iadd, 1) := by decide +kernel
theorem dX1_init_29 : decode cX1_init 29 = .ok (.newarray .int, 2) := by decide +kernel
theorem dX1_init_31 : decode cX1_init 31 = .ok (.putfield 23, 3) := by decide +kernel
theorem dX1_init_34 : decode cX1_init 34 = .ok (.return_, 1) := by decide +kernel
theorem dX1_clear_0 : decode cX1_clear 0 = .ok (.aload_n 0, 1) := by decide +kernel
theorem dX1_clear_1 : decode cX1_clear 1 = .ok (.iconst 0, 1) := by decide +kernel
theorem dX1_clear_2 : decode cX1_clear 2 = .ok (.putfield 7, 3) := by decide +kernel
theorem dX1_clear_5 : decode cX1_clear 5 = .ok (.aload_n 0, 1) := by decide +kernel
theorem dX1_clear_6 : decode cX1_clear 6 = .ok (.getfield 23, 3) := by decide +kernel
theorem dX1_clear_9 : decode cX1_clear 9 = .ok (.iconst 0, 1) := by decide +kernel
theorem dX1_clear_10 : decode cX1_clear 10 = .ok (.invokestatic 26, 3) := by decide +kernel
theorem dX1_clear_13 : decode cX1_clear 13 = .ok (.return_, 1) := by decide +kernel
theorem dX1_add_0 : decode cX1_add 0 = .ok (.iload_n 2, 1) := by decide +kernel
theorem dX1_add_1 : decode cX1_add 1 = .ok (.ifCond .lt 24, 3) := by decide +kernel
theorem dX1_add_4 : decode cX1_add 4 = .ok (.iload_n 2, 1) := by decide +kernel
theorem dX1_add_5 : decode cX1_add 5 = .ok (.aload_n 0, 1) := by decide +kernel
theorem dX1_add_6 : decode cX1_add 6 = .ok (.getfield 19, 3) := by decide +kernel
theorem dX1_add_9 : decode cX1_add 9 = .ok (.arraylength, 1) := by decide +kernel
theorem dX1_add_10 : decode cX1_add 10 = .ok (.if_icmp .ge 15, 3) := by decide +kernel
theorem dX1_add_13 : decode cX1_add 13 = .ok (.aload_n 0, 1) := by decide +kernel
theorem dX1_add_14 : decode cX1_add 14 = .ok (.getfield 7, 3) := by decide +kernel
theorem dX1_add_17 : decode cX1_add 17 = .ok (.aload_n 0, 1) := by decide +kernel
theorem dX1_add_18 : decode cX1_add 18 = .ok (.getfield 19, 3) := by decide +kernel
theorem dX1_add_21 : decode cX1_add 21 = .ok (.arraylength, 1) := by decide +kernel
theorem dX1_add_22 : decode cX1_add 22 = .ok (.if_icmp .lt 5, 3) := by decide +kernel
theorem dX1_add_25 : decode cX1_add 25 = .ok (.iconst 0, 1) := by decide +kernel
theorem dX1_add_26 : decode cX1_add 26 = .ok (.ireturn, 1) := by decide +kernel
theorem dX1_add_27 : decode cX1_add 27 = .ok (.iload_n 2, 1) := by decide +kernel
theorem dX1_add_28 : decode cX1_add 28 = .ok (.bipush 32, 2) := by decide +kernel
theorem dX1_add_30 : decode cX1_add 30 = .ok (.idiv, 1) := by decide +kernel
theorem dX1_add_31 : decode cX1_add 31 = .ok (.istore_n 3, 1) := by decide +kernel
theorem dX1_add_32 : decode cX1_add 32 = .ok (.iload_n 2, 1) := by decide +kernel
theorem dX1_add_33 : decode cX1_add 33 = .ok (.bipush 32, 2) := by decide +kernel
theorem dX1_add_35 : decode cX1_add 35 = .ok (.irem, 1) := by decide +kernel
theorem dX1_add_36 : decode cX1_add 36 = .ok (.istore 4, 2) := by decide +kernel
theorem dX1_add_38 : decode cX1_add 38 = .ok (.aload_n 0, 1) := by decide +kernel
theorem dX1_add_39 : decode cX1_add 39 = .ok (.getfield 23, 3) := by decide +kernel
theorem dX1_add_42 : decode cX1_add 42 = .ok (.iload_n 3, 1) := by decide +kernel
theorem dX1_add_43 : decode cX1_add 43 = .ok (.iaload, 1) := by decide +kernel
theorem dX1_add_44 : decode cX1_add 44 = .ok (.iload 4, 2) := by decide +kernel
theorem dX1_add_46 : decode cX1_add 46 = .ok (.invokestatic 32, 3) := by decide +kernel
theorem dX1_add_49 : decode cX1_add 49 = .ok (.ifCond .eq 5, 3) := by decide +kernel
theorem dX1_add_52 : decode cX1_add 52 = .ok (.iconst 0, 1) := by decide +kernel
theorem dX1_add_53 : decode cX1_add 53 = .ok (.ireturn, 1) := by decide +kernel
theorem dX1_add_54 : decode cX1_add 54 = .ok (.aload_n 0, 1) := by decide +kernel
theorem dX1_add_55 : decode cX1_add 55 = .ok (.getfield 23, 3) := by decide +kernel
theorem dX1_add_58 : decode cX1_add 58 = .ok (.iload_n 3, 1) := by decide +kernel
theorem dX1_add_59 : decode cX1_add 59 = .ok (.dup2, 1) := by decide +kernel
theorem dX1_add_60 : decode cX1_add 60 = .ok (.iaload, 1) := by decide +kernel
theorem dX1_add_61 : decode cX1_add 61 = .ok (.iconst 1, 1) := by decide +kernel
theorem dX1_add_62 : decode cX1_add 62 = .ok (.iload 4, 2) := by decide +kernel
theorem dX1_add_64 : decode cX1_add 64 = .ok (.ishl, 1) := by decide +kernel
theorem dX1_add_65 : decode cX1_add 65 = .ok (.ior, 1) := by decide +kernel
theorem dX1_add_66 : decode cX1_add 66 = .ok (.iastore, 1) := by decide +kernel
theorem dX1_add_67 : decode cX1_add 67 = .ok (.aload_n 0, 1) := by decide +kernel
theorem dX1_add_68 : decode cX1_add 68 = .ok (.getfield 19, 3) := by decide +kernel
theorem dX1_add_71 : decode cX1_add 71 = .ok (.aload_n 0, 1) := by decide +kernel
theorem dX1_add_72 : decode cX1_add 72 = .ok (.getfield 7, 3) := by decide +kernel
theorem dX1_add_75 : decode cX1_add 75 = .ok (.iload_n 1, 1) := by decide +kernel
theorem dX1_add_76 : decode cX1_add 76 = .ok (.iastore, 1) := by decide +kernel
theorem dX1_add_77 : decode cX1_add 77 = .ok (.aload_n 0, 1) := by decide +kernel
theorem dX1_add_78 : decode cX1_add 78 = .ok (.dup, 1) := by decide +kernel
theorem dX1_add_79 : decode cX1_add 79 = .ok (.getfield 7, 3) := by decide +kernel
theorem dX1_add_82 : decode cX1_add 82 = .ok (.iconst 1, 1) := by decide +kernel
theorem dX1_add_83 : decode cX1_add 83 = .ok (.iadd, 1) := by decide +kernel
theorem dX1_add_84 : decode cX1_add 84 = .ok (.putfield 7, 3) := by decide +kernel
theorem dX1_add_87 : decode cX1_add 87 = .ok (.iconst 1, 1) := by decide +kernel
theorem dX1_add_88 : decode cX1_add 88 = .ok (.ireturn, 1) := by decide +kernel
theorem dX1_isMarked_0 : decode cX1_isMarked 0 = .ok (.iload_n 1, 1) := by decide +kernel
theorem dX1_isMarked_1 : decode cX1_isMarked 1 = .ok (.ifCond .lt 35, 3) := by decide +kernel
theorem dX1_isMarked_4 : decode cX1_isMarked 4 = .ok (.iload_n 1, 1) := by decide +kernel
theorem dX1_isMarked_5 : decode cX1_isMarked 5 = .ok (.aload_n 0, 1) := by decide +kernel
theorem dX1_isMarked_6 : decode cX1_isMarked 6 = .ok (.getfield 19, 3) := by decide +kernel
theorem dX1_isMarked_9 : decode cX1_isMarked 9 = .ok (.arraylength, 1) := by decide +kernel
theorem dX1_isMarked_10 : decode cX1_isMarked 10 = .ok (.if_icmp .ge 26, 3) := by decide +kernel
theorem dX1_isMarked_13 : decode cX1_isMarked 13 = .ok (.aload_n 0, 1) := by decide +kernel
theorem dX1_isMarked_14 : decode cX1_isMarked 14 = .ok (.getfield 23, 3) := by decide +kernel
theorem dX1_isMarked_17 : decode cX1_isMarked 17 = .ok (.iload_n 1, 1) := by decide +kernel
theorem dX1_isMarked_18 : decode cX1_isMarked 18 = .ok (.bipush 32, 2) := by decide +kernel
theorem dX1_isMarked_20 : decode cX1_isMarked 20 = .ok (.idiv, 1) := by decide +kernel
theorem dX1_isMarked_21 : decode cX1_isMarked 21 = .ok (.iaload, 1) := by decide +kernel
theorem dX1_isMarked_22 : decode cX1_isMarked 22 = .ok (.iload_n 1, 1) := by decide +kernel
theorem dX1_isMarked_23 : decode cX1_isMarked 23 = .ok (.bipush 32, 2) := by decide +kernel
theorem dX1_isMarked_25 : decode cX1_isMarked 25 = .ok (.irem, 1) := by decide +kernel
theorem dX1_isMarked_26 : decode cX1_isMarked 26 = .ok (.invokestatic 32, 3) := by decide +kernel
theorem dX1_isMarked_29 : decode cX1_isMarked 29 = .ok (.ifCond .eq 7, 3) := by decide +kernel
theorem dX1_isMarked_32 : decode cX1_isMarked 32 = .ok (.iconst 1, 1) := by decide +kernel
theorem dX1_isMarked_33 : decode cX1_isMarked 33 = .ok (.goto 4, 3) := by decide +kernel
theorem dX1_isMarked_36 : decode cX1_isMarked 36 = .ok (.iconst 0, 1) := by decide +kernel
theorem dX1_isMarked_37 : decode cX1_isMarked 37 = .ok (.ireturn, 1) := by decide +kernel
theorem dX1_thing_0 : decode cX1_thing 0 = .ok (.iload_n 1, 1) := by decide +kernel
theorem dX1_thing_1 : decode cX1_thing 1 = .ok (.ifCond .lt 12, 3) := by decide +kernel
theorem dX1_thing_4 : decode cX1_thing 4 = .ok (.iload_n 1, 1) := by decide +kernel
theorem dX1_thing_5 : decode cX1_thing 5 = .ok (.aload_n 0, 1) := by decide +kernel
theorem dX1_thing_6 : decode cX1_thing 6 = .ok (.getfield 19, 3) := by decide +kernel
theorem dX1_thing_9 : decode cX1_thing 9 = .ok (.arraylength, 1) := by decide +kernel
theorem dX1_thing_10 : decode cX1_thing 10 = .ok (.if_icmp .lt 7, 3) := by decide +kernel
theorem dX1_thing_13 : decode cX1_thing 13 = .ok (.iconst 0, 1) := by decide +kernel
theorem dX1_thing_14 : decode cX1_thing 14 = .ok (.goto 9, 3) := by decide +kernel
theorem dX1_thing_17 : decode cX1_thing 17 = .ok (.aload_n 0, 1) := by decide +kernel
theorem dX1_thing_18 : decode cX1_thing 18 = .ok (.getfield 19, 3) := by decide +kernel
theorem dX1_thing_21 : decode cX1_thing 21 = .ok (.iload_n 1, 1) := by decide +kernel
theorem dX1_thing_22 : decode cX1_thing 22 = .ok (.iaload, 1) := by decide +kernel
theorem dX1_thing_23 : decode cX1_thing 23 = .ok (.ireturn, 1) := by decide +kernel
theorem dX1_length_0 : decode cX1_length 0 = .ok (.aload_n 0, 1) := by decide +kernel
theorem dX1_length_1 : decode cX1_length 1 = .ok (.getfield 7, 3) := by decide +kernel
theorem dX1_length_4 : decode cX1_length 4 = .ok (.ireturn, 1) := by decide +kernel
theorem dX2_goal_0 : decode cX2_goal 0 = .ok (.iload_n 0, 1) := by decide +kernel
theorem dX2_goal_1 : decode cX2_goal 1 = .ok (.iconst 3, 1) := by decide +kernel
theorem dX2_goal_2 : decode cX2_goal 2 = .ok (.iload_n 1, 1) := by decide +kernel
theorem dX2_goal_3 : decode cX2_goal 3 = .ok (.imul, 1) := by decide +kernel
theorem dX2_goal_4 : decode cX2_goal 4 = .ok (.ishr, 1) := by decide +kernel
theorem dX2_goal_5 : decode cX2_goal 5 = .ok (.bipush 7, 2) := by decide +kernel
theorem dX2_goal_7 : decode cX2_goal 7 = .ok (.iand, 1) := by decide +kernel
theorem dX2_goal_8 : decode cX2_goal 8 = .ok (.ireturn, 1) := by decide +kernel
theorem dX2_with_0 : decode cX2_with 0 = .ok (.iload_n 0, 1) := by decide +kernel
theorem dX2_with_1 : decode cX2_with 1 = .ok (.bipush 7, 2) := by decide +kernel
theorem dX2_with_3 : decode cX2_with 3 = .ok (.iconst 3, 1) := by decide +kernel
theorem dX2_with_4 : decode cX2_with 4 = .ok (.iload_n 1, 1) := by decide +kernel
theorem dX2_with_5 : decode cX2_with 5 = .ok (.imul, 1) := by decide +kernel
theorem dX2_with_6 : decode cX2_with 6 = .ok (.ishl, 1) := by decide +kernel
theorem dX2_with_7 : decode cX2_with 7 = .ok (.iconst (-1), 1) := by decide +kernel
theorem dX2_with_8 : decode cX2_with 8 = .ok (.ixor, 1) := by decide +kernel
theorem dX2_with_9 : decode cX2_with 9 = .ok (.iand, 1) := by decide +kernel
theorem dX2_with_10 : decode cX2_with 10 = .ok (.iload_n 2, 1) := by decide +kernel
theorem dX2_with_11 : decode cX2_with 11 = .ok (.iconst 3, 1) := by decide +kernel
theorem dX2_with_12 : decode cX2_with 12 = .ok (.iload_n 1, 1) := by decide +kernel
theorem dX2_with_13 : decode cX2_with 13 = .ok (.imul, 1) := by decide +kernel
theorem dX2_with_14 : decode cX2_with 14 = .ok (.ishl, 1) := by decide +kernel
theorem dX2_with_15 : decode cX2_with 15 = .ok (.ior, 1) := by decide +kernel
theorem dX2_with_16 : decode cX2_with 16 = .ok (.ireturn, 1) := by decide +kernel
theorem dX2_both_0 : decode cX2_both 0 = .ok (.iconst 0, 1) := by decide +kernel
theorem dX2_both_1 : decode cX2_both 1 = .ok (.istore_n 2, 1) := by decide +kernel
theorem dX2_both_2 : decode cX2_both 2 = .ok (.iconst 0, 1) := by decide +kernel
theorem dX2_both_3 : decode cX2_both 3 = .ok (.istore_n 3, 1) := by decide +kernel
theorem dX2_both_4 : decode cX2_both 4 = .ok (.iload_n 3, 1) := by decide +kernel
theorem dX2_both_5 : decode cX2_both 5 = .ok (.bipush 21, 2) := by decide +kernel
theorem dX2_both_7 : decode cX2_both 7 = .ok (.if_icmp .ge 27, 3) := by decide +kernel
theorem dX2_both_10 : decode cX2_both 10 = .ok (.iload_n 2, 1) := by decide +kernel
theorem dX2_both_11 : decode cX2_both 11 = .ok (.iload_n 1, 1) := by decide +kernel
theorem dX2_both_12 : decode cX2_both 12 = .ok (.iconst 3, 1) := by decide +kernel
theorem dX2_both_13 : decode cX2_both 13 = .ok (.iload_n 0, 1) := by decide +kernel
theorem dX2_both_14 : decode cX2_both 14 = .ok (.iload_n 3, 1) := by decide +kernel
theorem dX2_both_15 : decode cX2_both 15 = .ok (.ishr, 1) := by decide +kernel
theorem dX2_both_16 : decode cX2_both 16 = .ok (.bipush 7, 2) := by decide +kernel
theorem dX2_both_18 : decode cX2_both 18 = .ok (.iand, 1) := by decide +kernel
theorem dX2_both_19 : decode cX2_both 19 = .ok (.imul, 1) := by decide +kernel
theorem dX2_both_20 : decode cX2_both 20 = .ok (.ishr, 1) := by decide +kernel
theorem dX2_both_21 : decode cX2_both 21 = .ok (.bipush 7, 2) := by decide +kernel
theorem dX2_both_23 : decode cX2_both 23 = .ok (.iand, 1) := by decide +kernel
theorem dX2_both_24 : decode cX2_both 24 = .ok (.iload_n 3, 1) := by decide +kernel
theorem dX2_both_25 : decode cX2_both 25 = .ok (.ishl, 1) := by decide +kernel
theorem dX2_both_26 : decode cX2_both 26 = .ok (.ior, 1) := by decide +kernel
theorem dX2_both_27 : decode cX2_both 27 = .ok (.istore_n 2, 1) := by decide +kernel
theorem dX2_both_28 : decode cX2_both 28 = .ok (.iinc 3 3, 3) := by decide +kernel
theorem dX2_both_31 : decode cX2_both 31 = .ok (.goto (-27), 3) := by decide +kernel
theorem dX2_both_34 : decode cX2_both 34 = .ok (.iload_n 2, 1) := by decide +kernel
theorem dX2_both_35 : decode cX2_both 35 = .ok (.ireturn, 1) := by decide +kernel
theorem dX2_undone_0 : decode cX2_undone 0 = .ok (.iconst 0, 1) := by decide +kernel
theorem dX2_undone_1 : decode cX2_undone 1 = .ok (.istore_n 1, 1) := by decide +kernel
theorem dX2_undone_2 : decode cX2_undone 2 = .ok (.iconst 0, 1) := by decide +kernel
theorem dX2_undone_3 : decode cX2_undone 3 = .ok (.istore_n 2, 1) := by decide +kernel
theorem dX2_undone_4 : decode cX2_undone 4 = .ok (.iload_n 2, 1) := by decide +kernel
theorem dX2_undone_5 : decode cX2_undone 5 = .ok (.bipush 7, 2) := by decide +kernel
theorem dX2_undone_7 : decode cX2_undone 7 = .ok (.if_icmp .ge 24, 3) := by decide +kernel
theorem dX2_undone_10 : decode cX2_undone 10 = .ok (.iload_n 1, 1) := by decide +kernel
theorem dX2_undone_11 : decode cX2_undone 11 = .ok (.iload_n 2, 1) := by decide +kernel
theorem dX2_undone_12 : decode cX2_undone 12 = .ok (.iconst 3, 1) := by decide +kernel
theorem dX2_undone_13 : decode cX2_undone 13 = .ok (.iload_n 0, 1) := by decide +kernel
theorem dX2_undone_14 : decode cX2_undone 14 = .ok (.iconst 3, 1) := by decide +kernel
theorem dX2_undone_15 : decode cX2_undone 15 = .ok (.iload_n 2, 1) := by decide +kernel
theorem dX2_undone_16 : decode cX2_undone 16 = .ok (.imul, 1) := by decide +kernel
theorem dX2_undone_17 : decode cX2_undone 17 = .ok (.ishr, 1) := by decide +kernel
theorem dX2_undone_18 : decode cX2_undone 18 = .ok (.bipush 7, 2) := by decide +kernel
theorem dX2_undone_20 : decode cX2_undone 20 = .ok (.iand, 1) := by decide +kernel
theorem dX2_undone_21 : decode cX2_undone 21 = .ok (.imul, 1) := by decide +kernel
theorem dX2_undone_22 : decode cX2_undone 22 = .ok (.ishl, 1) := by decide +kernel
theorem dX2_undone_23 : decode cX2_undone 23 = .ok (.ior, 1) := by decide +kernel
theorem dX2_undone_24 : decode cX2_undone 24 = .ok (.istore_n 1, 1) := by decide +kernel
theorem dX2_undone_25 : decode cX2_undone 25 = .ok (.iinc 2 1, 3) := by decide +kernel
theorem dX2_undone_28 : decode cX2_undone 28 = .ok (.goto (-24), 3) := by decide +kernel
theorem dX2_undone_31 : decode cX2_undone 31 = .ok (.iload_n 1, 1) := by decide +kernel
theorem dX2_undone_32 : decode cX2_undone 32 = .ok (.ireturn, 1) := by decide +kernel
theorem dX2_often_0 : decode cX2_often 0 = .ok (.ldc 11, 2) := by decide +kernel
theorem dX2_often_2 : decode cX2_often 2 = .ok (.istore_n 2, 1) := by decide +kernel
theorem dX2_often_3 : decode cX2_often 3 = .ok (.iconst 0, 1) := by decide +kernel
theorem dX2_often_4 : decode cX2_often 4 = .ok (.istore_n 3, 1) := by decide +kernel
theorem dX2_often_5 : decode cX2_often 5 = .ok (.iload_n 3, 1) := by decide +kernel
theorem dX2_often_6 : decode cX2_often 6 = .ok (.iload_n 1, 1) := by decide +kernel
theorem dX2_often_7 : decode cX2_often 7 = .ok (.if_icmp .ge 15, 3) := by decide +kernel
theorem dX2_often_10 : decode cX2_often 10 = .ok (.iload_n 2, 1) := by decide +kernel
theorem dX2_often_11 : decode cX2_often 11 = .ok (.iload_n 0, 1) := by decide +kernel
theorem dX2_often_12 : decode cX2_often 12 = .ok (.invokestatic 12, 3) := by decide +kernel
theorem dX2_often_15 : decode cX2_often 15 = .ok (.istore_n 2, 1) := by decide +kernel
theorem dX2_often_16 : decode cX2_often 16 = .ok (.iinc 3 1, 3) := by decide +kernel
theorem dX2_often_19 : decode cX2_often 19 = .ok (.goto (-14), 3) := by decide +kernel
theorem dX2_often_22 : decode cX2_often 22 = .ok (.iload_n 2, 1) := by decide +kernel
theorem dX2_often_23 : decode cX2_often 23 = .ok (.ireturn, 1) := by decide +kernel
theorem dX2_factorial_0 : decode cX2_factorial 0 = .ok (.iconst 1, 1) := by decide +kernel
theorem dX2_factorial_1 : decode cX2_factorial 1 = .ok (.istore_n 1, 1) := by decide +kernel
theorem dX2_factorial_2 : decode cX2_factorial 2 = .ok (.iconst 2, 1) := by decide +kernel
theorem dX2_factorial_3 : decode cX2_factorial 3 = .ok (.istore_n 2, 1) := by decide +kernel
theorem dX2_factorial_4 : decode cX2_factorial 4 = .ok (.iload_n 2, 1) := by decide +kernel
theorem dX2_factorial_5 : decode cX2_factorial 5 = .ok (.iload_n 0, 1) := by decide +kernel
theorem dX2_factorial_6 : decode cX2_factorial 6 = .ok (.if_icmp .gt 13, 3) := by decide +kernel
theorem dX2_factorial_9 : decode cX2_factorial 9 = .ok (.iload_n 1, 1) := by decide +kernel
theorem dX2_factorial_10 : decode cX2_factorial 10 = .ok (.iload_n 2, 1) := by decide +kernel
theorem dX2_factorial_11 : decode cX2_factorial 11 = .ok (.imul, 1) := by decide +kernel
theorem dX2_factorial_12 : decode cX2_factorial 12 = .ok (.istore_n 1, 1) := by decide +kernel
theorem dX2_factorial_13 : decode cX2_factorial 13 = .ok (.iinc 2 1, 3) := by decide +kernel
theorem dX2_factorial_16 : decode cX2_factorial 16 = .ok (.goto (-12), 3) := by decide +kernel
theorem dX2_factorial_19 : decode cX2_factorial 19 = .ok (.iload_n 1, 1) := by decide +kernel
theorem dX2_factorial_20 : decode cX2_factorial 20 = .ok (.ireturn, 1) := by decide +kernel
theorem dX2_numberOf_0 : decode cX2_numberOf 0 = .ok (.iconst 0, 1) := by decide +kernel
theorem dX2_numberOf_1 : decode cX2_numberOf 1 = .ok (.istore_n 2, 1) := by decide +kernel
theorem dX2_numberOf_2 : decode cX2_numberOf 2 = .ok (.iconst 1, 1) := by decide +kernel
theorem dX2_numberOf_3 : decode cX2_numberOf 3 = .ok (.iload_n 1, 1) := by decide +kernel
theorem dX2_numberOf_4 : decode cX2_numberOf 4 = .ok (.ishl, 1) := by decide +kernel
theorem dX2_numberOf_5 : decode cX2_numberOf 5 = .ok (.iconst 1, 1) := by decide +kernel
theorem dX2_numberOf_6 : decode cX2_numberOf 6 = .ok (.isub, 1) := by decide +kernel
theorem dX2_numberOf_7 : decode cX2_numberOf 7 = .ok (.istore_n 3, 1) := by decide +kernel
theorem dX2_numberOf_8 : decode cX2_numberOf 8 = .ok (.iconst 0, 1) := by decide +kernel
theorem dX2_numberOf_9 : decode cX2_numberOf 9 = .ok (.istore 4, 2) := by decide +kernel
theorem dX2_numberOf_11 : decode cX2_numberOf 11 = .ok (.iload 4, 2) := by decide +kernel
theorem dX2_numberOf_13 : decode cX2_numberOf 13 = .ok (.iload_n 1, 1) := by decide +kernel
theorem dX2_numberOf_14 : decode cX2_numberOf 14 = .ok (.if_icmp .ge 40, 3) := by decide +kernel
theorem dX2_numberOf_17 : decode cX2_numberOf 17 = .ok (.iload_n 0, 1) := by decide +kernel
theorem dX2_numberOf_18 : decode cX2_numberOf 18 = .ok (.iload 4, 2) := by decide +kernel
theorem dX2_numberOf_20 : decode cX2_numberOf 20 = .ok (.invokestatic 16, 3) := by decide +kernel
theorem dX2_numberOf_23 : decode cX2_numberOf 23 = .ok (.istore 5, 2) := by decide +kernel
theorem dX2_numberOf_25 : decode cX2_numberOf 25 = .ok (.iload_n 2, 1) := by decide +kernel
theorem dX2_numberOf_26 : decode cX2_numberOf 26 = .ok (.iload_n 1, 1) := by decide +kernel
theorem dX2_numberOf_27 : decode cX2_numberOf 27 = .ok (.iload 4, 2) := by decide +kernel
theorem dX2_numberOf_29 : decode cX2_numberOf 29 = .ok (.isub, 1) := by decide +kernel
theorem dX2_numberOf_30 : decode cX2_numberOf 30 = .ok (.imul, 1) := by decide +kernel
theorem dX2_numberOf_31 : decode cX2_numberOf 31 = .ok (.iload_n 3, 1) := by decide +kernel
theorem dX2_numberOf_32 : decode cX2_numberOf 32 = .ok (.iload 5, 2) := by decide +kernel
theorem dX2_numberOf_34 : decode cX2_numberOf 34 = .ok (.invokestatic 19, 3) := by decide +kernel
theorem dX2_numberOf_37 : decode cX2_numberOf 37 = .ok (.iadd, 1) := by decide +kernel
theorem dX2_numberOf_38 : decode cX2_numberOf 38 = .ok (.istore_n 2, 1) := by decide +kernel
theorem dX2_numberOf_39 : decode cX2_numberOf 39 = .ok (.iload_n 3, 1) := by decide +kernel
theorem dX2_numberOf_40 : decode cX2_numberOf 40 = .ok (.iconst 1, 1) := by decide +kernel
theorem dX2_numberOf_41 : decode cX2_numberOf 41 = .ok (.iload 5, 2) := by decide +kernel
theorem dX2_numberOf_43 : decode cX2_numberOf 43 = .ok (.ishl, 1) := by decide +kernel
theorem dX2_numberOf_44 : decode cX2_numberOf 44 = .ok (.iconst (-1), 1) := by decide +kernel
theorem dX2_numberOf_45 : decode cX2_numberOf 45 = .ok (.ixor, 1) := by decide +kernel
theorem dX2_numberOf_46 : decode cX2_numberOf 46 = .ok (.iand, 1) := by decide +kernel
theorem dX2_numberOf_47 : decode cX2_numberOf 47 = .ok (.istore_n 3, 1) := by decide +kernel
theorem dX2_numberOf_48 : decode cX2_numberOf 48 = .ok (.iinc 4 1, 3) := by decide +kernel
theorem dX2_numberOf_51 : decode cX2_numberOf 51 = .ok (.goto (-40), 3) := by decide +kernel
theorem dX2_numberOf_54 : decode cX2_numberOf 54 = .ok (.iload_n 2, 1) := by decide +kernel
theorem dX2_numberOf_55 : decode cX2_numberOf 55 = .ok (.ireturn, 1) := by decide +kernel
theorem dX2_withNumber_0 : decode cX2_withNumber 0 = .ok (.ldc 11, 2) := by decide +kernel
theorem dX2_withNumber_2 : decode cX2_withNumber 2 = .ok (.istore_n 2, 1) := by decide +kernel
theorem dX2_withNumber_3 : decode cX2_withNumber 3 = .ok (.iload_n 0, 1) := by decide +kernel
theorem dX2_withNumber_4 : decode cX2_withNumber 4 = .ok (.istore_n 3, 1) := by decide +kernel
theorem dX2_withNumber_5 : decode cX2_withNumber 5 = .ok (.iconst 1, 1) := by decide +kernel
theorem dX2_withNumber_6 : decode cX2_withNumber 6 = .ok (.iload_n 1, 1) := by decide +kernel
theorem dX2_withNumber_7 : decode cX2_withNumber 7 = .ok (.ishl, 1) := by decide +kernel
theorem dX2_withNumber_8 : decode cX2_withNumber 8 = .ok (.iconst 1, 1) := by decide +kernel
theorem dX2_withNumber_9 : decode cX2_withNumber 9 = .ok (.isub, 1) := by decide +kernel
theorem dX2_withNumber_10 : decode cX2_withNumber 10 = .ok (.istore 4, 2) := by decide +kernel
theorem dX2_withNumber_12 : decode cX2_withNumber 12 = .ok (.iconst 0, 1) := by decide +kernel
theorem dX2_withNumber_13 : decode cX2_withNumber 13 = .ok (.istore 5, 2) := by decide +kernel
theorem dX2_withNumber_15 : decode cX2_withNumber 15 = .ok (.iload 5, 2) := by decide +kernel
theorem dX2_withNumber_17 : decode cX2_withNumber 17 = .ok (.iload_n 1, 1) := by decide +kernel
theorem dX2_withNumber_18 : decode cX2_withNumber 18 = .ok (.if_icmp .ge 65, 3) := by decide +kernel
theorem dX2_withNumber_21 : decode cX2_withNumber 21 = .ok (.iload_n 1, 1) := by decide +kernel
theorem dX2_withNumber_22 : decode cX2_withNumber 22 = .ok (.iconst 1, 1) := by decide +kernel
theorem dX2_withNumber_23 : decode cX2_withNumber 23 = .ok (.isub, 1) := by decide +kernel
theorem dX2_withNumber_24 : decode cX2_withNumber 24 = .ok (.iload 5, 2) := by decide +kernel
theorem dX2_withNumber_26 : decode cX2_withNumber 26 = .ok (.isub, 1) := by decide +kernel
theorem dX2_withNumber_27 : decode cX2_withNumber 27 = .ok (.invokestatic 22, 3) := by decide +kernel
theorem dX2_withNumber_30 : decode cX2_withNumber 30 = .ok (.istore 6, 2) := by decide +kernel
theorem dX2_withNumber_32 : decode cX2_withNumber 32 = .ok (.iload_n 3, 1) := by decide +kernel
theorem dX2_withNumber_33 : decode cX2_withNumber 33 = .ok (.iload 6, 2) := by decide +kernel
theorem dX2_withNumber_35 : decode cX2_withNumber 35 = .ok (.invokestatic 26, 3) := by decide +kernel
theorem dX2_withNumber_38 : decode cX2_withNumber 38 = .ok (.istore 7, 2) := by decide +kernel
theorem dX2_withNumber_40 : decode cX2_withNumber 40 = .ok (.iload 4, 2) := by decide +kernel
theorem dX2_withNumber_42 : decode cX2_withNumber 42 = .ok (.iload 7, 2) := by decide +kernel
theorem dX2_withNumber_44 : decode cX2_withNumber 44 = .ok (.invokestatic 29, 3) := by decide +kernel
theorem dX2_withNumber_47 : decode cX2_withNumber 47 = .ok (.istore 8, 2) := by decide +kernel
theorem dX2_withNumber_49 : decode cX2_withNumber 49 = .ok (.iload_n 3, 1) := by decide +kernel
theorem dX2_withNumber_50 : decode cX2_withNumber 50 = .ok (.iload 7, 2) := by decide +kernel
theorem dX2_withNumber_52 : decode cX2_withNumber 52 = .ok (.iload 6, 2) := by decide +kernel
theorem dX2_withNumber_54 : decode cX2_withNumber 54 = .ok (.imul, 1) := by decide +kernel
theorem dX2_withNumber_55 : decode cX2_withNumber 55 = .ok (.isub, 1) := by decide +kernel
theorem dX2_withNumber_56 : decode cX2_withNumber 56 = .ok (.istore_n 3, 1) := by decide +kernel
theorem dX2_withNumber_57 : decode cX2_withNumber 57 = .ok (.iload 4, 2) := by decide +kernel
theorem dX2_withNumber_59 : decode cX2_withNumber 59 = .ok (.iconst 1, 1) := by decide +kernel
theorem dX2_withNumber_60 : decode cX2_withNumber 60 = .ok (.iload 8, 2) := by decide +kernel
theorem dX2_withNumber_62 : decode cX2_withNumber 62 = .ok (.ishl, 1) := by decide +kernel
theorem dX2_withNumber_63 : decode cX2_withNumber 63 = .ok (.iconst (-1), 1) := by decide +kernel
theorem dX2_withNumber_64 : decode cX2_withNumber 64 = .ok (.ixor, 1) := by decide +kernel
theorem dX2_withNumber_65 : decode cX2_withNumber 65 = .ok (.iand, 1) := by decide +kernel
theorem dX2_withNumber_66 : decode cX2_withNumber 66 = .ok (.istore 4, 2) := by decide +kernel
theorem dX2_withNumber_68 : decode cX2_withNumber 68 = .ok (.iload_n 2, 1) := by decide +kernel
theorem dX2_withNumber_69 : decode cX2_withNumber 69 = .ok (.iload 5, 2) := by decide +kernel
theorem dX2_withNumber_71 : decode cX2_withNumber 71 = .ok (.iload 8, 2) := by decide +kernel
theorem dX2_withNumber_73 : decode cX2_withNumber 73 = .ok (.invokestatic 32, 3) := by decide +kernel
theorem dX2_withNumber_76 : decode cX2_withNumber 76 = .ok (.istore_n 2, 1) := by decide +kernel
theorem dX2_withNumber_77 : decode cX2_withNumber 77 = .ok (.iinc 5 1, 3) := by decide +kernel
theorem dX2_withNumber_80 : decode cX2_withNumber 80 = .ok (.goto (-65), 3) := by decide +kernel
theorem dX2_withNumber_83 : decode cX2_withNumber 83 = .ok (.iload_n 2, 1) := by decide +kernel
theorem dX2_withNumber_84 : decode cX2_withNumber 84 = .ok (.ireturn, 1) := by decide +kernel
theorem dX2_bitAt_0 : decode cX2_bitAt 0 = .ok (.iconst 0, 1) := by decide +kernel
theorem dX2_bitAt_1 : decode cX2_bitAt 1 = .ok (.istore_n 2, 1) := by decide +kernel
theorem dX2_bitAt_2 : decode cX2_bitAt 2 = .ok (.iload_n 2, 1) := by decide +kernel
theorem dX2_bitAt_3 : decode cX2_bitAt 3 = .ok (.bipush 7, 2) := by decide +kernel
theorem dX2_bitAt_5 : decode cX2_bitAt 5 = .ok (.if_icmp .ge 28, 3) := by decide +kernel
theorem dX2_bitAt_8 : decode cX2_bitAt 8 = .ok (.iload_n 0, 1) := by decide +kernel
theorem dX2_bitAt_9 : decode cX2_bitAt 9 = .ok (.iload_n 2, 1) := by decide +kernel
theorem dX2_bitAt_10 : decode cX2_bitAt 10 = .ok (.invokestatic 36, 3) := by decide +kernel
theorem dX2_bitAt_13 : decode cX2_bitAt 13 = .ok (.ifCond .eq 14, 3) := by decide +kernel
theorem dX2_bitAt_16 : decode cX2_bitAt 16 = .ok (.iload_n 0, 1) := by decide +kernel
theorem dX2_bitAt_17 : decode cX2_bitAt 17 = .ok (.iload_n 2, 1) := by decide +kernel
theorem dX2_bitAt_18 : decode cX2_bitAt 18 = .ok (.invokestatic 19, 3) := by decide +kernel
theorem dX2_bitAt_21 : decode cX2_bitAt 21 = .ok (.iload_n 1, 1) := by decide +kernel
theorem dX2_bitAt_22 : decode cX2_bitAt 22 = .ok (.if_icmp .ne 5, 3) := by decide +kernel
theorem dX2_bitAt_25 : decode cX2_bitAt 25 = .ok (.iload_n 2, 1) := by decide +kernel
theorem dX2_bitAt_26 : decode cX2_bitAt 26 = .ok (.ireturn, 1) := by decide +kernel
theorem dX2_bitAt_27 : decode cX2_bitAt 27 = .ok (.iinc 2 1, 3) := by decide +kernel
theorem dX2_bitAt_30 : decode cX2_bitAt 30 = .ok (.goto (-28), 3) := by decide +kernel
theorem dX2_bitAt_33 : decode cX2_bitAt 33 = .ok (.iconst 0, 1) := by decide +kernel
theorem dX2_bitAt_34 : decode cX2_bitAt 34 = .ok (.ireturn, 1) := by decide +kernel
theorem dX2_goals_0 : decode cX2_goals 0 = .ok (.iconst 0, 1) := by decide +kernel
theorem dX2_goals_1 : decode cX2_goals 1 = .ok (.istore_n 2, 1) := by decide +kernel
theorem dX2_goals_2 : decode cX2_goals 2 = .ok (.iconst 0, 1) := by decide +kernel
theorem dX2_goals_3 : decode cX2_goals 3 = .ok (.istore_n 3, 1) := by decide +kernel
theorem dX2_goals_4 : decode cX2_goals 4 = .ok (.iload_n 3, 1) := by decide +kernel
theorem dX2_goals_5 : decode cX2_goals 5 = .ok (.bipush 7, 2) := by decide +kernel
theorem dX2_goals_7 : decode cX2_goals 7 = .ok (.if_icmp .ge 27, 3) := by decide +kernel
theorem dX2_goals_10 : decode cX2_goals 10 = .ok (.iload_n 1, 1) := by decide +kernel
theorem dX2_goals_11 : decode cX2_goals 11 = .ok (.iload_n 3, 1) := by decide +kernel
theorem dX2_goals_12 : decode cX2_goals 12 = .ok (.invokestatic 36, 3) := by decide +kernel
theorem dX2_goals_15 : decode cX2_goals 15 = .ok (.ifCond .eq 13, 3) := by decide +kernel
theorem dX2_goals_18 : decode cX2_goals 18 = .ok (.iload_n 2, 1) := by decide +kernel
theorem dX2_goals_19 : decode cX2_goals 19 = .ok (.iconst 1, 1) := by decide +kernel
theorem dX2_goals_20 : decode cX2_goals 20 = .ok (.iload_n 0, 1) := by decide +kernel
theorem dX2_goals_21 : decode cX2_goals 21 = .ok (.iload_n 3, 1) := by decide +kernel
theorem dX2_goals_22 : decode cX2_goals 22 = .ok (.invokestatic 16, 3) := by decide +kernel
theorem dX2_goals_25 : decode cX2_goals 25 = .ok (.ishl, 1) := by decide +kernel
theorem dX2_goals_26 : decode cX2_goals 26 = .ok (.ior, 1) := by decide +kernel
theorem dX2_goals_27 : decode cX2_goals 27 = .ok (.istore_n 2, 1) := by decide +kernel
theorem dX2_goals_28 : decode cX2_goals 28 = .ok (.iinc 3 1, 3) := by decide +kernel
theorem dX2_goals_31 : decode cX2_goals 31 = .ok (.goto (-27), 3) := by decide +kernel
theorem dX2_goals_34 : decode cX2_goals 34 = .ok (.iload_n 2, 1) := by decide +kernel
theorem dX2_goals_35 : decode cX2_goals 35 = .ok (.ireturn, 1) := by decide +kernel
theorem dX2_source_0 : decode cX2_source 0 = .ok (.iconst 0, 1) := by decide +kernel
theorem dX2_source_1 : decode cX2_source 1 = .ok (.istore_n 2, 1) := by decide +kernel
theorem dX2_source_2 : decode cX2_source 2 = .ok (.iload_n 2, 1) := by decide +kernel
theorem dX2_source_3 : decode cX2_source 3 = .ok (.bipush 7, 2) := by decide +kernel
theorem dX2_source_5 : decode cX2_source 5 = .ok (.if_icmp .ge 20, 3) := by decide +kernel
theorem dX2_source_8 : decode cX2_source 8 = .ok (.iload_n 0, 1) := by decide +kernel
theorem dX2_source_9 : decode cX2_source 9 = .ok (.iload_n 2, 1) := by decide +kernel
theorem dX2_source_10 : decode cX2_source 10 = .ok (.invokestatic 16, 3) := by decide +kernel
theorem dX2_source_13 : decode cX2_source 13 = .ok (.iload_n 1, 1) := by decide +kernel
theorem dX2_source_14 : decode cX2_source 14 = .ok (.if_icmp .ne 5, 3) := by decide +kernel
theorem dX2_source_17 : decode cX2_source 17 = .ok (.iload_n 2, 1) := by decide +kernel
theorem dX2_source_18 : decode cX2_source 18 = .ok (.ireturn, 1) := by decide +kernel
theorem dX2_source_19 : decode cX2_source 19 = .ok (.iinc 2 1, 3) := by decide +kernel
theorem dX2_source_22 : decode cX2_source 22 = .ok (.goto (-20), 3) := by decide +kernel
theorem dX2_source_25 : decode cX2_source 25 = .ok (.iconst 0, 1) := by decide +kernel
theorem dX2_source_26 : decode cX2_source 26 = .ok (.ireturn, 1) := by decide +kernel
theorem dX2_ringOf_0 : decode cX2_ringOf 0 = .ok (.iconst 0, 1) := by decide +kernel
theorem dX2_ringOf_1 : decode cX2_ringOf 1 = .ok (.istore_n 2, 1) := by decide +kernel
theorem dX2_ringOf_2 : decode cX2_ringOf 2 = .ok (.iload_n 1, 1) := by decide +kernel
theorem dX2_ringOf_3 : decode cX2_ringOf 3 = .ok (.istore_n 3, 1) := by decide +kernel
theorem dX2_ringOf_4 : decode cX2_ringOf 4 = .ok (.iconst 0, 1) := by decide +kernel
theorem dX2_ringOf_5 : decode cX2_ringOf 5 = .ok (.istore 4, 2) := by decide +kernel
theorem dX2_ringOf_7 : decode cX2_ringOf 7 = .ok (.iload 4, 2) := by decide +kernel
theorem dX2_ringOf_9 : decode cX2_ringOf 9 = .ok (.bipush 7, 2) := by decide +kernel
theorem dX2_ringOf_11 : decode cX2_ringOf 11 = .ok (.if_icmp .ge 29, 3) := by decide +kernel
theorem dX2_ringOf_14 : decode cX2_ringOf 14 = .ok (.iload_n 2, 1) := by decide +kernel
theorem dX2_ringOf_15 : decode cX2_ringOf 15 = .ok (.iload_n 3, 1) := by decide +kernel
theorem dX2_ringOf_16 : decode cX2_ringOf 16 = .ok (.invokestatic 36, 3) := by decide +kernel
theorem dX2_ringOf_19 : decode cX2_ringOf 19 = .ok (.ifCond .ne 21, 3) := by decide +kernel
theorem dX2_ringOf_22 : decode cX2_ringOf 22 = .ok (.iload_n 2, 1) := by decide +kernel
theorem dX2_ringOf_23 : decode cX2_ringOf 23 = .ok (.iconst 1, 1) := by decide +kernel
theorem dX2_ringOf_24 : decode cX2_ringOf 24 = .ok (.iload_n 3, 1) := by decide +kernel
theorem dX2_ringOf_25 : decode cX2_ringOf 25 = .ok (.ishl, 1) := by decide +kernel
theorem dX2_ringOf_26 : decode cX2_ringOf 26 = .ok (.ior, 1) := by decide +kernel
theorem dX2_ringOf_27 : decode cX2_ringOf 27 = .ok (.istore_n 2, 1) := by decide +kernel
theorem dX2_ringOf_28 : decode cX2_ringOf 28 = .ok (.iload_n 0, 1) := by decide +kernel
theorem dX2_ringOf_29 : decode cX2_ringOf 29 = .ok (.iload_n 3, 1) := by decide +kernel
theorem dX2_ringOf_30 : decode cX2_ringOf 30 = .ok (.invokestatic 16, 3) := by decide +kernel
theorem dX2_ringOf_33 : decode cX2_ringOf 33 = .ok (.istore_n 3, 1) := by decide +kernel
theorem dX2_ringOf_34 : decode cX2_ringOf 34 = .ok (.iinc 4 1, 3) := by decide +kernel
theorem dX2_ringOf_37 : decode cX2_ringOf 37 = .ok (.goto (-30), 3) := by decide +kernel
theorem dX2_ringOf_40 : decode cX2_ringOf 40 = .ok (.iload_n 2, 1) := by decide +kernel
theorem dX2_ringOf_41 : decode cX2_ringOf 41 = .ok (.ireturn, 1) := by decide +kernel
theorem dX2_ringLength_0 : decode cX2_ringLength 0 = .ok (.iload_n 0, 1) := by decide +kernel
theorem dX2_ringLength_1 : decode cX2_ringLength 1 = .ok (.iload_n 1, 1) := by decide +kernel
theorem dX2_ringLength_2 : decode cX2_ringLength 2 = .ok (.invokestatic 40, 3) := by decide +kernel
theorem dX2_ringLength_5 : decode cX2_ringLength 5 = .ok (.invokestatic 43, 3) := by decide +kernel
theorem dX2_ringLength_8 : decode cX2_ringLength 8 = .ok (.ireturn, 1) := by decide +kernel
theorem dX2_ringsOfLength_0 : decode cX2_ringsOfLength 0 = .ok (.iconst 0, 1) := by decide +kernel
theorem dX2_ringsOfLength_1 : decode cX2_ringsOfLength 1 = .ok (.istore_n 3, 1) := by decide +kernel
theorem dX2_ringsOfLength_2 : decode cX2_ringsOfLength 2 = .ok (.iconst 0, 1) := by decide +kernel
theorem dX2_ringsOfLength_3 : decode cX2_ringsOfLength 3 = .ok (.istore 4, 2) := by decide +kernel
theorem dX2_ringsOfLength_5 : decode cX2_ringsOfLength 5 = .ok (.iload 4, 2) := by decide +kernel
theorem dX2_ringsOfLength_7 : decode cX2_ringsOfLength 7 = .ok (.iload_n 2, 1) := by decide +kernel
theorem dX2_ringsOfLength_8 : decode cX2_ringsOfLength 8 = .ok (.if_icmp .ge 39, 3) := by decide +kernel
theorem dX2_ringsOfLength_11 : decode cX2_ringsOfLength 11 = .ok (.iload_n 0, 1) := by decide +kernel
theorem dX2_ringsOfLength_12 : decode cX2_ringsOfLength 12 = .ok (.iload 4, 2) := by decide +kernel
theorem dX2_ringsOfLength_14 : decode cX2_ringsOfLength 14 = .ok (.invokestatic 40, 3) := by decide +kernel
theorem dX2_ringsOfLength_17 : decode cX2_ringsOfLength 17 = .ok (.istore 5, 2) := by decide +kernel
theorem dX2_ringsOfLength_19 : decode cX2_ringsOfLength 19 = .ok (.iload 5, 2) := by decide +kernel
theorem dX2_ringsOfLength_21 : decode cX2_ringsOfLength 21 = .ok (.iload 4, 2) := by decide +kernel
theorem dX2_ringsOfLength_23 : decode cX2_ringsOfLength 23 = .ok (.invokestatic 19, 3) := by decide +kernel
theorem dX2_ringsOfLength_26 : decode cX2_ringsOfLength 26 = .ok (.ifCond .ne 15, 3) := by decide +kernel
theorem dX2_ringsOfLength_29 : decode cX2_ringsOfLength 29 = .ok (.iload 5, 2) := by decide +kernel
theorem dX2_ringsOfLength_31 : decode cX2_ringsOfLength 31 = .ok (.invokestatic 43, 3) := by decide +kernel
theorem dX2_ringsOfLength_34 : decode cX2_ringsOfLength 34 = .ok (.iload_n 1, 1) := by decide +kernel
theorem dX2_ringsOfLength_35 : decode cX2_ringsOfLength 35 = .ok (.if_icmp .ne 6, 3) := by decide +kernel
theorem dX2_ringsOfLength_38 : decode cX2_ringsOfLength 38 = .ok (.iinc 3 1, 3) := by decide +kernel
theorem dX2_ringsOfLength_41 : decode cX2_ringsOfLength 41 = .ok (.iinc 4 1, 3) := by decide +kernel
theorem dX2_ringsOfLength_44 : decode cX2_ringsOfLength 44 = .ok (.goto (-39), 3) := by decide +kernel
theorem dX2_ringsOfLength_47 : decode cX2_ringsOfLength 47 = .ok (.iload_n 3, 1) := by decide +kernel
theorem dX2_ringsOfLength_48 : decode cX2_ringsOfLength 48 = .ok (.ireturn, 1) := by decide +kernel
theorem dX2_howManyRings_0 : decode cX2_howManyRings 0 = .ok (.iconst 0, 1) := by decide +kernel
theorem dX2_howManyRings_1 : decode cX2_howManyRings 1 = .ok (.istore_n 2, 1) := by decide +kernel
theorem dX2_howManyRings_2 : decode cX2_howManyRings 2 = .ok (.iconst 0, 1) := by decide +kernel
theorem dX2_howManyRings_3 : decode cX2_howManyRings 3 = .ok (.istore_n 3, 1) := by decide +kernel
theorem dX2_howManyRings_4 : decode cX2_howManyRings 4 = .ok (.iconst 0, 1) := by decide +kernel
theorem dX2_howManyRings_5 : decode cX2_howManyRings 5 = .ok (.istore 4, 2) := by decide +kernel
theorem dX2_howManyRings_7 : decode cX2_howManyRings 7 = .ok (.iload 4, 2) := by decide +kernel
theorem dX2_howManyRings_9 : decode cX2_howManyRings 9 = .ok (.iload_n 1, 1) := by decide +kernel
theorem dX2_howManyRings_10 : decode cX2_howManyRings 10 = .ok (.if_icmp .ge 30, 3) := by decide +kernel
theorem dX2_howManyRings_13 : decode cX2_howManyRings 13 = .ok (.iload_n 3, 1) := by decide +kernel
theorem dX2_howManyRings_14 : decode cX2_howManyRings 14 = .ok (.iload 4, 2) := by decide +kernel
theorem dX2_howManyRings_16 : decode cX2_howManyRings 16 = .ok (.invokestatic 36, 3) := by decide +kernel
theorem dX2_howManyRings_19 : decode cX2_howManyRings 19 = .ok (.ifCond .ne 15, 3) := by decide +kernel
theorem dX2_howManyRings_22 : decode cX2_howManyRings 22 = .ok (.iload_n 3, 1) := by decide +kernel
theorem dX2_howManyRings_23 : decode cX2_howManyRings 23 = .ok (.iload_n 0, 1) := by decide +kernel
theorem dX2_howManyRings_24 : decode cX2_howManyRings 24 = .ok (.iload 4, 2) := by decide +kernel
theorem dX2_howManyRings_26 : decode cX2_howManyRings 26 = .ok (.invokestatic 40, 3) := by decide +kernel
theorem dX2_howManyRings_29 : decode cX2_howManyRings 29 = .ok (.ior, 1) := by decide +kernel
theorem dX2_howManyRings_30 : decode cX2_howManyRings 30 = .ok (.istore_n 3, 1) := by decide +kernel
theorem dX2_howManyRings_31 : decode cX2_howManyRings 31 = .ok (.iinc 2 1, 3) := by decide +kernel
theorem dX2_howManyRings_34 : decode cX2_howManyRings 34 = .ok (.iinc 4 1, 3) := by decide +kernel
theorem dX2_howManyRings_37 : decode cX2_howManyRings 37 = .ok (.goto (-30), 3) := by decide +kernel
theorem dX2_howManyRings_40 : decode cX2_howManyRings 40 = .ok (.iload_n 2, 1) := by decide +kernel
theorem dX2_howManyRings_41 : decode cX2_howManyRings 41 = .ok (.ireturn, 1) := by decide +kernel
theorem dX2_orderOf_0 : decode cX2_orderOf 0 = .ok (.iload_n 0, 1) := by decide +kernel
theorem dX2_orderOf_1 : decode cX2_orderOf 1 = .ok (.istore_n 1, 1) := by decide +kernel
theorem dX2_orderOf_2 : decode cX2_orderOf 2 = .ok (.iconst 1, 1) := by decide +kernel
theorem dX2_orderOf_3 : decode cX2_orderOf 3 = .ok (.istore_n 2, 1) := by decide +kernel
theorem dX2_orderOf_4 : decode cX2_orderOf 4 = .ok (.iload_n 2, 1) := by decide +kernel
theorem dX2_orderOf_5 : decode cX2_orderOf 5 = .ok (.bipush 12, 2) := by decide +kernel
theorem dX2_orderOf_7 : decode cX2_orderOf 7 = .ok (.if_icmp .ge 21, 3) := by decide +kernel
theorem dX2_orderOf_10 : decode cX2_orderOf 10 = .ok (.iload_n 1, 1) := by decide +kernel
theorem dX2_orderOf_11 : decode cX2_orderOf 11 = .ok (.ldc 11, 2) := by decide +kernel
theorem dX2_orderOf_13 : decode cX2_orderOf 13 = .ok (.if_icmp .eq 15, 3) := by decide +kernel
theorem dX2_orderOf_16 : decode cX2_orderOf 16 = .ok (.iload_n 1, 1) := by decide +kernel
theorem dX2_orderOf_17 : decode cX2_orderOf 17 = .ok (.iload_n 0, 1) := by decide +kernel
theorem dX2_orderOf_18 : decode cX2_orderOf 18 = .ok (.invokestatic 12, 3) := by decide +kernel
theorem dX2_orderOf_21 : decode cX2_orderOf 21 = .ok (.istore_n 1, 1) := by decide +kernel
theorem dX2_orderOf_22 : decode cX2_orderOf 22 = .ok (.iinc 2 1, 3) := by decide +kernel
theorem dX2_orderOf_25 : decode cX2_orderOf 25 = .ok (.goto (-21), 3) := by decide +kernel
theorem dX2_orderOf_28 : decode cX2_orderOf 28 = .ok (.iload_n 2, 1) := by decide +kernel
theorem dX2_orderOf_29 : decode cX2_orderOf 29 = .ok (.ireturn, 1) := by decide +kernel
theorem dX2_signOf_0 : decode cX2_signOf 0 = .ok (.iload_n 1, 1) := by decide +kernel
theorem dX2_signOf_1 : decode cX2_signOf 1 = .ok (.iload_n 0, 1) := by decide +kernel
theorem dX2_signOf_2 : decode cX2_signOf 2 = .ok (.iload_n 1, 1) := by decide +kernel
theorem dX2_signOf_3 : decode cX2_signOf 3 = .ok (.invokestatic 48, 3) := by decide +kernel
theorem dX2_signOf_6 : decode cX2_signOf 6 = .ok (.isub, 1) := by decide +kernel
theorem dX2_signOf_7 : decode cX2_signOf 7 = .ok (.iconst 2, 1) := by decide +kernel
theorem dX2_signOf_8 : decode cX2_signOf 8 = .ok (.irem, 1) := by decide +kernel
theorem dX2_signOf_9 : decode cX2_signOf 9 = .ok (.ifCond .ne 7, 3) := by decide +kernel
theorem dX2_signOf_12 : decode cX2_signOf 12 = .ok (.iconst 1, 1) := by decide +kernel
theorem dX2_signOf_13 : decode cX2_signOf 13 = .ok (.goto 4, 3) := by decide +kernel
theorem dX2_signOf_16 : decode cX2_signOf 16 = .ok (.iconst (-1), 1) := by decide +kernel
theorem dX2_signOf_17 : decode cX2_signOf 17 = .ok (.ireturn, 1) := by decide +kernel
theorem dX2_haveLikeRings_0 : decode cX2_haveLikeRings 0 = .ok (.iconst 1, 1) := by decide +kernel
theorem dX2_haveLikeRings_1 : decode cX2_haveLikeRings 1 = .ok (.istore_n 2, 1) := by decide +kernel
theorem dX2_haveLikeRings_2 : decode cX2_haveLikeRings 2 = .ok (.iload_n 2, 1) := by decide +kernel
theorem dX2_haveLikeRings_3 : decode cX2_haveLikeRings 3 = .ok (.bipush 7, 2) := by decide +kernel
theorem dX2_haveLikeRings_5 : decode cX2_haveLikeRings 5 = .ok (.if_icmp .gt 28, 3) := by decide +kernel
theorem dX2_haveLikeRings_8 : decode cX2_haveLikeRings 8 = .ok (.iload_n 0, 1) := by decide +kernel
theorem dX2_haveLikeRings_9 : decode cX2_haveLikeRings 9 = .ok (.iload_n 2, 1) := by decide +kernel
theorem dX2_haveLikeRings_10 : decode cX2_haveLikeRings 10 = .ok (.bipush 7, 2) := by decide +kernel
theorem dX2_haveLikeRings_12 : decode cX2_haveLikeRings 12 = .ok (.invokestatic 51, 3) := by decide +kernel
theorem dX2_haveLikeRings_15 : decode cX2_haveLikeRings 15 = .ok (.iload_n 1, 1) := by decide +kernel
theorem dX2_haveLikeRings_16 : decode cX2_haveLikeRings 16 = .ok (.iload_n 2, 1) := by decide +kernel
theorem dX2_haveLikeRings_17 : decode cX2_haveLikeRings 17 = .ok (.bipush 7, 2) := by decide +kernel
theorem dX2_haveLikeRings_19 : decode cX2_haveLikeRings 19 = .ok (.invokestatic 51, 3) := by decide +kernel
theorem dX2_haveLikeRings_22 : decode cX2_haveLikeRings 22 = .ok (.if_icmp .eq 5, 3) := by decide +kernel
theorem dX2_haveLikeRings_25 : decode cX2_haveLikeRings 25 = .ok (.iconst 0, 1) := by decide +kernel
theorem dX2_haveLikeRings_26 : decode cX2_haveLikeRings 26 = .ok (.ireturn, 1) := by decide +kernel
theorem dX2_haveLikeRings_27 : decode cX2_haveLikeRings 27 = .ok (.iinc 2 1, 3) := by decide +kernel
theorem dX2_haveLikeRings_30 : decode cX2_haveLikeRings 30 = .ok (.goto (-28), 3) := by decide +kernel
theorem dX2_haveLikeRings_33 : decode cX2_haveLikeRings 33 = .ok (.iconst 1, 1) := by decide +kernel
theorem dX2_haveLikeRings_34 : decode cX2_haveLikeRings 34 = .ok (.ireturn, 1) := by decide +kernel
theorem dX2_firstRenamer_0 : decode cX2_firstRenamer 0 = .ok (.ldc 11, 2) := by decide +kernel
theorem dX2_firstRenamer_2 : decode cX2_firstRenamer 2 = .ok (.istore_n 3, 1) := by decide +kernel
theorem dX2_firstRenamer_3 : decode cX2_firstRenamer 3 = .ok (.iconst 0, 1) := by decide +kernel
theorem dX2_firstRenamer_4 : decode cX2_firstRenamer 4 = .ok (.istore 4, 2) := by decide +kernel
theorem dX2_firstRenamer_6 : decode cX2_firstRenamer 6 = .ok (.iconst 0, 1) := by decide +kernel
theorem dX2_firstRenamer_7 : decode cX2_firstRenamer 7 = .ok (.istore 5, 2) := by decide +kernel
theorem dX2_firstRenamer_9 : decode cX2_firstRenamer 9 = .ok (.iconst 0, 1) := by decide +kernel
theorem dX2_firstRenamer_10 : decode cX2_firstRenamer 10 = .ok (.istore 6, 2) := by decide +kernel
theorem dX2_firstRenamer_12 : decode cX2_firstRenamer 12 = .ok (.iload 6, 2) := by decide +kernel
theorem dX2_firstRenamer_14 : decode cX2_firstRenamer 14 = .ok (.iload_n 2, 1) := by decide +kernel
theorem dX2_firstRenamer_15 : decode cX2_firstRenamer 15 = .ok (.if_icmp .ge 71, 3) := by decide +kernel
theorem dX2_firstRenamer_18 : decode cX2_firstRenamer 18 = .ok (.iload 4, 2) := by decide +kernel
theorem dX2_firstRenamer_20 : decode cX2_firstRenamer 20 = .ok (.iload 6, 2) := by decide +kernel
theorem dX2_firstRenamer_22 : decode cX2_firstRenamer 22 = .ok (.invokestatic 36, 3) := by decide +kernel
theorem dX2_firstRenamer_25 : decode cX2_firstRenamer 25 = .ok (.ifCond .ne 55, 3) := by decide +kernel
theorem dX2_firstRenamer_28 : decode cX2_firstRenamer 28 = .ok (.iload_n 0, 1) := by decide +kernel
theorem dX2_firstRenamer_29 : decode cX2_firstRenamer 29 = .ok (.iload 6, 2) := by decide +kernel
theorem dX2_firstRenamer_31 : decode cX2_firstRenamer 31 = .ok (.invokestatic 54, 3) := by decide +kernel
theorem dX2_firstRenamer_34 : decode cX2_firstRenamer 34 = .ok (.istore 7, 2) := by decide +kernel
theorem dX2_firstRenamer_36 : decode cX2_firstRenamer 36 = .ok (.iload_n 1, 1) := by decide +kernel
theorem dX2_firstRenamer_37 : decode cX2_firstRenamer 37 = .ok (.iload 5, 2) := by decide +kernel
theorem dX2_firstRenamer_39 : decode cX2_firstRenamer 39 = .ok (.iload 7, 2) := by decide +kernel
theorem dX2_firstRenamer_41 : decode cX2_firstRenamer 41 = .ok (.iload_n 2, 1) := by decide +kernel
theorem dX2_firstRenamer_42 : decode cX2_firstRenamer 42 = .ok (.invokestatic 57, 3) := by decide +kernel
theorem dX2_firstRenamer_45 : decode cX2_firstRenamer 45 = .ok (.istore 8, 2) := by decide +kernel
theorem dX2_firstRenamer_47 : decode cX2_firstRenamer 47 = .ok (.iload_n 3, 1) := by decide +kernel
theorem dX2_firstRenamer_48 : decode cX2_firstRenamer 48 = .ok (.iload_n 0, 1) := by decide +kernel
theorem dX2_firstRenamer_49 : decode cX2_firstRenamer 49 = .ok (.iload 6, 2) := by decide +kernel
theorem dX2_firstRenamer_51 : decode cX2_firstRenamer 51 = .ok (.iload_n 1, 1) := by decide +kernel
theorem dX2_firstRenamer_52 : decode cX2_firstRenamer 52 = .ok (.iload 8, 2) := by decide +kernel
theorem dX2_firstRenamer_54 : decode cX2_firstRenamer 54 = .ok (.invokestatic 61, 3) := by decide +kernel
theorem dX2_firstRenamer_57 : decode cX2_firstRenamer 57 = .ok (.istore_n 3, 1) := by decide +kernel
theorem dX2_firstRenamer_58 : decode cX2_firstRenamer 58 = .ok (.iload 4, 2) := by decide +kernel
theorem dX2_firstRenamer_60 : decode cX2_firstRenamer 60 = .ok (.iload_n 0, 1) := by decide +kernel
theorem dX2_firstRenamer_61 : decode cX2_firstRenamer 61 = .ok (.iload 6, 2) := by decide +kernel
theorem dX2_firstRenamer_63 : decode cX2_firstRenamer 63 = .ok (.invokestatic 40, 3) := by decide +kernel
theorem dX2_firstRenamer_66 : decode cX2_firstRenamer 66 = .ok (.ior, 1) := by decide +kernel
theorem dX2_firstRenamer_67 : decode cX2_firstRenamer 67 = .ok (.istore 4, 2) := by decide +kernel
theorem dX2_firstRenamer_69 : decode cX2_firstRenamer 69 = .ok (.iload 5, 2) := by decide +kernel
theorem dX2_firstRenamer_71 : decode cX2_firstRenamer 71 = .ok (.iload_n 1, 1) := by decide +kernel
theorem dX2_firstRenamer_72 : decode cX2_firstRenamer 72 = .ok (.iload 8, 2) := by decide +kernel
theorem dX2_firstRenamer_74 : decode cX2_firstRenamer 74 = .ok (.invokestatic 40, 3) := by decide +kernel
theorem dX2_firstRenamer_77 : decode cX2_firstRenamer 77 = .ok (.ior, 1) := by decide +kernel
theorem dX2_firstRenamer_78 : decode cX2_firstRenamer 78 = .ok (.istore 5, 2) := by decide +kernel
theorem dX2_firstRenamer_80 : decode cX2_firstRenamer 80 = .ok (.iinc 6 1, 3) := by decide +kernel
theorem dX2_firstRenamer_83 : decode cX2_firstRenamer 83 = .ok (.goto (-71), 3) := by decide +kernel
theorem dX2_firstRenamer_86 : decode cX2_firstRenamer 86 = .ok (.iload_n 3, 1) := by decide +kernel
theorem dX2_firstRenamer_87 : decode cX2_firstRenamer 87 = .ok (.ireturn, 1) := by decide +kernel
theorem dX2_firstFree_0 : decode cX2_firstFree 0 = .ok (.iconst 0, 1) := by decide +kernel
theorem dX2_firstFree_1 : decode cX2_firstFree 1 = .ok (.istore 4, 2) := by decide +kernel
theorem dX2_firstFree_3 : decode cX2_firstFree 3 = .ok (.iload 4, 2) := by decide +kernel
theorem dX2_firstFree_5 : decode cX2_firstFree 5 = .ok (.iload_n 3, 1) := by decide +kernel
theorem dX2_firstFree_6 : decode cX2_firstFree 6 = .ok (.if_icmp .ge 31, 3) := by decide +kernel
theorem dX2_firstFree_9 : decode cX2_firstFree 9 = .ok (.iload_n 1, 1) := by decide +kernel
theorem dX2_firstFree_10 : decode cX2_firstFree 10 = .ok (.iload 4, 2) := by decide +kernel
theorem dX2_firstFree_12 : decode cX2_firstFree 12 = .ok (.invokestatic 36, 3) := by decide +kernel
theorem dX2_firstFree_15 : decode cX2_firstFree 15 = .ok (.ifCond .ne 16, 3) := by decide +kernel
theorem dX2_firstFree_18 : decode cX2_firstFree 18 = .ok (.iload_n 0, 1) := by decide +kernel
theorem dX2_firstFree_19 : decode cX2_firstFree 19 = .ok (.iload 4, 2) := by decide +kernel
theorem dX2_firstFree_21 : decode cX2_firstFree 21 = .ok (.invokestatic 54, 3) := by decide +kernel
theorem dX2_firstFree_24 : decode cX2_firstFree 24 = .ok (.iload_n 2, 1) := by decide +kernel
theorem dX2_firstFree_25 : decode cX2_firstFree 25 = .ok (.if_icmp .ne 6, 3) := by decide +kernel
theorem dX2_firstFree_28 : decode cX2_firstFree 28 = .ok (.iload 4, 2) := by decide +kernel
theorem dX2_firstFree_30 : decode cX2_firstFree 30 = .ok (.ireturn, 1) := by decide +kernel
theorem dX2_firstFree_31 : decode cX2_firstFree 31 = .ok (.iinc 4 1, 3) := by decide +kernel
theorem dX2_firstFree_34 : decode cX2_firstFree 34 = .ok (.goto (-31), 3) := by decide +kernel
theorem dX2_firstFree_37 : decode cX2_firstFree 37 = .ok (.iconst 0, 1) := by decide +kernel
theorem dX2_firstFree_38 : decode cX2_firstFree 38 = .ok (.ireturn, 1) := by decide +kernel
theorem dX2_withRing_0 : decode cX2_withRing 0 = .ok (.iload_n 0, 1) := by decide +kernel
theorem dX2_withRing_1 : decode cX2_withRing 1 = .ok (.istore 5, 2) := by decide +kernel
theorem dX2_withRing_3 : decode cX2_withRing 3 = .ok (.iload_n 2, 1) := by decide +kernel
theorem dX2_withRing_4 : decode cX2_withRing 4 = .ok (.istore 6, 2) := by decide +kernel
theorem dX2_withRing_6 : decode cX2_withRing 6 = .ok (.iload 4, 2) := by decide +kernel
theorem dX2_withRing_8 : decode cX2_withRing 8 = .ok (.istore 7, 2) := by decide +kernel
theorem dX2_withRing_10 : decode cX2_withRing 10 = .ok (.iload_n 1, 1) := by decide +kernel
theorem dX2_withRing_11 : decode cX2_withRing 11 = .ok (.iload_n 2, 1) := by decide +kernel
theorem dX2_withRing_12 : decode cX2_withRing 12 = .ok (.invokestatic 54, 3) := by decide +kernel
theorem dX2_withRing_15 : decode cX2_withRing 15 = .ok (.istore 8, 2) := by decide +kernel
theorem dX2_withRing_17 : decode cX2_withRing 17 = .ok (.iload 8, 2) := by decide +kernel
theorem dX2_withRing_19 : decode cX2_withRing 19 = .ok (.ifCond .le 36, 3) := by decide +kernel
theorem dX2_withRing_22 : decode cX2_withRing 22 = .ok (.iload 5, 2) := by decide +kernel
theorem dX2_withRing_24 : decode cX2_withRing 24 = .ok (.iload 6, 2) := by decide +kernel
theorem dX2_withRing_26 : decode cX2_withRing 26 = .ok (.iload 7, 2) := by decide +kernel
theorem dX2_withRing_28 : decode cX2_withRing 28 = .ok (.invokestatic 32, 3) := by decide +kernel
theorem dX2_withRing_31 : decode cX2_withRing 31 = .ok (.istore 5, 2) := by decide +kernel
theorem dX2_withRing_33 : decode cX2_withRing 33 = .ok (.iload_n 1, 1) := by decide +kernel
theorem dX2_withRing_34 : decode cX2_withRing 34 = .ok (.iload 6, 2) := by decide +kernel
theorem dX2_withRing_36 : decode cX2_withRing 36 = .ok (.invokestatic 16, 3) := by decide +kernel
theorem dX2_withRing_39 : decode cX2_withRing 39 = .ok (.istore 6, 2) := by decide +kernel
theorem dX2_withRing_41 : decode cX2_withRing 41 = .ok (.iload_n 3, 1) := by decide +kernel
theorem dX2_withRing_42 : decode cX2_withRing 42 = .ok (.iload 7, 2) := by decide +kernel
theorem dX2_withRing_44 : decode cX2_withRing 44 = .ok (.invokestatic 16, 3) := by decide +kernel
theorem dX2_withRing_47 : decode cX2_withRing 47 = .ok (.istore 7, 2) := by decide +kernel
theorem dX2_withRing_49 : decode cX2_withRing 49 = .ok (.iinc 8 (-1), 3) := by decide +kernel
theorem dX2_withRing_52 : decode cX2_withRing 52 = .ok (.goto (-35), 3) := by decide +kernel
theorem dX2_withRing_55 : decode cX2_withRing 55 = .ok (.iload 5, 2) := by decide +kernel
theorem dX2_withRing_57 : decode cX2_withRing 57 = .ok (.ireturn, 1) := by decide +kernel
theorem dX3_init_0 : decode cX3_init 0 = .ok (.aload_n 0, 1) := by decide +kernel
theorem dX3_init_1 : decode cX3_init 1 = .ok (.invokespecial 3, 3) := by decide +kernel
theorem dX3_init_4 : decode cX3_init 4 = .ok (.aload_n 0, 1) := by decide +kernel
theorem dX3_init_5 : decode cX3_init 5 = .ok (.new 9, 3) := by decide +kernel
theorem dX3_init_8 : decode cX3_init 8 = .ok (.dup, 1) := by decide +kernel
theorem dX3_init_9 : decode cX3_init 9 = .ok (.sipush 2187, 3) := by decide +kernel
theorem dX3_init_12 : decode cX3_init 12 = .ok (.invokespecial 11, 3) := by decide +kernel
theorem dX3_init_15 : decode cX3_init 15 = .ok (.putfield 14, 3) := by decide +kernel
theorem dX3_init_18 : decode cX3_init 18 = .ok (.aload_n 0, 1) := by decide +kernel
theorem dX3_init_19 : decode cX3_init 19 = .ok (.bipush 8, 2) := by decide +kernel
theorem dX3_init_21 : decode cX3_init 21 = .ok (.newarray .int, 2) := by decide +kernel
theorem dX3_init_23 : decode cX3_init 23 = .ok (.putfield 22, 3) := by decide +kernel
theorem dX3_init_26 : decode cX3_init 26 = .ok (.aload_n 0, 1) := by decide +kernel
theorem dX3_init_27 : decode cX3_init 27 = .ok (.iconst 1, 1) := by decide +kernel
theorem dX3_init_28 : decode cX3_init 28 = .ok (.putfield 26, 3) := by decide +kernel
theorem dX3_init_31 : decode cX3_init 31 = .ok (.aload_n 0, 1) := by decide +kernel
theorem dX3_init_32 : decode cX3_init 32 = .ok (.iconst 0, 1) := by decide +kernel
theorem dX3_init_33 : decode cX3_init 33 = .ok (.putfield 30, 3) := by decide +kernel
theorem dX3_init_36 : decode cX3_init 36 = .ok (.return_, 1) := by decide +kernel
theorem dX3_colouringsOneByOne_0 : decode cX3_colouringsOneByOne 0 = .ok (.aload_n 0, 1) := by decide +kernel
theorem dX3_colouringsOneByOne_1 : decode cX3_colouringsOneByOne 1 = .ok (.iload_n 3, 1) := by decide +kernel
theorem dX3_colouringsOneByOne_2 : decode cX3_colouringsOneByOne 2 = .ok (.putfield 26, 3) := by decide +kernel
theorem dX3_colouringsOneByOne_5 : decode cX3_colouringsOneByOne 5 = .ok (.aload_n 0, 1) := by decide +kernel
theorem dX3_colouringsOneByOne_6 : decode cX3_colouringsOneByOne 6 = .ok (.iload 4, 2) := by decide +kernel
theorem dX3_colouringsOneByOne_8 : decode cX3_colouringsOneByOne 8 = .ok (.putfield 30, 3) := by decide +kernel
theorem dX3_colouringsOneByOne_11 : decode cX3_colouringsOneByOne 11 = .ok (.aload_n 0, 1) := by decide +kernel
theorem dX3_colouringsOneByOne_12 : decode cX3_colouringsOneByOne 12 = .ok (.invokevirtual 33, 3) := by decide +kernel
theorem dX3_colouringsOneByOne_15 : decode cX3_colouringsOneByOne 15 = .ok (.istore 5, 2) := by decide +kernel
theorem dX3_colouringsOneByOne_17 : decode cX3_colouringsOneByOne 17 = .ok (.iconst 0, 1) := by decide +kernel
theorem dX3_colouringsOneByOne_18 : decode cX3_colouringsOneByOne 18 = .ok (.istore 6, 2) := by decide +kernel
theorem dX3_colouringsOneByOne_20 : decode cX3_colouringsOneByOne 20 = .ok (.aload_n 0, 1) := by decide +kernel
theorem dX3_colouringsOneByOne_21 : decode cX3_colouringsOneByOne 21 = .ok (.getfield 14, 3) := by decide +kernel
theorem dX3_colouringsOneByOne_24 : decode cX3_colouringsOneByOne 24 = .ok (.invokevirtual 37, 3) := by decide +kernel
theorem dX3_colouringsOneByOne_27 : decode cX3_colouringsOneByOne 27 = .ok (.iconst 0, 1) := by decide +kernel
theorem dX3_colouringsOneByOne_28 : decode cX3_colouringsOneByOne 28 = .ok (.istore 7, 2) := by decide +kernel
theorem dX3_colouringsOneByOne_30 : decode cX3_colouringsOneByOne 30 = .ok (.iload 7, 2) := by decide +kernel
theorem dX3_colouringsOneByOne_32 : decode cX3_colouringsOneByOne 32 = .ok (.iload 5, 2) := by decide +kernel
theorem dX3_colouringsOneByOne_34 : decode cX3_colouringsOneByOne 34 = .ok (.if_icmp .ge 32, 3) := by decide +kernel
theorem dX3_colouringsOneByOne_37 : decode cX3_colouringsOneByOne 37 = .ok (.aload_n 0, 1) := by decide +kernel
theorem dX3_colouringsOneByOne_38 : decode cX3_colouringsOneByOne 38 = .ok (.getfield 14, 3) := by decide +kernel
theorem dX3_colouringsOneByOne_41 : decode cX3_colouringsOneByOne 41 = .ok (.iload 7, 2) := by decide +kernel
theorem dX3_colouringsOneByOne_43 : decode cX3_colouringsOneByOne 43 = .ok (.iload 7, 2) := by decide +kernel
theorem dX3_colouringsOneByOne_45 : decode cX3_colouringsOneByOne 45 = .ok (.invokevirtual 40, 3) := by decide +kernel
theorem dX3_colouringsOneByOne_48 : decode cX3_colouringsOneByOne 48 = .ok (.ifCond .eq 12, 3) := by decide +kernel
theorem dX3_colouringsOneByOne_51 : decode cX3_colouringsOneByOne 51 = .ok (.iinc 6 1, 3) := by decide +kernel
theorem dX3_colouringsOneByOne_54 : decode cX3_colouringsOneByOne 54 = .ok (.aload_n 0, 1) := by decide +kernel
theorem dX3_colouringsOneByOne_55 : decode cX3_colouringsOneByOne 55 = .ok (.aload_n 1, 1) := by decide +kernel
theorem dX3_colouringsOneByOne_56 : decode cX3_colouringsOneByOne 56 = .ok (.iload_n 2, 1) := by decide +kernel
theorem dX3_colouringsOneByOne_57 : decode cX3_colouringsOneByOne 57 = .ok (.invokevirtual 44, 3) := by decide +kernel
theorem dX3_colouringsOneByOne_60 : decode cX3_colouringsOneByOne 60 = .ok (.iinc 7 1, 3) := by decide +kernel
theorem dX3_colouringsOneByOne_63 : decode cX3_colouringsOneByOne 63 = .ok (.goto (-33), 3) := by decide +kernel
theorem dX3_colouringsOneByOne_66 : decode cX3_colouringsOneByOne 66 = .ok (.iload 6, 2) := by decide +kernel
theorem dX3_colouringsOneByOne_68 : decode cX3_colouringsOneByOne 68 = .ok (.ireturn, 1) := by decide +kernel
theorem dX3_weigh_0 : decode cX3_weigh 0 = .ok (.iconst 1, 1) := by decide +kernel
theorem dX3_weigh_1 : decode cX3_weigh 1 = .ok (.istore_n 1, 1) := by decide +kernel
theorem dX3_weigh_2 : decode cX3_weigh 2 = .ok (.iconst 0, 1) := by decide +kernel
theorem dX3_weigh_3 : decode cX3_weigh 3 = .ok (.istore_n 2, 1) := by decide +kernel
theorem dX3_weigh_4 : decode cX3_weigh 4 = .ok (.iload_n 2, 1) := by decide +kernel
theorem dX3_weigh_5 : decode cX3_weigh 5 = .ok (.aload_n 0, 1) := by decide +kernel
theorem dX3_weigh_6 : decode cX3_weigh 6 = .ok (.getfield 30, 3) := by decide +kernel
theorem dX3_weigh_9 : decode cX3_weigh 9 = .ok (.if_icmp .ge 23, 3) := by decide +kernel
theorem dX3_weigh_12 : decode cX3_weigh 12 = .ok (.aload_n 0, 1) := by decide +kernel
theorem dX3_weigh_13 : decode cX3_weigh 13 = .ok (.getfield 22, 3) := by decide +kernel
theorem dX3_weigh_16 : decode cX3_weigh 16 = .ok (.iload_n 2, 1) := by decide +kernel
theorem dX3_weigh_17 : decode cX3_weigh 17 = .ok (.iload_n 1, 1) := by decide +kernel
theorem dX3_weigh_18 : decode cX3_weigh 18 = .ok (.iastore, 1) := by decide +kernel
theorem dX3_weigh_19 : decode cX3_weigh 19 = .ok (.iload_n 1, 1) := by decide +kernel
theorem dX3_weigh_20 : decode cX3_weigh 20 = .ok (.aload_n 0, 1) := by decide +kernel
theorem dX3_weigh_21 : decode cX3_weigh 21 = .ok (.getfield 26, 3) := by decide +kernel
theorem dX3_weigh_24 : decode cX3_weigh 24 = .ok (.imul, 1) := by decide +kernel
theorem dX3_weigh_25 : decode cX3_weigh 25 = .ok (.istore_n 1, 1) := by decide +kernel
theorem dX3_weigh_26 : decode cX3_weigh 26 = .ok (.iinc 2 1, 3) := by decide +kernel
theorem dX3_weigh_29 : decode cX3_weigh 29 = .ok (.goto (-25), 3) := by decide +kernel
theorem dX3_weigh_32 : decode cX3_weigh 32 = .ok (.iload_n 1, 1) := by decide +kernel
theorem dX3_weigh_33 : decode cX3_weigh 33 = .ok (.ireturn, 1) := by decide +kernel
theorem dX3_spread_0 : decode cX3_spread 0 = .ok (.aload_n 0, 1) := by decide +kernel
theorem dX3_spread_1 : decode cX3_spread 1 = .ok (.getfield 14, 3) := by decide +kernel
theorem dX3_spread_4 : decode cX3_spread 4 = .ok (.invokevirtual 48, 3) := by decide +kernel
theorem dX3_spread_7 : decode cX3_spread 7 = .ok (.iconst 1, 1) := by decide +kernel
theorem dX3_spread_8 : decode cX3_spread 8 = .ok (.isub, 1) := by decide +kernel
theorem dX3_spread_9 : decode cX3_spread 9 = .ok (.istore_n 3, 1) := by decide +kernel
theorem dX3_spread_10 : decode cX3_spread 10 = .ok (.iload_n 3, 1) := by decide +kernel
theorem dX3_spread_11 : decode cX3_spread 11 = .ok (.sipush 2187, 3) := by decide +kernel
theorem dX3_spread_14 : decode cX3_spread 14 = .ok (.if_icmp .ge 75, 3) := by decide +kernel
theorem dX3_spread_17 : decode cX3_spread 17 = .ok (.iload_n 3, 1) := by decide +kernel
theorem dX3_spread_18 : decode cX3_spread 18 = .ok (.aload_n 0, 1) := by decide +kernel
theorem dX3_spread_19 : decode cX3_spread 19 = .ok (.getfield 14, 3) := by decide +kernel
theorem dX3_spread_22 : decode cX3_spread 22 = .ok (.invokevirtual 48, 3) := by decide +kernel
theorem dX3_spread_25 : decode cX3_spread 25 = .ok (.if_icmp .ge 64, 3) := by decide +kernel
theorem dX3_spread_28 : decode cX3_spread 28 = .ok (.iconst 0, 1) := by decide +kernel
theorem dX3_spread_29 : decode cX3_spread 29 = .ok (.istore 4, 2) := by decide +kernel
theorem dX3_spread_31 : decode cX3_spread 31 = .ok (.iload 4, 2) := by decide +kernel
theorem dX3_spread_33 : decode cX3_spread 33 = .ok (.aload_n 1, 1) := by decide +kernel
theorem dX3_spread_34 : decode cX3_spread 34 = .ok (.arraylength, 1) := by decide +kernel
theorem dX3_spread_35 : decode cX3_spread 35 = .ok (.if_icmp .ge 48, 3) := by decide +kernel
theorem dX3_spread_38 : decode cX3_spread 38 = .ok (.iload_n 2, 1) := by decide +kernel
theorem dX3_spread_39 : decode cX3_spread 39 = .ok (.iload 4, 2) := by decide +kernel
theorem dX3_spread_41 : decode cX3_spread 41 = .ok (.invokestatic 51, 3) := by decide +kernel
theorem dX3_spread_44 : decode cX3_spread 44 = .ok (.ifCond .eq 33, 3) := by decide +kernel
theorem dX3_spread_47 : decode cX3_spread 47 = .ok (.aload_n 0, 1) := by decide +kernel
theorem dX3_spread_48 : decode cX3_spread 48 = .ok (.aload_n 1, 1) := by decide +kernel
theorem dX3_spread_49 : decode cX3_spread 49 = .ok (.iload 4, 2) := by decide +kernel
theorem dX3_spread_51 : decode cX3_spread 51 = .ok (.iaload, 1) := by decide +kernel
theorem dX3_spread_52 : decode cX3_spread 52 = .ok (.aload_n 0, 1) := by decide +kernel
theorem dX3_spread_53 : decode cX3_spread 53 = .ok (.getfield 14, 3) := by decide +kernel
theorem dX3_spread_56 : decode cX3_spread 56 = .ok (.iload_n 3, 1) := by decide +kernel
theorem dX3_spread_57 : decode cX3_spread 57 = .ok (.invokevirtual 54, 3) := by decide +kernel
theorem dX3_spread_60 : decode cX3_spread 60 = .ok (.invokevirtual 58, 3) := by decide +kernel
theorem dX3_spread_63 : decode cX3_spread 63 = .ok (.istore 5, 2) := by decide +kernel
theorem dX3_spread_65 : decode cX3_spread 65 = .ok (.aload_n 0, 1) := by decide +kernel
theorem dX3_spread_66 : decode cX3_spread 66 = .ok (.getfield 14, 3) := by decide +kernel
theorem dX3_spread_69 : decode cX3_spread 69 = .ok (.iload 5, 2) := by decide +kernel
theorem dX3_spread_71 : decode cX3_spread 71 = .ok (.iload 5, 2) := by decide +kernel
theorem dX3_spread_73 : decode cX3_spread 73 = .ok (.invokevirtual 40, 3) := by decide +kernel
theorem dX3_spread_76 : decode cX3_spread 76 = .ok (.pop, 1) := by decide +kernel
theorem dX3_spread_77 : decode cX3_spread 77 = .ok (.iinc 4 1, 3) := by decide +kernel
theorem dX3_spread_80 : decode cX3_spread 80 = .ok (.goto (-49), 3) := by decide +kernel
theorem dX3_spread_83 : decode cX3_spread 83 = .ok (.iinc 3 1, 3) := by decide +kernel
theorem dX3_spread_86 : decode cX3_spread 86 = .ok (.goto (-76), 3) := by decide +kernel
theorem dX3_spread_89 : decode cX3_spread 89 = .ok (.return_, 1) := by decide +kernel
theorem dX3_madeBy_0 : decode cX3_madeBy 0 = .ok (.iconst 0, 1) := by decide +kernel
theorem dX3_madeBy_1 : decode cX3_madeBy 1 = .ok (.istore_n 3, 1) := by decide +kernel
theorem dX3_madeBy_2 : decode cX3_madeBy 2 = .ok (.iload_n 2, 1) := by decide +kernel
theorem dX3_madeBy_3 : decode cX3_madeBy 3 = .ok (.istore 4, 2) := by decide +kernel
theorem dX3_madeBy_5 : decode cX3_madeBy 5 = .ok (.iconst 0, 1) := by decide +kernel
theorem dX3_madeBy_6 : decode cX3_madeBy 6 = .ok (.istore 5, 2) := by decide +kernel
theorem dX3_madeBy_8 : decode cX3_madeBy 8 = .ok (.iload 5, 2) := by decide +kernel
theorem dX3_madeBy_10 : decode cX3_madeBy 10 = .ok (.aload_n 0, 1) := by decide +kernel
theorem dX3_madeBy_11 : decode cX3_madeBy 11 = .ok (.getfield 30, 3) := by decide +kernel
theorem dX3_madeBy_14 : decode cX3_madeBy 14 = .ok (.if_icmp .ge 49, 3) := by decide +kernel
theorem dX3_madeBy_17 : decode cX3_madeBy 17 = .ok (.iload 4, 2) := by decide +kernel
theorem dX3_madeBy_19 : decode cX3_madeBy 19 = .ok (.aload_n 0, 1) := by decide +kernel
theorem dX3_madeBy_20 : decode cX3_madeBy 20 = .ok (.getfield 26, 3) := by decide +kernel
theorem dX3_madeBy_23 : decode cX3_madeBy 23 = .ok (.invokestatic 62, 3) := by decide +kernel
theorem dX3_madeBy_26 : decode cX3_madeBy 26 = .ok (.istore 6, 2) := by decide +kernel
theorem dX3_madeBy_28 : decode cX3_madeBy 28 = .ok (.iload_n 3, 1) := by decide +kernel
theorem dX3_madeBy_29 : decode cX3_madeBy 29 = .ok (.iload 4, 2) := by decide +kernel
theorem dX3_madeBy_31 : decode cX3_madeBy 31 = .ok (.iload 6, 2) := by decide +kernel
theorem dX3_madeBy_33 : decode cX3_madeBy 33 = .ok (.aload_n 0, 1) := by decide +kernel
theorem dX3_madeBy_34 : decode cX3_madeBy 34 = .ok (.getfield 26, 3) := by decide +kernel
theorem dX3_madeBy_37 : decode cX3_madeBy 37 = .ok (.imul, 1) := by decide +kernel
theorem dX3_madeBy_38 : decode cX3_madeBy 38 = .ok (.isub, 1) := by decide +kernel
theorem dX3_madeBy_39 : decode cX3_madeBy 39 = .ok (.aload_n 0, 1) := by decide +kernel
theorem dX3_madeBy_40 : decode cX3_madeBy 40 = .ok (.getfield 22, 3) := by decide +kernel
theorem dX3_madeBy_43 : decode cX3_madeBy 43 = .ok (.iload_n 1, 1) := by decide +kernel
theorem dX3_madeBy_44 : decode cX3_madeBy 44 = .ok (.iload 5, 2) := by decide +kernel
theorem dX3_madeBy_46 : decode cX3_madeBy 46 = .ok (.invokestatic 65, 3) := by decide +kernel
theorem dX3_madeBy_49 : decode cX3_madeBy 49 = .ok (.iaload, 1) := by decide +kernel
theorem dX3_madeBy_50 : decode cX3_madeBy 50 = .ok (.imul, 1) := by decide +kernel
theorem dX3_madeBy_51 : decode cX3_madeBy 51 = .ok (.iadd, 1) := by decide +kernel
theorem dX3_madeBy_52 : decode cX3_madeBy 52 = .ok (.istore_n 3, 1) := by decide +kernel
theorem dX3_madeBy_53 : decode cX3_madeBy 53 = .ok (.iload 6, 2) := by decide +kernel
theorem dX3_madeBy_55 : decode cX3_madeBy 55 = .ok (.istore 4, 2) := by decide +kernel
