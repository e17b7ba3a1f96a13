theorem dX3_madeBy_57 : decode cX3_madeBy 57 = .ok (.iinc 5 1, 3) := by decide +kernel
theorem dX3_madeBy_60 : decode cX3_madeBy 60 = .ok (.goto (-52), 3) := by decide +kernel
theorem dX3_madeBy_63 : decode cX3_madeBy 63 = .ok (.iload_n 3, 1) := by decide +kernel
theorem dX3_madeBy_64 : decode cX3_madeBy 64 = .ok (.ireturn, 1) := by decide +kernel
theorem dX4_init_0 : decode cX4_init 0 = .ok (.aload_n 0, 1) := by decide +kernel
theorem dX4_init_1 : decode cX4_init 1 = .ok (.invokespecial 3, 3) := by decide +kernel
theorem dX4_init_4 : decode cX4_init 4 = .ok (.aload_n 0, 1) := by decide +kernel
theorem dX4_init_5 : decode cX4_init 5 = .ok (.bipush 8, 2) := by decide +kernel
theorem dX4_init_7 : decode cX4_init 7 = .ok (.newarray .int, 2) := by decide +kernel
theorem dX4_init_9 : decode cX4_init 9 = .ok (.putfield 11, 3) := by decide +kernel
theorem dX4_init_12 : decode cX4_init 12 = .ok (.aload_n 0, 1) := by decide +kernel
theorem dX4_init_13 : decode cX4_init 13 = .ok (.iconst 0, 1) := by decide +kernel
theorem dX4_init_14 : decode cX4_init 14 = .ok (.putfield 17, 3) := by decide +kernel
theorem dX4_init_17 : decode cX4_init 17 = .ok (.return_, 1) := by decide +kernel
theorem dX4_partWith_0 : decode cX4_partWith 0 = .ok (.iload_n 1, 1) := by decide +kernel
theorem dX4_partWith_1 : decode cX4_partWith 1 = .ok (.ifCond .lt 11, 3) := by decide +kernel
theorem dX4_partWith_4 : decode cX4_partWith 4 = .ok (.iload_n 1, 1) := by decide +kernel
theorem dX4_partWith_5 : decode cX4_partWith 5 = .ok (.aload_n 0, 1) := by decide +kernel
theorem dX4_partWith_6 : decode cX4_partWith 6 = .ok (.getfield 17, 3) := by decide +kernel
theorem dX4_partWith_9 : decode cX4_partWith 9 = .ok (.if_icmp .lt 7, 3) := by decide +kernel
theorem dX4_partWith_12 : decode cX4_partWith 12 = .ok (.iconst 0, 1) := by decide +kernel
theorem dX4_partWith_13 : decode cX4_partWith 13 = .ok (.goto 9, 3) := by decide +kernel
theorem dX4_partWith_16 : decode cX4_partWith 16 = .ok (.aload_n 0, 1) := by decide +kernel
theorem dX4_partWith_17 : decode cX4_partWith 17 = .ok (.getfield 11, 3) := by decide +kernel
theorem dX4_partWith_20 : decode cX4_partWith 20 = .ok (.iload_n 1, 1) := by decide +kernel
theorem dX4_partWith_21 : decode cX4_partWith 21 = .ok (.iaload, 1) := by decide +kernel
theorem dX4_partWith_22 : decode cX4_partWith 22 = .ok (.ireturn, 1) := by decide +kernel
theorem dX4_parts_0 : decode cX4_parts 0 = .ok (.iconst 0, 1) := by decide +kernel
theorem dX4_parts_1 : decode cX4_parts 1 = .ok (.istore_n 1, 1) := by decide +kernel
theorem dX4_parts_2 : decode cX4_parts 2 = .ok (.iconst 0, 1) := by decide +kernel
theorem dX4_parts_3 : decode cX4_parts 3 = .ok (.istore_n 2, 1) := by decide +kernel
theorem dX4_parts_4 : decode cX4_parts 4 = .ok (.iload_n 2, 1) := by decide +kernel
theorem dX4_parts_5 : decode cX4_parts 5 = .ok (.aload_n 0, 1) := by decide +kernel
theorem dX4_parts_6 : decode cX4_parts 6 = .ok (.getfield 17, 3) := by decide +kernel
theorem dX4_parts_9 : decode cX4_parts 9 = .ok (.if_icmp .ge 25, 3) := by decide +kernel
theorem dX4_parts_12 : decode cX4_parts 12 = .ok (.aload_n 0, 1) := by decide +kernel
theorem dX4_parts_13 : decode cX4_parts 13 = .ok (.getfield 11, 3) := by decide +kernel
theorem dX4_parts_16 : decode cX4_parts 16 = .ok (.iload_n 2, 1) := by decide +kernel
theorem dX4_parts_17 : decode cX4_parts 17 = .ok (.iaload, 1) := by decide +kernel
theorem dX4_parts_18 : decode cX4_parts 18 = .ok (.iload_n 2, 1) := by decide +kernel
theorem dX4_parts_19 : decode cX4_parts 19 = .ok (.invokestatic 21, 3) := by decide +kernel
theorem dX4_parts_22 : decode cX4_parts 22 = .ok (.ifCond .ne 6, 3) := by decide +kernel
theorem dX4_parts_25 : decode cX4_parts 25 = .ok (.iinc 1 1, 3) := by decide +kernel
theorem dX4_parts_28 : decode cX4_parts 28 = .ok (.iinc 2 1, 3) := by decide +kernel
theorem dX4_parts_31 : decode cX4_parts 31 = .ok (.goto (-27), 3) := by decide +kernel
theorem dX4_parts_34 : decode cX4_parts 34 = .ok (.iload_n 1, 1) := by decide +kernel
theorem dX4_parts_35 : decode cX4_parts 35 = .ok (.ireturn, 1) := by decide +kernel
theorem dX4_joinComing_0 : decode cX4_joinComing 0 = .ok (.aload_n 0, 1) := by decide +kernel
theorem dX4_joinComing_1 : decode cX4_joinComing 1 = .ok (.iload_n 3, 1) := by decide +kernel
theorem dX4_joinComing_2 : decode cX4_joinComing 2 = .ok (.invokevirtual 25, 3) := by decide +kernel
theorem dX4_joinComing_5 : decode cX4_joinComing 5 = .ok (.iconst 0, 1) := by decide +kernel
theorem dX4_joinComing_6 : decode cX4_joinComing 6 = .ok (.istore 4, 2) := by decide +kernel
theorem dX4_joinComing_8 : decode cX4_joinComing 8 = .ok (.iload 4, 2) := by decide +kernel
theorem dX4_joinComing_10 : decode cX4_joinComing 10 = .ok (.aload_n 1, 1) := by decide +kernel
theorem dX4_joinComing_11 : decode cX4_joinComing 11 = .ok (.arraylength, 1) := by decide +kernel
theorem dX4_joinComing_12 : decode cX4_joinComing 12 = .ok (.if_icmp .ge 52, 3) := by decide +kernel
theorem dX4_joinComing_15 : decode cX4_joinComing 15 = .ok (.iconst 0, 1) := by decide +kernel
theorem dX4_joinComing_16 : decode cX4_joinComing 16 = .ok (.istore 5, 2) := by decide +kernel
theorem dX4_joinComing_18 : decode cX4_joinComing 18 = .ok (.iload 5, 2) := by decide +kernel
theorem dX4_joinComing_20 : decode cX4_joinComing 20 = .ok (.aload_n 0, 1) := by decide +kernel
theorem dX4_joinComing_21 : decode cX4_joinComing 21 = .ok (.getfield 17, 3) := by decide +kernel
theorem dX4_joinComing_24 : decode cX4_joinComing 24 = .ok (.if_icmp .ge 34, 3) := by decide +kernel
theorem dX4_joinComing_27 : decode cX4_joinComing 27 = .ok (.iload_n 2, 1) := by decide +kernel
theorem dX4_joinComing_28 : decode cX4_joinComing 28 = .ok (.iload 4, 2) := by decide +kernel
theorem dX4_joinComing_30 : decode cX4_joinComing 30 = .ok (.invokestatic 29, 3) := by decide +kernel
theorem dX4_joinComing_33 : decode cX4_joinComing 33 = .ok (.ifCond .eq 25, 3) := by decide +kernel
theorem dX4_joinComing_36 : decode cX4_joinComing 36 = .ok (.aload_n 0, 1) := by decide +kernel
theorem dX4_joinComing_37 : decode cX4_joinComing 37 = .ok (.iload 5, 2) := by decide +kernel
theorem dX4_joinComing_39 : decode cX4_joinComing 39 = .ok (.aload_n 1, 1) := by decide +kernel
theorem dX4_joinComing_40 : decode cX4_joinComing 40 = .ok (.iload 4, 2) := by decide +kernel
theorem dX4_joinComing_42 : decode cX4_joinComing 42 = .ok (.iaload, 1) := by decide +kernel
theorem dX4_joinComing_43 : decode cX4_joinComing 43 = .ok (.iload 5, 2) := by decide +kernel
theorem dX4_joinComing_45 : decode cX4_joinComing 45 = .ok (.invokestatic 33, 3) := by decide +kernel
theorem dX4_joinComing_48 : decode cX4_joinComing 48 = .ok (.invokevirtual 36, 3) := by decide +kernel
theorem dX4_joinComing_51 : decode cX4_joinComing 51 = .ok (.pop, 1) := by decide +kernel
theorem dX4_joinComing_52 : decode cX4_joinComing 52 = .ok (.iinc 5 1, 3) := by decide +kernel
theorem dX4_joinComing_55 : decode cX4_joinComing 55 = .ok (.goto (-37), 3) := by decide +kernel
theorem dX4_joinComing_58 : decode cX4_joinComing 58 = .ok (.iinc 4 1, 3) := by decide +kernel
theorem dX4_joinComing_61 : decode cX4_joinComing 61 = .ok (.goto (-53), 3) := by decide +kernel
theorem dX4_joinComing_64 : decode cX4_joinComing 64 = .ok (.return_, 1) := by decide +kernel
theorem dX4_joinBlocks_0 : decode cX4_joinBlocks 0 = .ok (.aload_n 0, 1) := by decide +kernel
theorem dX4_joinBlocks_1 : decode cX4_joinBlocks 1 = .ok (.iload 5, 2) := by decide +kernel
theorem dX4_joinBlocks_3 : decode cX4_joinBlocks 3 = .ok (.invokevirtual 25, 3) := by decide +kernel
theorem dX4_joinBlocks_6 : decode cX4_joinBlocks 6 = .ok (.aload_n 0, 1) := by decide +kernel
theorem dX4_joinBlocks_7 : decode cX4_joinBlocks 7 = .ok (.iload_n 3, 1) := by decide +kernel
theorem dX4_joinBlocks_8 : decode cX4_joinBlocks 8 = .ok (.iload 4, 2) := by decide +kernel
theorem dX4_joinBlocks_10 : decode cX4_joinBlocks 10 = .ok (.invokevirtual 36, 3) := by decide +kernel
theorem dX4_joinBlocks_13 : decode cX4_joinBlocks 13 = .ok (.istore 6, 2) := by decide +kernel
theorem dX4_joinBlocks_15 : decode cX4_joinBlocks 15 = .ok (.iconst 0, 1) := by decide +kernel
theorem dX4_joinBlocks_16 : decode cX4_joinBlocks 16 = .ok (.istore 7, 2) := by decide +kernel
theorem dX4_joinBlocks_18 : decode cX4_joinBlocks 18 = .ok (.iload 7, 2) := by decide +kernel
theorem dX4_joinBlocks_20 : decode cX4_joinBlocks 20 = .ok (.bipush 7, 2) := by decide +kernel
theorem dX4_joinBlocks_22 : decode cX4_joinBlocks 22 = .ok (.if_icmp .ge 56, 3) := by decide +kernel
theorem dX4_joinBlocks_25 : decode cX4_joinBlocks 25 = .ok (.iload 6, 2) := by decide +kernel
theorem dX4_joinBlocks_27 : decode cX4_joinBlocks 27 = .ok (.ifCond .eq 51, 3) := by decide +kernel
theorem dX4_joinBlocks_30 : decode cX4_joinBlocks 30 = .ok (.iconst 0, 1) := by decide +kernel
theorem dX4_joinBlocks_31 : decode cX4_joinBlocks 31 = .ok (.istore 6, 2) := by decide +kernel
theorem dX4_joinBlocks_33 : decode cX4_joinBlocks 33 = .ok (.iconst 0, 1) := by decide +kernel
theorem dX4_joinBlocks_34 : decode cX4_joinBlocks 34 = .ok (.istore 8, 2) := by decide +kernel
theorem dX4_joinBlocks_36 : decode cX4_joinBlocks 36 = .ok (.iload 8, 2) := by decide +kernel
theorem dX4_joinBlocks_38 : decode cX4_joinBlocks 38 = .ok (.aload_n 1, 1) := by decide +kernel
theorem dX4_joinBlocks_39 : decode cX4_joinBlocks 39 = .ok (.arraylength, 1) := by decide +kernel
theorem dX4_joinBlocks_40 : decode cX4_joinBlocks 40 = .ok (.if_icmp .ge 32, 3) := by decide +kernel
theorem dX4_joinBlocks_43 : decode cX4_joinBlocks 43 = .ok (.iload_n 2, 1) := by decide +kernel
theorem dX4_joinBlocks_44 : decode cX4_joinBlocks 44 = .ok (.iload 8, 2) := by decide +kernel
theorem dX4_joinBlocks_46 : decode cX4_joinBlocks 46 = .ok (.invokestatic 29, 3) := by decide +kernel
theorem dX4_joinBlocks_49 : decode cX4_joinBlocks 49 = .ok (.ifCond .eq 17, 3) := by decide +kernel
theorem dX4_joinBlocks_52 : decode cX4_joinBlocks 52 = .ok (.aload_n 0, 1) := by decide +kernel
theorem dX4_joinBlocks_53 : decode cX4_joinBlocks 53 = .ok (.aload_n 1, 1) := by decide +kernel
theorem dX4_joinBlocks_54 : decode cX4_joinBlocks 54 = .ok (.iload 8, 2) := by decide +kernel
theorem dX4_joinBlocks_56 : decode cX4_joinBlocks 56 = .ok (.iaload, 1) := by decide +kernel
theorem dX4_joinBlocks_57 : decode cX4_joinBlocks 57 = .ok (.invokevirtual 39, 3) := by decide +kernel
theorem dX4_joinBlocks_60 : decode cX4_joinBlocks 60 = .ok (.ifCond .eq 6, 3) := by decide +kernel
theorem dX4_joinBlocks_63 : decode cX4_joinBlocks 63 = .ok (.iconst 1, 1) := by decide +kernel
theorem dX4_joinBlocks_64 : decode cX4_joinBlocks 64 = .ok (.istore 6, 2) := by decide +kernel
theorem dX4_joinBlocks_66 : decode cX4_joinBlocks 66 = .ok (.iinc 8 1, 3) := by decide +kernel
theorem dX4_joinBlocks_69 : decode cX4_joinBlocks 69 = .ok (.goto (-33), 3) := by decide +kernel
theorem dX4_joinBlocks_72 : decode cX4_joinBlocks 72 = .ok (.iinc 7 1, 3) := by decide +kernel
theorem dX4_joinBlocks_75 : decode cX4_joinBlocks 75 = .ok (.goto (-57), 3) := by decide +kernel
theorem dX4_joinBlocks_78 : decode cX4_joinBlocks 78 = .ok (.return_, 1) := by decide +kernel
theorem dX4_separate_0 : decode cX4_separate 0 = .ok (.aload_n 0, 1) := by decide +kernel
theorem dX4_separate_1 : decode cX4_separate 1 = .ok (.iload_n 1, 1) := by decide +kernel
theorem dX4_separate_2 : decode cX4_separate 2 = .ok (.putfield 17, 3) := by decide +kernel
theorem dX4_separate_5 : decode cX4_separate 5 = .ok (.iconst 0, 1) := by decide +kernel
theorem dX4_separate_6 : decode cX4_separate 6 = .ok (.istore_n 2, 1) := by decide +kernel
theorem dX4_separate_7 : decode cX4_separate 7 = .ok (.iload_n 2, 1) := by decide +kernel
theorem dX4_separate_8 : decode cX4_separate 8 = .ok (.bipush 8, 2) := by decide +kernel
theorem dX4_separate_10 : decode cX4_separate 10 = .ok (.if_icmp .ge 18, 3) := by decide +kernel
theorem dX4_separate_13 : decode cX4_separate 13 = .ok (.aload_n 0, 1) := by decide +kernel
theorem dX4_separate_14 : decode cX4_separate 14 = .ok (.getfield 11, 3) := by decide +kernel
theorem dX4_separate_17 : decode cX4_separate 17 = .ok (.iload_n 2, 1) := by decide +kernel
theorem dX4_separate_18 : decode cX4_separate 18 = .ok (.iconst 1, 1) := by decide +kernel
theorem dX4_separate_19 : decode cX4_separate 19 = .ok (.iload_n 2, 1) := by decide +kernel
theorem dX4_separate_20 : decode cX4_separate 20 = .ok (.ishl, 1) := by decide +kernel
theorem dX4_separate_21 : decode cX4_separate 21 = .ok (.iastore, 1) := by decide +kernel
theorem dX4_separate_22 : decode cX4_separate 22 = .ok (.iinc 2 1, 3) := by decide +kernel
theorem dX4_separate_25 : decode cX4_separate 25 = .ok (.goto (-18), 3) := by decide +kernel
theorem dX4_separate_28 : decode cX4_separate 28 = .ok (.return_, 1) := by decide +kernel
theorem dX4_joinMoved_0 : decode cX4_joinMoved 0 = .ok (.iconst 0, 1) := by decide +kernel
theorem dX4_joinMoved_1 : decode cX4_joinMoved 1 = .ok (.istore_n 2, 1) := by decide +kernel
theorem dX4_joinMoved_2 : decode cX4_joinMoved 2 = .ok (.iconst 0, 1) := by decide +kernel
theorem dX4_joinMoved_3 : decode cX4_joinMoved 3 = .ok (.istore_n 3, 1) := by decide +kernel
theorem dX4_joinMoved_4 : decode cX4_joinMoved 4 = .ok (.iload_n 3, 1) := by decide +kernel
theorem dX4_joinMoved_5 : decode cX4_joinMoved 5 = .ok (.aload_n 0, 1) := by decide +kernel
theorem dX4_joinMoved_6 : decode cX4_joinMoved 6 = .ok (.getfield 17, 3) := by decide +kernel
theorem dX4_joinMoved_9 : decode cX4_joinMoved 9 = .ok (.if_icmp .ge 58, 3) := by decide +kernel
theorem dX4_joinMoved_12 : decode cX4_joinMoved 12 = .ok (.iconst 0, 1) := by decide +kernel
theorem dX4_joinMoved_13 : decode cX4_joinMoved 13 = .ok (.istore 4, 2) := by decide +kernel
theorem dX4_joinMoved_15 : decode cX4_joinMoved 15 = .ok (.iload 4, 2) := by decide +kernel
theorem dX4_joinMoved_17 : decode cX4_joinMoved 17 = .ok (.iload_n 3, 1) := by decide +kernel
theorem dX4_joinMoved_18 : decode cX4_joinMoved 18 = .ok (.if_icmp .ge 43, 3) := by decide +kernel
theorem dX4_joinMoved_21 : decode cX4_joinMoved 21 = .ok (.aload_n 0, 1) := by decide +kernel
theorem dX4_joinMoved_22 : decode cX4_joinMoved 22 = .ok (.getfield 11, 3) := by decide +kernel
theorem dX4_joinMoved_25 : decode cX4_joinMoved 25 = .ok (.iload_n 3, 1) := by decide +kernel
theorem dX4_joinMoved_26 : decode cX4_joinMoved 26 = .ok (.iaload, 1) := by decide +kernel
theorem dX4_joinMoved_27 : decode cX4_joinMoved 27 = .ok (.iload 4, 2) := by decide +kernel
theorem dX4_joinMoved_29 : decode cX4_joinMoved 29 = .ok (.invokestatic 29, 3) := by decide +kernel
theorem dX4_joinMoved_32 : decode cX4_joinMoved 32 = .ok (.ifCond .eq 23, 3) := by decide +kernel
theorem dX4_joinMoved_35 : decode cX4_joinMoved 35 = .ok (.aload_n 0, 1) := by decide +kernel
theorem dX4_joinMoved_36 : decode cX4_joinMoved 36 = .ok (.iload_n 1, 1) := by decide +kernel
theorem dX4_joinMoved_37 : decode cX4_joinMoved 37 = .ok (.iload_n 3, 1) := by decide +kernel
theorem dX4_joinMoved_38 : decode cX4_joinMoved 38 = .ok (.invokestatic 33, 3) := by decide +kernel
theorem dX4_joinMoved_41 : decode cX4_joinMoved 41 = .ok (.iload_n 1, 1) := by decide +kernel
theorem dX4_joinMoved_42 : decode cX4_joinMoved 42 = .ok (.iload 4, 2) := by decide +kernel
theorem dX4_joinMoved_44 : decode cX4_joinMoved 44 = .ok (.invokestatic 33, 3) := by decide +kernel
theorem dX4_joinMoved_47 : decode cX4_joinMoved 47 = .ok (.invokevirtual 36, 3) := by decide +kernel
theorem dX4_joinMoved_50 : decode cX4_joinMoved 50 = .ok (.ifCond .eq 5, 3) := by decide +kernel
theorem dX4_joinMoved_53 : decode cX4_joinMoved 53 = .ok (.iconst 1, 1) := by decide +kernel
theorem dX4_joinMoved_54 : decode cX4_joinMoved 54 = .ok (.istore_n 2, 1) := by decide +kernel
theorem dX4_joinMoved_55 : decode cX4_joinMoved 55 = .ok (.iinc 4 1, 3) := by decide +kernel
theorem dX4_joinMoved_58 : decode cX4_joinMoved 58 = .ok (.goto (-43), 3) := by decide +kernel
theorem dX4_joinMoved_61 : decode cX4_joinMoved 61 = .ok (.iinc 3 1, 3) := by decide +kernel
theorem dX4_joinMoved_64 : decode cX4_joinMoved 64 = .ok (.goto (-60), 3) := by decide +kernel
theorem dX4_joinMoved_67 : decode cX4_joinMoved 67 = .ok (.iload_n 2, 1) := by decide +kernel
theorem dX4_joinMoved_68 : decode cX4_joinMoved 68 = .ok (.ireturn, 1) := by decide +kernel
theorem dX4_join_0 : decode cX4_join 0 = .ok (.aload_n 0, 1) := by decide +kernel
theorem dX4_join_1 : decode cX4_join 1 = .ok (.getfield 11, 3) := by decide +kernel
theorem dX4_join_4 : decode cX4_join 4 = .ok (.iload_n 1, 1) := by decide +kernel
theorem dX4_join_5 : decode cX4_join 5 = .ok (.iaload, 1) := by decide +kernel
theorem dX4_join_6 : decode cX4_join 6 = .ok (.iload_n 2, 1) := by decide +kernel
theorem dX4_join_7 : decode cX4_join 7 = .ok (.invokestatic 29, 3) := by decide +kernel
theorem dX4_join_10 : decode cX4_join 10 = .ok (.ifCond .eq 5, 3) := by decide +kernel
theorem dX4_join_13 : decode cX4_join 13 = .ok (.iconst 0, 1) := by decide +kernel
theorem dX4_join_14 : decode cX4_join 14 = .ok (.ireturn, 1) := by decide +kernel
theorem dX4_join_15 : decode cX4_join 15 = .ok (.aload_n 0, 1) := by decide +kernel
theorem dX4_join_16 : decode cX4_join 16 = .ok (.getfield 11, 3) := by decide +kernel
theorem dX4_join_19 : decode cX4_join 19 = .ok (.iload_n 1, 1) := by decide +kernel
theorem dX4_join_20 : decode cX4_join 20 = .ok (.iaload, 1) := by decide +kernel
theorem dX4_join_21 : decode cX4_join 21 = .ok (.aload_n 0, 1) := by decide +kernel
theorem dX4_join_22 : decode cX4_join 22 = .ok (.getfield 11, 3) := by decide +kernel
theorem dX4_join_25 : decode cX4_join 25 = .ok (.iload_n 2, 1) := by decide +kernel
theorem dX4_join_26 : decode cX4_join 26 = .ok (.iaload, 1) := by decide +kernel
theorem dX4_join_27 : decode cX4_join 27 = .ok (.ior, 1) := by decide +kernel
theorem dX4_join_28 : decode cX4_join 28 = .ok (.istore_n 3, 1) := by decide +kernel
theorem dX4_join_29 : decode cX4_join 29 = .ok (.iconst 0, 1) := by decide +kernel
theorem dX4_join_30 : decode cX4_join 30 = .ok (.istore 4, 2) := by decide +kernel
theorem dX4_join_32 : decode cX4_join 32 = .ok (.iload 4, 2) := by decide +kernel
theorem dX4_join_34 : decode cX4_join 34 = .ok (.bipush 8, 2) := by decide +kernel
theorem dX4_join_36 : decode cX4_join 36 = .ok (.if_icmp .ge 26, 3) := by decide +kernel
theorem dX4_join_39 : decode cX4_join 39 = .ok (.iload_n 3, 1) := by decide +kernel
theorem dX4_join_40 : decode cX4_join 40 = .ok (.iload 4, 2) := by decide +kernel
theorem dX4_join_42 : decode cX4_join 42 = .ok (.invokestatic 29, 3) := by decide +kernel
theorem dX4_join_45 : decode cX4_join 45 = .ok (.ifCond .eq 11, 3) := by decide +kernel
theorem dX4_join_48 : decode cX4_join 48 = .ok (.aload_n 0, 1) := by decide +kernel
theorem dX4_join_49 : decode cX4_join 49 = .ok (.getfield 11, 3) := by decide +kernel
theorem dX4_join_52 : decode cX4_join 52 = .ok (.iload 4, 2) := by decide +kernel
theorem dX4_join_54 : decode cX4_join 54 = .ok (.iload_n 3, 1) := by decide +kernel
theorem dX4_join_55 : decode cX4_join 55 = .ok (.iastore, 1) := by decide +kernel
theorem dX4_join_56 : decode cX4_join 56 = .ok (.iinc 4 1, 3) := by decide +kernel
theorem dX4_join_59 : decode cX4_join 59 = .ok (.goto (-27), 3) := by decide +kernel
theorem dX4_join_62 : decode cX4_join 62 = .ok (.iconst 1, 1) := by decide +kernel
theorem dX4_join_63 : decode cX4_join 63 = .ok (.ireturn, 1) := by decide +kernel
theorem dX5_init_0 : decode cX5_init 0 = .ok (.aload_n 0, 1) := by decide +kernel
theorem dX5_init_1 : decode cX5_init 1 = .ok (.invokespecial 3, 3) := by decide +kernel
theorem dX5_init_4 : decode cX5_init 4 = .ok (.aload_n 0, 1) := by decide +kernel
theorem dX5_init_5 : decode cX5_init 5 = .ok (.new 9, 3) := by decide +kernel
theorem dX5_init_8 : decode cX5_init 8 = .ok (.dup, 1) := by decide +kernel
theorem dX5_init_9 : decode cX5_init 9 = .ok (.sipush 5040, 3) := by decide +kernel
theorem dX5_init_12 : decode cX5_init 12 = .ok (.invokespecial 11, 3) := by decide +kernel
theorem dX5_init_15 : decode cX5_init 15 = .ok (.putfield 14, 3) := by decide +kernel
theorem dX5_init_18 : decode cX5_init 18 = .ok (.aload_n 0, 1) := by decide +kernel
theorem dX5_init_19 : decode cX5_init 19 = .ok (.iconst 0, 1) := by decide +kernel
theorem dX5_init_20 : decode cX5_init 20 = .ok (.putfield 20, 3) := by decide +kernel
theorem dX5_init_23 : decode cX5_init 23 = .ok (.return_, 1) := by decide +kernel
theorem dX5_goThrough_0 : decode cX5_goThrough 0 = .ok (.aload_n 0, 1) := by decide +kernel
theorem dX5_goThrough_1 : decode cX5_goThrough 1 = .ok (.iload_n 3, 1) := by decide +kernel
theorem dX5_goThrough_2 : decode cX5_goThrough 2 = .ok (.putfield 20, 3) := by decide +kernel
theorem dX5_goThrough_5 : decode cX5_goThrough 5 = .ok (.aload_n 0, 1) := by decide +kernel
theorem dX5_goThrough_6 : decode cX5_goThrough 6 = .ok (.getfield 14, 3) := by decide +kernel
theorem dX5_goThrough_9 : decode cX5_goThrough 9 = .ok (.invokevirtual 24, 3) := by decide +kernel
theorem dX5_goThrough_12 : decode cX5_goThrough 12 = .ok (.aload_n 0, 1) := by decide +kernel
theorem dX5_goThrough_13 : decode cX5_goThrough 13 = .ok (.getfield 14, 3) := by decide +kernel
theorem dX5_goThrough_16 : decode cX5_goThrough 16 = .ok (.ldc 29, 2) := by decide +kernel
theorem dX5_goThrough_18 : decode cX5_goThrough 18 = .ok (.ldc 29, 2) := by decide +kernel
theorem dX5_goThrough_20 : decode cX5_goThrough 20 = .ok (.aload_n 0, 1) := by decide +kernel
theorem dX5_goThrough_21 : decode cX5_goThrough 21 = .ok (.getfield 20, 3) := by decide +kernel
theorem dX5_goThrough_24 : decode cX5_goThrough 24 = .ok (.invokestatic 30, 3) := by decide +kernel
theorem dX5_goThrough_27 : decode cX5_goThrough 27 = .ok (.invokevirtual 34, 3) := by decide +kernel
theorem dX5_goThrough_30 : decode cX5_goThrough 30 = .ok (.pop, 1) := by decide +kernel
theorem dX5_goThrough_31 : decode cX5_goThrough 31 = .ok (.iconst 0, 1) := by decide +kernel
theorem dX5_goThrough_32 : decode cX5_goThrough 32 = .ok (.istore 4, 2) := by decide +kernel
theorem dX5_goThrough_34 : decode cX5_goThrough 34 = .ok (.iconst 0, 1) := by decide +kernel
theorem dX5_goThrough_35 : decode cX5_goThrough 35 = .ok (.istore 5, 2) := by decide +kernel
theorem dX5_goThrough_37 : decode cX5_goThrough 37 = .ok (.iload 5, 2) := by decide +kernel
theorem dX5_goThrough_39 : decode cX5_goThrough 39 = .ok (.aload_n 1, 1) := by decide +kernel
theorem dX5_goThrough_40 : decode cX5_goThrough 40 = .ok (.arraylength, 1) := by decide +kernel
theorem dX5_goThrough_41 : decode cX5_goThrough 41 = .ok (.if_icmp .ge 55, 3) := by decide +kernel
theorem dX5_goThrough_44 : decode cX5_goThrough 44 = .ok (.iload_n 2, 1) := by decide +kernel
theorem dX5_goThrough_45 : decode cX5_goThrough 45 = .ok (.iload 5, 2) := by decide +kernel
theorem dX5_goThrough_47 : decode cX5_goThrough 47 = .ok (.invokestatic 38, 3) := by decide +kernel
theorem dX5_goThrough_50 : decode cX5_goThrough 50 = .ok (.ifCond .eq 40, 3) := by decide +kernel
theorem dX5_goThrough_53 : decode cX5_goThrough 53 = .ok (.aload_n 0, 1) := by decide +kernel
theorem dX5_goThrough_54 : decode cX5_goThrough 54 = .ok (.getfield 14, 3) := by decide +kernel
theorem dX5_goThrough_57 : decode cX5_goThrough 57 = .ok (.aload_n 1, 1) := by decide +kernel
theorem dX5_goThrough_58 : decode cX5_goThrough 58 = .ok (.iload 5, 2) := by decide +kernel
theorem dX5_goThrough_60 : decode cX5_goThrough 60 = .ok (.iaload, 1) := by decide +kernel
theorem dX5_goThrough_61 : decode cX5_goThrough 61 = .ok (.aload_n 0, 1) := by decide +kernel
theorem dX5_goThrough_62 : decode cX5_goThrough 62 = .ok (.getfield 20, 3) := by decide +kernel
theorem dX5_goThrough_65 : decode cX5_goThrough 65 = .ok (.invokestatic 30, 3) := by decide +kernel
theorem dX5_goThrough_68 : decode cX5_goThrough 68 = .ok (.invokevirtual 41, 3) := by decide +kernel
theorem dX5_goThrough_71 : decode cX5_goThrough 71 = .ok (.ifCond .ne 19, 3) := by decide +kernel
theorem dX5_goThrough_74 : decode cX5_goThrough 74 = .ok (.iload 4, 2) := by decide +kernel
theorem dX5_goThrough_76 : decode cX5_goThrough 76 = .ok (.iconst 1, 1) := by decide +kernel
theorem dX5_goThrough_77 : decode cX5_goThrough 77 = .ok (.iload 5, 2) := by decide +kernel
theorem dX5_goThrough_79 : decode cX5_goThrough 79 = .ok (.ishl, 1) := by decide +kernel
theorem dX5_goThrough_80 : decode cX5_goThrough 80 = .ok (.ior, 1) := by decide +kernel
theorem dX5_goThrough_81 : decode cX5_goThrough 81 = .ok (.istore 4, 2) := by decide +kernel
theorem dX5_goThrough_83 : decode cX5_goThrough 83 = .ok (.aload_n 0, 1) := by decide +kernel
theorem dX5_goThrough_84 : decode cX5_goThrough 84 = .ok (.aload_n 1, 1) := by decide +kernel
theorem dX5_goThrough_85 : decode cX5_goThrough 85 = .ok (.iload 4, 2) := by decide +kernel
theorem dX5_goThrough_87 : decode cX5_goThrough 87 = .ok (.invokevirtual 45, 3) := by decide +kernel
theorem dX5_goThrough_90 : decode cX5_goThrough 90 = .ok (.iinc 5 1, 3) := by decide +kernel
theorem dX5_goThrough_93 : decode cX5_goThrough 93 = .ok (.goto (-56), 3) := by decide +kernel
theorem dX5_goThrough_96 : decode cX5_goThrough 96 = .ok (.return_, 1) := by decide +kernel
theorem dX5_length_0 : decode cX5_length 0 = .ok (.aload_n 0, 1) := by decide +kernel
theorem dX5_length_1 : decode cX5_length 1 = .ok (.getfield 14, 3) := by decide +kernel
theorem dX5_length_4 : decode cX5_length 4 = .ok (.invokevirtual 49, 3) := by decide +kernel
theorem dX5_length_7 : decode cX5_length 7 = .ok (.ireturn, 1) := by decide +kernel
theorem dX5_meets_0 : decode cX5_meets 0 = .ok (.iconst 0, 1) := by decide +kernel
theorem dX5_meets_1 : decode cX5_meets 1 = .ok (.istore_n 2, 1) := by decide +kernel
theorem dX5_meets_2 : decode cX5_meets 2 = .ok (.iload_n 2, 1) := by decide +kernel
theorem dX5_meets_3 : decode cX5_meets 3 = .ok (.aload_n 0, 1) := by decide +kernel
theorem dX5_meets_4 : decode cX5_meets 4 = .ok (.getfield 14, 3) := by decide +kernel
theorem dX5_meets_7 : decode cX5_meets 7 = .ok (.invokevirtual 49, 3) := by decide +kernel
theorem dX5_meets_10 : decode cX5_meets 10 = .ok (.if_icmp .ge 23, 3) := by decide +kernel
theorem dX5_meets_13 : decode cX5_meets 13 = .ok (.aload_n 0, 1) := by decide +kernel
theorem dX5_meets_14 : decode cX5_meets 14 = .ok (.getfield 14, 3) := by decide +kernel
theorem dX5_meets_17 : decode cX5_meets 17 = .ok (.iload_n 2, 1) := by decide +kernel
theorem dX5_meets_18 : decode cX5_meets 18 = .ok (.invokevirtual 53, 3) := by decide +kernel
theorem dX5_meets_21 : decode cX5_meets 21 = .ok (.iload_n 1, 1) := by decide +kernel
theorem dX5_meets_22 : decode cX5_meets 22 = .ok (.if_icmp .ne 5, 3) := by decide +kernel
theorem dX5_meets_25 : decode cX5_meets 25 = .ok (.iconst 1, 1) := by decide +kernel
theorem dX5_meets_26 : decode cX5_meets 26 = .ok (.ireturn, 1) := by decide +kernel
theorem dX5_meets_27 : decode cX5_meets 27 = .ok (.iinc 2 1, 3) := by decide +kernel
theorem dX5_meets_30 : decode cX5_meets 30 = .ok (.goto (-28), 3) := by decide +kernel
theorem dX5_meets_33 : decode cX5_meets 33 = .ok (.iconst 0, 1) := by decide +kernel
theorem dX5_meets_34 : decode cX5_meets 34 = .ok (.ireturn, 1) := by decide +kernel
theorem dX5_howManyOfOrder_0 : decode cX5_howManyOfOrder 0 = .ok (.iconst 0, 1) := by decide +kernel
theorem dX5_howManyOfOrder_1 : decode cX5_howManyOfOrder 1 = .ok (.istore_n 2, 1) := by decide +kernel
theorem dX5_howManyOfOrder_2 : decode cX5_howManyOfOrder 2 = .ok (.iconst 0, 1) := by decide +kernel
theorem dX5_howManyOfOrder_3 : decode cX5_howManyOfOrder 3 = .ok (.istore_n 3, 1) := by decide +kernel
theorem dX5_howManyOfOrder_4 : decode cX5_howManyOfOrder 4 = .ok (.iload_n 3, 1) := by decide +kernel
theorem dX5_howManyOfOrder_5 : decode cX5_howManyOfOrder 5 = .ok (.aload_n 0, 1) := by decide +kernel
theorem dX5_howManyOfOrder_6 : decode cX5_howManyOfOrder 6 = .ok (.getfield 14, 3) := by decide +kernel
theorem dX5_howManyOfOrder_9 : decode cX5_howManyOfOrder 9 = .ok (.invokevirtual 49, 3) := by decide +kernel
theorem dX5_howManyOfOrder_12 : decode cX5_howManyOfOrder 12 = .ok (.if_icmp .ge 27, 3) := by decide +kernel
theorem dX5_howManyOfOrder_15 : decode cX5_howManyOfOrder 15 = .ok (.aload_n 0, 1) := by decide +kernel
theorem dX5_howManyOfOrder_16 : decode cX5_howManyOfOrder 16 = .ok (.getfield 14, 3) := by decide +kernel
theorem dX5_howManyOfOrder_19 : decode cX5_howManyOfOrder 19 = .ok (.iload_n 3, 1) := by decide +kernel
theorem dX5_howManyOfOrder_20 : decode cX5_howManyOfOrder 20 = .ok (.invokevirtual 53, 3) := by decide +kernel
theorem dX5_howManyOfOrder_23 : decode cX5_howManyOfOrder 23 = .ok (.invokestatic 57, 3) := by decide +kernel
theorem dX5_howManyOfOrder_26 : decode cX5_howManyOfOrder 26 = .ok (.iload_n 1, 1) := by decide +kernel
theorem dX5_howManyOfOrder_27 : decode cX5_howManyOfOrder 27 = .ok (.if_icmp .ne 6, 3) := by decide +kernel
theorem dX5_howManyOfOrder_30 : decode cX5_howManyOfOrder 30 = .ok (.iinc 2 1, 3) := by decide +kernel
theorem dX5_howManyOfOrder_33 : decode cX5_howManyOfOrder 33 = .ok (.iinc 3 1, 3) := by decide +kernel
theorem dX5_howManyOfOrder_36 : decode cX5_howManyOfOrder 36 = .ok (.goto (-32), 3) := by decide +kernel
theorem dX5_howManyOfOrder_39 : decode cX5_howManyOfOrder 39 = .ok (.iload_n 2, 1) := by decide +kernel
theorem dX5_howManyOfOrder_40 : decode cX5_howManyOfOrder 40 = .ok (.ireturn, 1) := by decide +kernel
theorem dX5_howManyEven_0 : decode cX5_howManyEven 0 = .ok (.iconst 0, 1) := by decide +kernel
theorem dX5_howManyEven_1 : decode cX5_howManyEven 1 = .ok (.istore_n 1, 1) := by decide +kernel
theorem dX5_howManyEven_2 : decode cX5_howManyEven 2 = .ok (.iconst 0, 1) := by decide +kernel
theorem dX5_howManyEven_3 : decode cX5_howManyEven 3 = .ok (.istore_n 2, 1) := by decide +kernel
theorem dX5_howManyEven_4 : decode cX5_howManyEven 4 = .ok (.iload_n 2, 1) := by decide +kernel
theorem dX5_howManyEven_5 : decode cX5_howManyEven 5 = .ok (.aload_n 0, 1) := by decide +kernel
theorem dX5_howManyEven_6 : decode cX5_howManyEven 6 = .ok (.getfield 14, 3) := by decide +kernel
theorem dX5_howManyEven_9 : decode cX5_howManyEven 9 = .ok (.invokevirtual 49, 3) := by decide +kernel
theorem dX5_howManyEven_12 : decode cX5_howManyEven 12 = .ok (.if_icmp .ge 31, 3) := by decide +kernel
theorem dX5_howManyEven_15 : decode cX5_howManyEven 15 = .ok (.aload_n 0, 1) := by decide +kernel
theorem dX5_howManyEven_16 : decode cX5_howManyEven 16 = .ok (.getfield 14, 3) := by decide +kernel
theorem dX5_howManyEven_19 : decode cX5_howManyEven 19 = .ok (.iload_n 2, 1) := by decide +kernel
theorem dX5_howManyEven_20 : decode cX5_howManyEven 20 = .ok (.invokevirtual 53, 3) := by decide +kernel
theorem dX5_howManyEven_23 : decode cX5_howManyEven 23 = .ok (.aload_n 0, 1) := by decide +kernel
theorem dX5_howManyEven_24 : decode cX5_howManyEven 24 = .ok (.getfield 20, 3) := by decide +kernel
theorem dX5_howManyEven_27 : decode cX5_howManyEven 27 = .ok (.invokestatic 60, 3) := by decide +kernel
theorem dX5_howManyEven_30 : decode cX5_howManyEven 30 = .ok (.iconst 1, 1) := by decide +kernel
theorem dX5_howManyEven_31 : decode cX5_howManyEven 31 = .ok (.if_icmp .ne 6, 3) := by decide +kernel
theorem dX5_howManyEven_34 : decode cX5_howManyEven 34 = .ok (.iinc 1 1, 3) := by decide +kernel
theorem dX5_howManyEven_37 : decode cX5_howManyEven 37 = .ok (.iinc 2 1, 3) := by decide +kernel
theorem dX5_howManyEven_40 : decode cX5_howManyEven 40 = .ok (.goto (-36), 3) := by decide +kernel
theorem dX5_howManyEven_43 : decode cX5_howManyEven 43 = .ok (.iload_n 1, 1) := by decide +kernel
theorem dX5_howManyEven_44 : decode cX5_howManyEven 44 = .ok (.ireturn, 1) := by decide +kernel
theorem dX5_colouringsByMean_0 : decode cX5_colouringsByMean 0 = .ok (.iconst 0, 1) := by decide +kernel
theorem dX5_colouringsByMean_1 : decode cX5_colouringsByMean 1 = .ok (.istore_n 2, 1) := by decide +kernel
theorem dX5_colouringsByMean_2 : decode cX5_colouringsByMean 2 = .ok (.iconst 0, 1) := by decide +kernel
theorem dX5_colouringsByMean_3 : decode cX5_colouringsByMean 3 = .ok (.istore_n 3, 1) := by decide +kernel
theorem dX5_colouringsByMean_4 : decode cX5_colouringsByMean 4 = .ok (.iload_n 3, 1) := by decide +kernel
theorem dX5_colouringsByMean_5 : decode cX5_colouringsByMean 5 = .ok (.aload_n 0, 1) := by decide +kernel
theorem dX5_colouringsByMean_6 : decode cX5_colouringsByMean 6 = .ok (.getfield 14, 3) := by decide +kernel
theorem dX5_colouringsByMean_9 : decode cX5_colouringsByMean 9 = .ok (.invokevirtual 49, 3) := by decide +kernel
theorem dX5_colouringsByMean_12 : decode cX5_colouringsByMean 12 = .ok (.if_icmp .ge 51, 3) := by decide +kernel
theorem dX5_colouringsByMean_15 : decode cX5_colouringsByMean 15 = .ok (.iconst 1, 1) := by decide +kernel
theorem dX5_colouringsByMean_16 : decode cX5_colouringsByMean 16 = .ok (.istore 4, 2) := by decide +kernel
theorem dX5_colouringsByMean_18 : decode cX5_colouringsByMean 18 = .ok (.aload_n 0, 1) := by decide +kernel
theorem dX5_colouringsByMean_19 : decode cX5_colouringsByMean 19 = .ok (.getfield 14, 3) := by decide +kernel
theorem dX5_colouringsByMean_22 : decode cX5_colouringsByMean 22 = .ok (.iload_n 3, 1) := by decide +kernel
theorem dX5_colouringsByMean_23 : decode cX5_colouringsByMean 23 = .ok (.invokevirtual 53, 3) := by decide +kernel
theorem dX5_colouringsByMean_26 : decode cX5_colouringsByMean 26 = .ok (.aload_n 0, 1) := by decide +kernel
theorem dX5_colouringsByMean_27 : decode cX5_colouringsByMean 27 = .ok (.getfield 20, 3) := by decide +kernel
theorem dX5_colouringsByMean_30 : decode cX5_colouringsByMean 30 = .ok (.invokestatic 63, 3) := by decide +kernel
theorem dX5_colouringsByMean_33 : decode cX5_colouringsByMean 33 = .ok (.istore 5, 2) := by decide +kernel
theorem dX5_colouringsByMean_35 : decode cX5_colouringsByMean 35 = .ok (.iload 5, 2) := by decide +kernel
theorem dX5_colouringsByMean_37 : decode cX5_colouringsByMean 37 = .ok (.ifCond .le 15, 3) := by decide +kernel
theorem dX5_colouringsByMean_40 : decode cX5_colouringsByMean 40 = .ok (.iload 4, 2) := by decide +kernel
theorem dX5_colouringsByMean_42 : decode cX5_colouringsByMean 42 = .ok (.iload_n 1, 1) := by decide +kernel
theorem dX5_colouringsByMean_43 : decode cX5_colouringsByMean 43 = .ok (.imul, 1) := by decide +kernel
theorem dX5_colouringsByMean_44 : decode cX5_colouringsByMean 44 = .ok (.istore 4, 2) := by decide +kernel
theorem dX5_colouringsByMean_46 : decode cX5_colouringsByMean 46 = .ok (.iinc 5 (-1), 3) := by decide +kernel
theorem dX5_colouringsByMean_49 : decode cX5_colouringsByMean 49 = .ok (.goto (-14), 3) := by decide +kernel
theorem dX5_colouringsByMean_52 : decode cX5_colouringsByMean 52 = .ok (.iload_n 2, 1) := by decide +kernel
theorem dX5_colouringsByMean_53 : decode cX5_colouringsByMean 53 = .ok (.iload 4, 2) := by decide +kernel
theorem dX5_colouringsByMean_55 : decode cX5_colouringsByMean 55 = .ok (.iadd, 1) := by decide +kernel
theorem dX5_colouringsByMean_56 : decode cX5_colouringsByMean 56 = .ok (.istore_n 2, 1) := by decide +kernel
theorem dX5_colouringsByMean_57 : decode cX5_colouringsByMean 57 = .ok (.iinc 3 1, 3) := by decide +kernel
theorem dX5_colouringsByMean_60 : decode cX5_colouringsByMean 60 = .ok (.goto (-56), 3) := by decide +kernel
theorem dX5_colouringsByMean_63 : decode cX5_colouringsByMean 63 = .ok (.iload_n 2, 1) := by decide +kernel
theorem dX5_colouringsByMean_64 : decode cX5_colouringsByMean 64 = .ok (.aload_n 0, 1) := by decide +kernel
theorem dX5_colouringsByMean_65 : decode cX5_colouringsByMean 65 = .ok (.getfield 14, 3) := by decide +kernel
theorem dX5_colouringsByMean_68 : decode cX5_colouringsByMean 68 = .ok (.invokevirtual 49, 3) := by decide +kernel
theorem dX5_colouringsByMean_71 : decode cX5_colouringsByMean 71 = .ok (.invokestatic 66, 3) := by decide +kernel
theorem dX5_colouringsByMean_74 : decode cX5_colouringsByMean 74 = .ok (.ireturn, 1) := by decide +kernel
theorem dX5_spread_0 : decode cX5_spread 0 = .ok (.iconst 0, 1) := by decide +kernel
theorem dX5_spread_1 : decode cX5_spread 1 = .ok (.istore_n 3, 1) := by decide +kernel
theorem dX5_spread_2 : decode cX5_spread 2 = .ok (.iload_n 3, 1) := by decide +kernel
theorem dX5_spread_3 : decode cX5_spread 3 = .ok (.sipush 5040, 3) := by decide +kernel
theorem dX5_spread_6 : decode cX5_spread 6 = .ok (.if_icmp .ge 81, 3) := by decide +kernel
theorem dX5_spread_9 : decode cX5_spread 9 = .ok (.iload_n 3, 1) := by decide +kernel
theorem dX5_spread_10 : decode cX5_spread 10 = .ok (.aload_n 0, 1) := by decide +kernel
theorem dX5_spread_11 : decode cX5_spread 11 = .ok (.getfield 14, 3) := by decide +kernel
theorem dX5_spread_14 : decode cX5_spread 14 = .ok (.invokevirtual 49, 3) := by decide +kernel
theorem dX5_spread_17 : decode cX5_spread 17 = .ok (.if_icmp .ge 70, 3) := by decide +kernel
theorem dX5_spread_20 : decode cX5_spread 20 = .ok (.iconst 0, 1) := by decide +kernel
theorem dX5_spread_21 : decode cX5_spread 21 = .ok (.istore 4, 2) := by decide +kernel
theorem dX5_spread_23 : decode cX5_spread 23 = .ok (.iload 4, 2) := by decide +kernel
theorem dX5_spread_25 : decode cX5_spread 25 = .ok (.aload_n 1, 1) := by decide +kernel
theorem dX5_spread_26 : decode cX5_spread 26 = .ok (.arraylength, 1) := by decide +kernel
theorem dX5_spread_27 : decode cX5_spread 27 = .ok (.if_icmp .ge 54, 3) := by decide +kernel
theorem dX5_spread_30 : decode cX5_spread 30 = .ok (.iload_n 2, 1) := by decide +kernel
theorem dX5_spread_31 : decode cX5_spread 31 = .ok (.iload 4, 2) := by decide +kernel
theorem dX5_spread_33 : decode cX5_spread 33 = .ok (.invokestatic 38, 3) := by decide +kernel
theorem dX5_spread_36 : decode cX5_spread 36 = .ok (.ifCond .eq 39, 3) := by decide +kernel
theorem dX5_spread_39 : decode cX5_spread 39 = .ok (.aload_n 0, 1) := by decide +kernel
theorem dX5_spread_40 : decode cX5_spread 40 = .ok (.getfield 14, 3) := by decide +kernel
theorem dX5_spread_43 : decode cX5_spread 43 = .ok (.iload_n 3, 1) := by decide +kernel
theorem dX5_spread_44 : decode cX5_spread 44 = .ok (.invokevirtual 53, 3) := by decide +kernel
theorem dX5_spread_47 : decode cX5_spread 47 = .ok (.aload_n 1, 1) := by decide +kernel
theorem dX5_spread_48 : decode cX5_spread 48 = .ok (.iload 4, 2) := by decide +kernel
theorem dX5_spread_50 : decode cX5_spread 50 = .ok (.iaload, 1) := by decide +kernel
theorem dX5_spread_51 : decode cX5_spread 51 = .ok (.invokestatic 69, 3) := by decide +kernel
theorem dX5_spread_54 : decode cX5_spread 54 = .ok (.istore 5, 2) := by decide +kernel
theorem dX5_spread_56 : decode cX5_spread 56 = .ok (.aload_n 0, 1) := by decide +kernel
theorem dX5_spread_57 : decode cX5_spread 57 = .ok (.getfield 14, 3) := by decide +kernel
theorem dX5_spread_60 : decode cX5_spread 60 = .ok (.iload 5, 2) := by decide +kernel
theorem dX5_spread_62 : decode cX5_spread 62 = .ok (.iload 5, 2) := by decide +kernel
theorem dX5_spread_64 : decode cX5_spread 64 = .ok (.aload_n 0, 1) := by decide +kernel
theorem dX5_spread_65 : decode cX5_spread 65 = .ok (.getfield 20, 3) := by decide +kernel
theorem dX5_spread_68 : decode cX5_spread 68 = .ok (.invokestatic 30, 3) := by decide +kernel
theorem dX5_spread_71 : decode cX5_spread 71 = .ok (.invokevirtual 34, 3) := by decide +kernel
theorem dX5_spread_74 : decode cX5_spread 74 = .ok (.pop, 1) := by decide +kernel
theorem dX5_spread_75 : decode cX5_spread 75 = .ok (.iinc 4 1, 3) := by decide +kernel
theorem dX5_spread_78 : decode cX5_spread 78 = .ok (.goto (-55), 3) := by decide +kernel
theorem dX5_spread_81 : decode cX5_spread 81 = .ok (.iinc 3 1, 3) := by decide +kernel
theorem dX5_spread_84 : decode cX5_spread 84 = .ok (.goto (-82), 3) := by decide +kernel
theorem dX5_spread_87 : decode cX5_spread 87 = .ok (.return_, 1) := by decide +kernel
theorem dX6_init_0 : decode cX6_init 0 = .ok (.aload_n 0, 1) := by decide +kernel
theorem dX6_init_1 : decode cX6_init 1 = .ok (.invokespecial 1, 3) := by decide +kernel
theorem dX6_init_4 : decode cX6_init 4 = .ok (.aload_n 0, 1) := by decide +kernel
theorem dX6_init_5 : decode cX6_init 5 = .ok (.bipush 6, 2) := by decide +kernel
theorem dX6_init_7 : decode cX6_init 7 = .ok (.newarray .int, 2) := by decide +kernel
theorem dX6_init_9 : decode cX6_init 9 = .ok (.putfield 9, 3) := by decide +kernel
theorem dX6_init_12 : decode cX6_init 12 = .ok (.aload_n 0, 1) := by decide +kernel
theorem dX6_init_13 : decode cX6_init 13 = .ok (.new 13, 3) := by decide +kernel
theorem dX6_init_16 : decode cX6_init 16 = .ok (.dup, 1) := by decide +kernel
theorem dX6_init_17 : decode cX6_init 17 = .ok (.invokespecial 15, 3) := by decide +kernel
theorem dX6_init_20 : decode cX6_init 20 = .ok (.putfield 16, 3) := by decide +kernel
theorem dX6_init_23 : decode cX6_init 23 = .ok (.aload_n 0, 1) := by decide +kernel
theorem dX6_init_24 : decode cX6_init 24 = .ok (.new 20, 3) := by decide +kernel
theorem dX6_init_27 : decode cX6_init 27 = .ok (.dup, 1) := by decide +kernel
theorem dX6_init_28 : decode cX6_init 28 = .ok (.invokespecial 22, 3) := by decide +kernel
theorem dX6_init_31 : decode cX6_init 31 = .ok (.putfield 23, 3) := by decide +kernel
theorem dX6_init_34 : decode cX6_init 34 = .ok (.aload_n 0, 1) := by decide +kernel
theorem dX6_init_35 : decode cX6_init 35 = .ok (.new 27, 3) := by decide +kernel
theorem dX6_init_38 : decode cX6_init 38 = .ok (.dup, 1) := by decide +kernel
theorem dX6_init_39 : decode cX6_init 39 = .ok (.invokespecial 29, 3) := by decide +kernel
theorem dX6_init_42 : decode cX6_init 42 = .ok (.putfield 30, 3) := by decide +kernel
theorem dX6_init_45 : decode cX6_init 45 = .ok (.aload_n 0, 1) := by decide +kernel
theorem dX6_init_46 : decode cX6_init 46 = .ok (.new 34, 3) := by decide +kernel
theorem dX6_init_49 : decode cX6_init 49 = .ok (.dup, 1) := by decide +kernel
theorem dX6_init_50 : decode cX6_init 50 = .ok (.invokespecial 36, 3) := by decide +kernel
theorem dX6_init_53 : decode cX6_init 53 = .ok (.putfield 37, 3) := by decide +kernel
theorem dX6_init_56 : decode cX6_init 56 = .ok (.aload_n 0, 1) := by decide +kernel
theorem dX6_init_57 : decode cX6_init 57 = .ok (.iconst 4, 1) := by decide +kernel
theorem dX6_init_58 : decode cX6_init 58 = .ok (.putfield 41, 3) := by decide +kernel
theorem dX6_init_61 : decode cX6_init 61 = .ok (.aload_n 0, 1) := by decide +kernel
theorem dX6_init_62 : decode cX6_init 62 = .ok (.iconst 0, 1) := by decide +kernel
theorem dX6_init_63 : decode cX6_init 63 = .ok (.putfield 45, 3) := by decide +kernel
theorem dX6_init_66 : decode cX6_init 66 = .ok (.aload_n 0, 1) := by decide +kernel
theorem dX6_init_67 : decode cX6_init 67 = .ok (.iconst 0, 1) := by decide +kernel
theorem dX6_init_68 : decode cX6_init 68 = .ok (.putfield 48, 3) := by decide +kernel
theorem dX6_init_71 : decode cX6_init 71 = .ok (.aload_n 0, 1) := by decide +kernel
theorem dX6_init_72 : decode cX6_init 72 = .ok (.iconst 0, 1) := by decide +kernel
theorem dX6_init_73 : decode cX6_init 73 = .ok (.putfield 51, 3) := by decide +kernel
theorem dX6_init_76 : decode cX6_init 76 = .ok (.aload_n 0, 1) := by decide +kernel
theorem dX6_init_77 : decode cX6_init 77 = .ok (.getfield 9, 3) := by decide +kernel
theorem dX6_init_80 : decode cX6_init 80 = .ok (.ldc 56, 2) := by decide +kernel
theorem dX6_init_82 : decode cX6_init 82 = .ok (.invokestatic 57, 3) := by decide +kernel
theorem dX6_init_85 : decode cX6_init 85 = .ok (.return_, 1) := by decide +kernel
theorem dX6_points_0 : decode cX6_points 0 = .ok (.iload_n 1, 1) := by decide +kernel
theorem dX6_points_1 : decode cX6_points 1 = .ok (.iconst 2, 1) := by decide +kernel
theorem dX6_points_2 : decode cX6_points 2 = .ok (.bipush 7, 2) := by decide +kernel
theorem dX6_points_4 : decode cX6_points 4 = .ok (.invokestatic 63, 3) := by decide +kernel
theorem dX6_points_7 : decode cX6_points 7 = .ok (.aload_n 0, 1) := by decide +kernel
theorem dX6_points_8 : decode cX6_points 8 = .ok (.getfield 41, 3) := by decide +kernel
theorem dX6_points_11 : decode cX6_points 11 = .ok (.istore_n 2, 1) := by decide +kernel
theorem dX6_points_12 : decode cX6_points 12 = .ok (.aload_n 0, 1) := by decide +kernel
theorem dX6_points_13 : decode cX6_points 13 = .ok (.iload_n 1, 1) := by decide +kernel
theorem dX6_points_14 : decode cX6_points 14 = .ok (.putfield 41, 3) := by decide +kernel
theorem dX6_points_17 : decode cX6_points 17 = .ok (.aload_n 0, 1) := by decide +kernel
theorem dX6_points_18 : decode cX6_points 18 = .ok (.getfield 9, 3) := by decide +kernel
theorem dX6_points_21 : decode cX6_points 21 = .ok (.ldc 56, 2) := by decide +kernel
theorem dX6_points_23 : decode cX6_points 23 = .ok (.invokestatic 57, 3) := by decide +kernel
theorem dX6_points_26 : decode cX6_points 26 = .ok (.aload_n 0, 1) := by decide +kernel
theorem dX6_points_27 : decode cX6_points 27 = .ok (.dup, 1) := by decide +kernel
theorem dX6_points_28 : decode cX6_points 28 = .ok (.getfield 45, 3) := by decide +kernel
theorem dX6_points_31 : decode cX6_points 31 = .ok (.iconst 1, 1) := by decide +kernel
theorem dX6_points_32 : decode cX6_points 32 = .ok (.iadd, 1) := by decide +kernel
theorem dX6_points_33 : decode cX6_points 33 = .ok (.putfield 45, 3) := by decide +kernel
theorem dX6_points_36 : decode cX6_points 36 = .ok (.iload_n 2, 1) := by decide +kernel
theorem dX6_points_37 : decode cX6_points 37 = .ok (.ireturn, 1) := by decide +kernel
theorem dX6_lay_0 : decode cX6_lay 0 = .ok (.iload_n 1, 1) := by decide +kernel
theorem dX6_lay_1 : decode cX6_lay 1 = .ok (.invokestatic 67, 3) := by decide +kernel
theorem dX6_lay_4 : decode cX6_lay 4 = .ok (.iload_n 2, 1) := by decide +kernel
theorem dX6_lay_5 : decode cX6_lay 5 = .ok (.iconst 0, 1) := by decide +kernel
theorem dX6_lay_6 : decode cX6_lay 6 = .ok (.aload_n 0, 1) := by decide +kernel
theorem dX6_lay_7 : decode cX6_lay 7 = .ok (.getfield 41, 3) := by decide +kernel
theorem dX6_lay_10 : decode cX6_lay 10 = .ok (.invokestatic 71, 3) := by decide +kernel
theorem dX6_lay_13 : decode cX6_lay 13 = .ok (.iconst 1, 1) := by decide +kernel
theorem dX6_lay_14 : decode cX6_lay 14 = .ok (.isub, 1) := by decide +kernel
theorem dX6_lay_15 : decode cX6_lay 15 = .ok (.invokestatic 63, 3) := by decide +kernel
theorem dX6_lay_18 : decode cX6_lay 18 = .ok (.aload_n 0, 1) := by decide +kernel
theorem dX6_lay_19 : decode cX6_lay 19 = .ok (.getfield 9, 3) := by decide +kernel
theorem dX6_lay_22 : decode cX6_lay 22 = .ok (.iload_n 1, 1) := by decide +kernel
theorem dX6_lay_23 : decode cX6_lay 23 = .ok (.iaload, 1) := by decide +kernel
theorem dX6_lay_24 : decode cX6_lay 24 = .ok (.aload_n 0, 1) := by decide +kernel
theorem dX6_lay_25 : decode cX6_lay 25 = .ok (.getfield 41, 3) := by decide +kernel
theorem dX6_lay_28 : decode cX6_lay 28 = .ok (.invokestatic 75, 3) := by decide +kernel
theorem dX6_lay_31 : decode cX6_lay 31 = .ok (.istore_n 3, 1) := by decide +kernel
theorem dX6_lay_32 : decode cX6_lay 32 = .ok (.aload_n 0, 1) := by decide +kernel
theorem dX6_lay_33 : decode cX6_lay 33 = .ok (.iload_n 1, 1) := by decide +kernel
theorem dX6_lay_34 : decode cX6_lay 34 = .ok (.iload_n 2, 1) := by decide +kernel
theorem dX6_lay_35 : decode cX6_lay 35 = .ok (.aload_n 0, 1) := by decide +kernel
theorem dX6_lay_36 : decode cX6_lay 36 = .ok (.getfield 41, 3) := by decide +kernel
theorem dX6_lay_39 : decode cX6_lay 39 = .ok (.invokestatic 79, 3) := by decide +kernel
theorem dX6_lay_42 : decode cX6_lay 42 = .ok (.invokevirtual 82, 3) := by decide +kernel
theorem dX6_lay_45 : decode cX6_lay 45 = .ok (.iload_n 3, 1) := by decide +kernel
theorem dX6_lay_46 : decode cX6_lay 46 = .ok (.ireturn, 1) := by decide +kernel
theorem dX6_exchange_0 : decode cX6_exchange 0 = .ok (.iload_n 1, 1) := by decide +kernel
theorem dX6_exchange_1 : decode cX6_exchange 1 = .ok (.invokestatic 67, 3) := by decide +kernel
theorem dX6_exchange_4 : decode cX6_exchange 4 = .ok (.aload_n 0, 1) := by decide +kernel
theorem dX6_exchange_5 : decode cX6_exchange 5 = .ok (.iload_n 2, 1) := by decide +kernel
theorem dX6_exchange_6 : decode cX6_exchange 6 = .ok (.invokevirtual 86, 3) := by decide +kernel
theorem dX6_exchange_9 : decode cX6_exchange 9 = .ok (.aload_n 0, 1) := by decide +kernel
theorem dX6_exchange_10 : decode cX6_exchange 10 = .ok (.iload_n 3, 1) := by decide +kernel
theorem dX6_exchange_11 : decode cX6_exchange 11 = .ok (.invokevirtual 86, 3) := by decide +kernel
theorem dX6_exchange_14 : decode cX6_exchange 14 = .ok (.ldc 56, 2) := by decide +kernel
theorem dX6_exchange_16 : decode cX6_exchange 16 = .ok (.iload_n 2, 1) := by decide +kernel
theorem dX6_exchange_17 : decode cX6_exchange 17 = .ok (.iload_n 3, 1) := by decide +kernel
theorem dX6_exchange_18 : decode cX6_exchange 18 = .ok (.invokestatic 89, 3) := by decide +kernel
theorem dX6_exchange_21 : decode cX6_exchange 21 = .ok (.iload_n 3, 1) := by decide +kernel
theorem dX6_exchange_22 : decode cX6_exchange 22 = .ok (.iload_n 2, 1) := by decide +kernel
theorem dX6_exchange_23 : decode cX6_exchange 23 = .ok (.invokestatic 89, 3) := by decide +kernel
theorem dX6_exchange_26 : decode cX6_exchange 26 = .ok (.istore 4, 2) := by decide +kernel
theorem dX6_exchange_28 : decode cX6_exchange 28 = .ok (.aload_n 0, 1) := by decide +kernel
theorem dX6_exchange_29 : decode cX6_exchange 29 = .ok (.iload_n 1, 1) := by decide +kernel
theorem dX6_exchange_30 : decode cX6_exchange 30 = .ok (.aload_n 0, 1) := by decide +kernel
theorem dX6_exchange_31 : decode cX6_exchange 31 = .ok (.getfield 9, 3) := by decide +kernel
theorem dX6_exchange_34 : decode cX6_exchange 34 = .ok (.iload_n 1, 1) := by decide +kernel
theorem dX6_exchange_35 : decode cX6_exchange 35 = .ok (.iaload, 1) := by decide +kernel
theorem dX6_exchange_36 : decode cX6_exchange 36 = .ok (.iload 4, 2) := by decide +kernel
theorem dX6_exchange_38 : decode cX6_exchange 38 = .ok (.invokestatic 93, 3) := by decide +kernel
theorem dX6_exchange_41 : decode cX6_exchange 41 = .ok (.invokevirtual 96, 3) := by decide +kernel
theorem dX6_exchange_44 : decode cX6_exchange 44 = .ok (.ireturn, 1) := by decide +kernel
theorem dX6_ring_0 : decode cX6_ring 0 = .ok (.iload_n 1, 1) := by decide +kernel
theorem dX6_ring_1 : decode cX6_ring 1 = .ok (.invokestatic 67, 3) := by decide +kernel
theorem dX6_ring_4 : decode cX6_ring 4 = .ok (.aload_n 0, 1) := by decide +kernel
theorem dX6_ring_5 : decode cX6_ring 5 = .ok (.iload_n 2, 1) := by decide +kernel
theorem dX6_ring_6 : decode cX6_ring 6 = .ok (.invokevirtual 86, 3) := by decide +kernel
theorem dX6_ring_9 : decode cX6_ring 9 = .ok (.aload_n 0, 1) := by decide +kernel
theorem dX6_ring_10 : decode cX6_ring 10 = .ok (.iload_n 3, 1) := by decide +kernel
theorem dX6_ring_11 : decode cX6_ring 11 = .ok (.invokevirtual 86, 3) := by decide +kernel
theorem dX6_ring_14 : decode cX6_ring 14 = .ok (.aload_n 0, 1) := by decide +kernel
theorem dX6_ring_15 : decode cX6_ring 15 = .ok (.iload 4, 2) := by decide +kernel
theorem dX6_ring_17 : decode cX6_ring 17 = .ok (.invokevirtual 86, 3) := by decide +kernel
theorem dX6_ring_20 : decode cX6_ring 20 = .ok (.iload_n 2, 1) := by decide +kernel
theorem dX6_ring_21 : decode cX6_ring 21 = .ok (.iload_n 3, 1) := by decide +kernel
theorem dX6_ring_22 : decode cX6_ring 22 = .ok (.if_icmp .eq 19, 3) := by decide +kernel
theorem dX6_ring_25 : decode cX6_ring 25 = .ok (.iload_n 3, 1) := by decide +kernel
theorem dX6_ring_26 : decode cX6_ring 26 = .ok (.iload 4, 2) := by decide +kernel
theorem dX6_ring_28 : decode cX6_ring 28 = .ok (.if_icmp .eq 13, 3) := by decide +kernel
theorem dX6_ring_31 : decode cX6_ring 31 = .ok (.iload 4, 2) := by decide +kernel
theorem dX6_ring_33 : decode cX6_ring 33 = .ok (.iload_n 2, 1) := by decide +kernel
theorem dX6_ring_34 : decode cX6_ring 34 = .ok (.if_icmp .eq 7, 3) := by decide +kernel
theorem dX6_ring_37 : decode cX6_ring 37 = .ok (.iconst 1, 1) := by decide +kernel
theorem dX6_ring_38 : decode cX6_ring 38 = .ok (.goto 4, 3) := by decide +kernel
theorem dX6_ring_41 : decode cX6_ring 41 = .ok (.iconst 0, 1) := by decide +kernel
theorem dX6_ring_42 : decode cX6_ring 42 = .ok (.invokestatic 99, 3) := by decide +kernel
theorem dX6_ring_45 : decode cX6_ring 45 = .ok (.ldc 56, 2) := by decide +kernel
theorem dX6_ring_47 : decode cX6_ring 47 = .ok (.iload_n 2, 1) := by decide +kernel
theorem dX6_ring_48 : decode cX6_ring 48 = .ok (.iload_n 3, 1) := by decide +kernel
theorem dX6_ring_49 : decode cX6_ring 49 = .ok (.invokestatic 89, 3) := by decide +kernel
theorem dX6_ring_52 : decode cX6_ring 52 = .ok (.iload_n 3, 1) := by decide +kernel
theorem dX6_ring_53 : decode cX6_ring 53 = .ok (.iload 4, 2) := by decide +kernel
theorem dX6_ring_55 : decode cX6_ring 55 = .ok (.invokestatic 89, 3) := by decide +kernel
theorem dX6_ring_58 : decode cX6_ring 58 = .ok (.iload 4, 2) := by decide +kernel
theorem dX6_ring_60 : decode cX6_ring 60 = .ok (.iload_n 2, 1) := by decide +kernel
theorem dX6_ring_61 : decode cX6_ring 61 = .ok (.invokestatic 89, 3) := by decide +kernel
theorem dX6_ring_64 : decode cX6_ring 64 = .ok (.istore 5, 2) := by decide +kernel
theorem dX6_ring_66 : decode cX6_ring 66 = .ok (.aload_n 0, 1) := by decide +kernel
theorem dX6_ring_67 : decode cX6_ring 67 = .ok (.iload_n 1, 1) := by decide +kernel
theorem dX6_ring_68 : decode cX6_ring 68 = .ok (.aload_n 0, 1) := by decide +kernel
theorem dX6_ring_69 : decode cX6_ring 69 = .ok (.getfield 9, 3) := by decide +kernel
theorem dX6_ring_72 : decode cX6_ring 72 = .ok (.iload_n 1, 1) := by decide +kernel
theorem dX6_ring_73 : decode cX6_ring 73 = .ok (.iaload, 1) := by decide +kernel
theorem dX6_ring_74 : decode cX6_ring 74 = .ok (.iload 5, 2) := by decide +kernel
theorem dX6_ring_76 : decode cX6_ring 76 = .ok (.invokestatic 93, 3) := by decide +kernel
theorem dX6_ring_79 : decode cX6_ring 79 = .ok (.invokevirtual 96, 3) := by decide +kernel
theorem dX6_ring_82 : decode cX6_ring 82 = .ok (.ireturn, 1) := by decide +kernel
theorem dX6_turn_0 : decode cX6_turn 0 = .ok (.iload_n 1, 1) := by decide +kernel
theorem dX6_turn_1 : decode cX6_turn 1 = .ok (.invokestatic 67, 3) := by decide +kernel
theorem dX6_turn_4 : decode cX6_turn 4 = .ok (.iload_n 2, 1) := by decide +kernel
theorem dX6_turn_5 : decode cX6_turn 5 = .ok (.bipush (-100), 2) := by decide +kernel
theorem dX6_turn_7 : decode cX6_turn 7 = .ok (.bipush 100, 2) := by decide +kernel
theorem dX6_turn_9 : decode cX6_turn 9 = .ok (.invokestatic 63, 3) := by decide +kernel
theorem dX6_turn_12 : decode cX6_turn 12 = .ok (.ldc 56, 2) := by decide +kernel
theorem dX6_turn_14 : decode cX6_turn 14 = .ok (.istore_n 3, 1) := by decide +kernel
theorem dX6_turn_15 : decode cX6_turn 15 = .ok (.iconst 0, 1) := by decide +kernel
theorem dX6_turn_16 : decode cX6_turn 16 = .ok (.istore 4, 2) := by decide +kernel
theorem dX6_turn_18 : decode cX6_turn 18 = .ok (.iload 4, 2) := by decide +kernel
theorem dX6_turn_20 : decode cX6_turn 20 = .ok (.aload_n 0, 1) := by decide +kernel
theorem dX6_turn_21 : decode cX6_turn 21 = .ok (.getfield 41, 3) := by decide +kernel
theorem dX6_turn_24 : decode cX6_turn 24 = .ok (.if_icmp .ge 27, 3) := by decide +kernel
theorem dX6_turn_27 : decode cX6_turn 27 = .ok (.iload_n 3, 1) := by decide +kernel
theorem dX6_turn_28 : decode cX6_turn 28 = .ok (.iload 4, 2) := by decide +kernel
theorem dX6_turn_30 : decode cX6_turn 30 = .ok (.iload 4, 2) := by decide +kernel
theorem dX6_turn_32 : decode cX6_turn 32 = .ok (.iload_n 2, 1) := by decide +kernel
theorem dX6_turn_33 : decode cX6_turn 33 = .ok (.iadd, 1) := by decide +kernel
theorem dX6_turn_34 : decode cX6_turn 34 = .ok (.aload_n 0, 1) := by decide +kernel
theorem dX6_turn_35 : decode cX6_turn 35 = .ok (.getfield 41, 3) := by decide +kernel
theorem dX6_turn_38 : decode cX6_turn 38 = .ok (.invokestatic 103, 3) := by decide +kernel
theorem dX6_turn_41 : decode cX6_turn 41 = .ok (.invokestatic 89, 3) := by decide +kernel
theorem dX6_turn_44 : decode cX6_turn 44 = .ok (.istore_n 3, 1) := by decide +kernel
theorem dX6_turn_45 : decode cX6_turn 45 = .ok (.iinc 4 1, 3) := by decide +kernel
theorem dX6_turn_48 : decode cX6_turn 48 = .ok (.goto (-30), 3) := by decide +kernel
theorem dX6_turn_51 : decode cX6_turn 51 = .ok (.aload_n 0, 1) := by decide +kernel
theorem dX6_turn_52 : decode cX6_turn 52 = .ok (.iload_n 1, 1) := by decide +kernel
theorem dX6_turn_53 : decode cX6_turn 53 = .ok (.aload_n 0, 1) := by decide +kernel
theorem dX6_turn_54 : decode cX6_turn 54 = .ok (.getfield 9, 3) := by decide +kernel
theorem dX6_turn_57 : decode cX6_turn 57 = .ok (.iload_n 1, 1) := by decide +kernel
theorem dX6_turn_58 : decode cX6_turn 58 = .ok (.iaload, 1) := by decide +kernel
theorem dX6_turn_59 : decode cX6_turn 59 = .ok (.iload_n 3, 1) := by decide +kernel
theorem dX6_turn_60 : decode cX6_turn 60 = .ok (.invokestatic 93, 3) := by decide +kernel
theorem dX6_turn_63 : decode cX6_turn 63 = .ok (.invokevirtual 96, 3) := by decide +kernel
theorem dX6_turn_66 : decode cX6_turn 66 = .ok (.ireturn, 1) := by decide +kernel
theorem dX6_mirror_0 : decode cX6_mirror 0 = .ok (.iload_n 1, 1) := by decide +kernel
theorem dX6_mirror_1 : decode cX6_mirror 1 = .ok (.invokestatic 67, 3) := by decide +kernel
theorem dX6_mirror_4 : decode cX6_mirror 4 = .ok (.ldc 56, 2) := by decide +kernel
theorem dX6_mirror_6 : decode cX6_mirror 6 = .ok (.istore_n 2, 1) := by decide +kernel
theorem dX6_mirror_7 : decode cX6_mirror 7 = .ok (.iconst 0, 1) := by decide +kernel
theorem dX6_mirror_8 : decode cX6_mirror 8 = .ok (.istore_n 3, 1) := by decide +kernel
theorem dX6_mirror_9 : decode cX6_mirror 9 = .ok (.iload_n 3, 1) := by decide +kernel
theorem dX6_mirror_10 : decode cX6_mirror 10 = .ok (.aload_n 0, 1) := by decide +kernel
theorem dX6_mirror_11 : decode cX6_mirror 11 = .ok (.getfield 41, 3) := by decide +kernel
theorem dX6_mirror_14 : decode cX6_mirror 14 = .ok (.if_icmp .ge 23, 3) := by decide +kernel
theorem dX6_mirror_17 : decode cX6_mirror 17 = .ok (.iload_n 2, 1) := by decide +kernel
theorem dX6_mirror_18 : decode cX6_mirror 18 = .ok (.iload_n 3, 1) := by decide +kernel
theorem dX6_mirror_19 : decode cX6_mirror 19 = .ok (.aload_n 0, 1) := by decide +kernel
theorem dX6_mirror_20 : decode cX6_mirror 20 = .ok (.getfield 41, 3) := by decide +kernel
theorem dX6_mirror_23 : decode cX6_mirror 23 = .ok (.iconst 1, 1) := by decide +kernel
theorem dX6_mirror_24 : decode cX6_mirror 24 = .ok (.isub, 1) := by decide +kernel
theorem dX6_mirror_25 : decode cX6_mirror 25 = .ok (.iload_n 3, 1) := by decide +kernel
theorem dX6_mirror_26 : decode cX6_mirror 26 = .ok (.isub, 1) := by decide +kernel
theorem dX6_mirror_27 : decode cX6_mirror 27 = .ok (.invokestatic 89, 3) := by decide +kernel
theorem dX6_mirror_30 : decode cX6_mirror 30 = .ok (.istore_n 2, 1) := by decide +kernel
theorem dX6_mirror_31 : decode cX6_mirror 31 = .ok (.iinc 3 1, 3) := by decide +kernel
theorem dX6_mirror_34 : decode cX6_mirror 34 = .ok (.goto (-25), 3) := by decide +kernel
theorem dX6_mirror_37 : decode cX6_mirror 37 = .ok (.aload_n 0, 1) := by decide +kernel
theorem dX6_mirror_38 : decode cX6_mirror 38 = .ok (.iload_n 1, 1) := by decide +kernel
theorem dX6_mirror_39 : decode cX6_mirror 39 = .ok (.aload_n 0, 1) := by decide +kernel
theorem dX6_mirror_40 : decode cX6_mirror 40 = .ok (.getfield 9, 3) := by decide +kernel
theorem dX6_mirror_43 : decode cX6_mirror 43 = .ok (.iload_n 1, 1) := by decide +kernel
theorem dX6_mirror_44 : decode cX6_mirror 44 = .ok (.iaload, 1) := by decide +kernel
theorem dX6_mirror_45 : decode cX6_mirror 45 = .ok (.iload_n 2, 1) := by decide +kernel
theorem dX6_mirror_46 : decode cX6_mirror 46 = .ok (.invokestatic 93, 3) := by decide +kernel
theorem dX6_mirror_49 : decode cX6_mirror 49 = .ok (.invokevirtual 96, 3) := by decide +kernel
theorem dX6_mirror_52 : decode cX6_mirror 52 = .ok (.ireturn, 1) := by decide +kernel
theorem dX6_copy_0 : decode cX6_copy 0 = .ok (.iload_n 1, 1) := by decide +kernel
theorem dX6_copy_1 : decode cX6_copy 1 = .ok (.invokestatic 67, 3) := by decide +kernel
theorem dX6_copy_4 : decode cX6_copy 4 = .ok (.iload_n 2, 1) := by decide +kernel
theorem dX6_copy_5 : decode cX6_copy 5 = .ok (.invokestatic 67, 3) := by decide +kernel
theorem dX6_copy_8 : decode cX6_copy 8 = .ok (.aload_n 0, 1) := by decide +kernel
theorem dX6_copy_9 : decode cX6_copy 9 = .ok (.getfield 9, 3) := by decide +kernel
theorem dX6_copy_12 : decode cX6_copy 12 = .ok (.iload_n 2, 1) := by decide +kernel
theorem dX6_copy_13 : decode cX6_copy 13 = .ok (.iaload, 1) := by decide +kernel
theorem dX6_copy_14 : decode cX6_copy 14 = .ok (.istore_n 3, 1) := by decide +kernel
theorem dX6_copy_15 : decode cX6_copy 15 = .ok (.aload_n 0, 1) := by decide +kernel
theorem dX6_copy_16 : decode cX6_copy 16 = .ok (.iload_n 2, 1) := by decide +kernel
theorem dX6_copy_17 : decode cX6_copy 17 = .ok (.aload_n 0, 1) := by decide +kernel
theorem dX6_copy_18 : decode cX6_copy 18 = .ok (.getfield 9, 3) := by decide +kernel
theorem dX6_copy_21 : decode cX6_copy 21 = .ok (.iload_n 1, 1) := by decide +kernel
theorem dX6_copy_22 : decode cX6_copy 22 = .ok (.iaload, 1) := by decide +kernel
theorem dX6_copy_23 : decode cX6_copy 23 = .ok (.invokevirtual 82, 3) := by decide +kernel
theorem dX6_copy_26 : decode cX6_copy 26 = .ok (.iload_n 3, 1) := by decide +kernel
theorem dX6_copy_27 : decode cX6_copy 27 = .ok (.aload_n 0, 1) := by decide +kernel
theorem dX6_copy_28 : decode cX6_copy 28 = .ok (.getfield 9, 3) := by decide +kernel
theorem dX6_copy_31 : decode cX6_copy 31 = .ok (.iload_n 2, 1) := by decide +kernel
theorem dX6_copy_32 : decode cX6_copy 32 = .ok (.iaload, 1) := by decide +kernel
theorem dX6_copy_33 : decode cX6_copy 33 = .ok (.if_icmp .eq 7, 3) := by decide +kernel
theorem dX6_copy_36 : decode cX6_copy 36 = .ok (.iconst 1, 1) := by decide +kernel
theorem dX6_copy_37 : decode cX6_copy 37 = .ok (.goto 4, 3) := by decide +kernel
theorem dX6_copy_40 : decode cX6_copy 40 = .ok (.iconst 0, 1) := by decide +kernel
theorem dX6_copy_41 : decode cX6_copy 41 = .ok (.ireturn, 1) := by decide +kernel
theorem dX6_swap_0 : decode cX6_swap 0 = .ok (.iload_n 1, 1) := by decide +kernel
theorem dX6_swap_1 : decode cX6_swap 1 = .ok (.invokestatic 67, 3) := by decide +kernel
theorem dX6_swap_4 : decode cX6_swap 4 = .ok (.iload_n 2, 1) := by decide +kernel
theorem dX6_swap_5 : decode cX6_swap 5 = .ok (.invokestatic 67, 3) := by decide +kernel
theorem dX6_swap_8 : decode cX6_swap 8 = .ok (.aload_n 0, 1) := by decide +kernel
theorem dX6_swap_9 : decode cX6_swap 9 = .ok (.getfield 9, 3) := by decide +kernel
theorem dX6_swap_12 : decode cX6_swap 12 = .ok (.iload_n 1, 1) := by decide +kernel
theorem dX6_swap_13 : decode cX6_swap 13 = .ok (.iaload, 1) := by decide +kernel
theorem dX6_swap_14 : decode cX6_swap 14 = .ok (.istore_n 3, 1) := by decide +kernel
theorem dX6_swap_15 : decode cX6_swap 15 = .ok (.aload_n 0, 1) := by decide +kernel
theorem dX6_swap_16 : decode cX6_swap 16 = .ok (.getfield 9, 3) := by decide +kernel
theorem dX6_swap_19 : decode cX6_swap 19 = .ok (.iload_n 2, 1) := by decide +kernel
theorem dX6_swap_20 : decode cX6_swap 20 = .ok (.iaload, 1) := by decide +kernel
theorem dX6_swap_21 : decode cX6_swap 21 = .ok (.istore 4, 2) := by decide +kernel
theorem dX6_swap_23 : decode cX6_swap 23 = .ok (.aload_n 0, 1) := by decide +kernel
theorem dX6_swap_24 : decode cX6_swap 24 = .ok (.getfield 9, 3) := by decide +kernel
theorem dX6_swap_27 : decode cX6_swap 27 = .ok (.iload_n 1, 1) := by decide +kernel
theorem dX6_swap_28 : decode cX6_swap 28 = .ok (.iload 4, 2) := by decide +kernel
theorem dX6_swap_30 : decode cX6_swap 30 = .ok (.iastore, 1) := by decide +kernel
theorem dX6_swap_31 : decode cX6_swap 31 = .ok (.aload_n 0, 1) := by decide +kernel
theorem dX6_swap_32 : decode cX6_swap 32 = .ok (.iload_n 2, 1) := by decide +kernel
theorem dX6_swap_33 : decode cX6_swap 33 = .ok (.iload_n 3, 1) := by decide +kernel
theorem dX6_swap_34 : decode cX6_swap 34 = .ok (.invokevirtual 82, 3) := by decide +kernel
theorem dX6_swap_37 : decode cX6_swap 37 = .ok (.iload_n 3, 1) := by decide +kernel
theorem dX6_swap_38 : decode cX6_swap 38 = .ok (.iload 4, 2) := by decide +kernel
theorem dX6_swap_40 : decode cX6_swap 40 = .ok (.if_icmp .eq 7, 3) := by decide +kernel
theorem dX6_swap_43 : decode cX6_swap 43 = .ok (.iconst 1, 1) := by decide +kernel
theorem dX6_swap_44 : decode cX6_swap 44 = .ok (.goto 4, 3) := by decide +kernel
theorem dX6_swap_47 : decode cX6_swap 47 = .ok (.iconst 0, 1) := by decide +kernel
theorem dX6_swap_48 : decode cX6_swap 48 = .ok (.ireturn, 1) := by decide +kernel
theorem dX6_then_0 : decode cX6_then 0 = .ok (.iload_n 1, 1) := by decide +kernel
theorem dX6_then_1 : decode cX6_then 1 = .ok (.invokestatic 67, 3) := by decide +kernel
theorem dX6_then_4 : decode cX6_then 4 = .ok (.iload_n 2, 1) := by decide +kernel
theorem dX6_then_5 : decode cX6_then 5 = .ok (.invokestatic 67, 3) := by decide +kernel
theorem dX6_then_8 : decode cX6_then 8 = .ok (.iload_n 3, 1) := by decide +kernel
theorem dX6_then_9 : decode cX6_then 9 = .ok (.invokestatic 67, 3) := by decide +kernel
theorem dX6_then_12 : decode cX6_then 12 = .ok (.aload_n 0, 1) := by decide +kernel
theorem dX6_then_13 : decode cX6_then 13 = .ok (.iload_n 3, 1) := by decide +kernel
theorem dX6_then_14 : decode cX6_then 14 = .ok (.aload_n 0, 1) := by decide +kernel
theorem dX6_then_15 : decode cX6_then 15 = .ok (.getfield 9, 3) := by decide +kernel
theorem dX6_then_18 : decode cX6_then 18 = .ok (.iload_n 1, 1) := by decide +kernel
theorem dX6_then_19 : decode cX6_then 19 = .ok (.iaload, 1) := by decide +kernel
theorem dX6_then_20 : decode cX6_then 20 = .ok (.aload_n 0, 1) := by decide +kernel
theorem dX6_then_21 : decode cX6_then 21 = .ok (.getfield 9, 3) := by decide +kernel
theorem dX6_then_24 : decode cX6_then 24 = .ok (.iload_n 2, 1) := by decide +kernel
theorem dX6_then_25 : decode cX6_then 25 = .ok (.iaload, 1) := by decide +kernel
theorem dX6_then_26 : decode cX6_then 26 = .ok (.invokestatic 93, 3) := by decide +kernel
theorem dX6_then_29 : decode cX6_then 29 = .ok (.invokevirtual 106, 3) := by decide +kernel
theorem dX6_then_32 : decode cX6_then 32 = .ok (.ireturn, 1) := by decide +kernel
theorem dX6_undo_0 : decode cX6_undo 0 = .ok (.iload_n 1, 1) := by decide +kernel
theorem dX6_undo_1 : decode cX6_undo 1 = .ok (.invokestatic 67, 3) := by decide +kernel
theorem dX6_undo_4 : decode cX6_undo 4 = .ok (.iload_n 2, 1) := by decide +kernel
theorem dX6_undo_5 : decode cX6_undo 5 = .ok (.invokestatic 67, 3) := by decide +kernel
theorem dX6_undo_8 : decode cX6_undo 8 = .ok (.aload_n 0, 1) := by decide +kernel
theorem dX6_undo_9 : decode cX6_undo 9 = .ok (.iload_n 2, 1) := by decide +kernel
theorem dX6_undo_10 : decode cX6_undo 10 = .ok (.aload_n 0, 1) := by decide +kernel
theorem dX6_undo_11 : decode cX6_undo 11 = .ok (.getfield 9, 3) := by decide +kernel
theorem dX6_undo_14 : decode cX6_undo 14 = .ok (.iload_n 1, 1) := by decide +kernel
theorem dX6_undo_15 : decode cX6_undo 15 = .ok (.iaload, 1) := by decide +kernel
theorem dX6_undo_16 : decode cX6_undo 16 = .ok (.invokestatic 109, 3) := by decide +kernel
theorem dX6_undo_19 : decode cX6_undo 19 = .ok (.invokevirtual 106, 3) := by decide +kernel
theorem dX6_undo_22 : decode cX6_undo 22 = .ok (.ireturn, 1) := by decide +kernel
theorem dX6_power_0 : decode cX6_power 0 = .ok (.iload_n 1, 1) := by decide +kernel
theorem dX6_power_1 : decode cX6_power 1 = .ok (.invokestatic 67, 3) := by decide +kernel
theorem dX6_power_4 : decode cX6_power 4 = .ok (.iload_n 3, 1) := by decide +kernel
theorem dX6_power_5 : decode cX6_power 5 = .ok (.invokestatic 67, 3) := by decide +kernel
theorem dX6_power_8 : decode cX6_power 8 = .ok (.iload_n 2, 1) := by decide +kernel
theorem dX6_power_9 : decode cX6_power 9 = .ok (.sipush (-1000), 3) := by decide +kernel
theorem dX6_power_12 : decode cX6_power 12 = .ok (.sipush 1000, 3) := by decide +kernel
theorem dX6_power_15 : decode cX6_power 15 = .ok (.invokestatic 63, 3) := by decide +kernel
theorem dX6_power_18 : decode cX6_power 18 = .ok (.iload_n 2, 1) := by decide +kernel
theorem dX6_power_19 : decode cX6_power 19 = .ok (.ifCond .ge 15, 3) := by decide +kernel
theorem dX6_power_22 : decode cX6_power 22 = .ok (.aload_n 0, 1) := by decide +kernel
theorem dX6_power_23 : decode cX6_power 23 = .ok (.getfield 9, 3) := by decide +kernel
theorem dX6_power_26 : decode cX6_power 26 = .ok (.iload_n 1, 1) := by decide +kernel
theorem dX6_power_27 : decode cX6_power 27 = .ok (.iaload, 1) := by decide +kernel
theorem dX6_power_28 : decode cX6_power 28 = .ok (.invokestatic 109, 3) := by decide +kernel
theorem dX6_power_31 : decode cX6_power 31 = .ok (.goto 9, 3) := by decide +kernel
theorem dX6_power_34 : decode cX6_power 34 = .ok (.aload_n 0, 1) := by decide +kernel
theorem dX6_power_35 : decode cX6_power 35 = .ok (.getfield 9, 3) := by decide +kernel
theorem dX6_power_38 : decode cX6_power 38 = .ok (.iload_n 1, 1) := by decide +kernel
theorem dX6_power_39 : decode cX6_power 39 = .ok (.iaload, 1) := by decide +kernel
theorem dX6_power_40 : decode cX6_power 40 = .ok (.istore 4, 2) := by decide +kernel
theorem dX6_power_42 : decode cX6_power 42 = .ok (.aload_n 0, 1) := by decide +kernel
theorem dX6_power_43 : decode cX6_power 43 = .ok (.iload_n 3, 1) := by decide +kernel
theorem dX6_power_44 : decode cX6_power 44 = .ok (.iload 4, 2) := by decide +kernel
theorem dX6_power_46 : decode cX6_power 46 = .ok (.iload_n 2, 1) := by decide +kernel
theorem dX6_power_47 : decode cX6_power 47 = .ok (.invokestatic 112, 3) := by decide +kernel
theorem dX6_power_50 : decode cX6_power 50 = .ok (.invokestatic 117, 3) := by decide +kernel
theorem dX6_power_53 : decode cX6_power 53 = .ok (.invokevirtual 106, 3) := by decide +kernel
theorem dX6_power_56 : decode cX6_power 56 = .ok (.ireturn, 1) := by decide +kernel
theorem dX6_rename_0 : decode cX6_rename 0 = .ok (.iload_n 1, 1) := by decide +kernel
theorem dX6_rename_1 : decode cX6_rename 1 = .ok (.invokestatic 67, 3) := by decide +kernel
theorem dX6_rename_4 : decode cX6_rename 4 = .ok (.iload_n 2, 1) := by decide +kernel
theorem dX6_rename_5 : decode cX6_rename 5 = .ok (.invokestatic 67, 3) := by decide +kernel
theorem dX6_rename_8 : decode cX6_rename 8 = .ok (.iload_n 3, 1) := by decide +kernel
theorem dX6_rename_9 : decode cX6_rename 9 = .ok (.invokestatic 67, 3) := by decide +kernel
theorem dX6_rename_12 : decode cX6_rename 12 = .ok (.aload_n 0, 1) := by decide +kernel
theorem dX6_rename_13 : decode cX6_rename 13 = .ok (.getfield 9, 3) := by decide +kernel
theorem dX6_rename_16 : decode cX6_rename 16 = .ok (.iload_n 2, 1) := by decide +kernel
theorem dX6_rename_17 : decode cX6_rename 17 = .ok (.iaload, 1) := by decide +kernel
theorem dX6_rename_18 : decode cX6_rename 18 = .ok (.invokestatic 109, 3) := by decide +kernel
theorem dX6_rename_21 : decode cX6_rename 21 = .ok (.istore 4, 2) := by decide +kernel
theorem dX6_rename_23 : decode cX6_rename 23 = .ok (.aload_n 0, 1) := by decide +kernel
theorem dX6_rename_24 : decode cX6_rename 24 = .ok (.iload_n 3, 1) := by decide +kernel
theorem dX6_rename_25 : decode cX6_rename 25 = .ok (.iload 4, 2) := by decide +kernel
theorem dX6_rename_27 : decode cX6_rename 27 = .ok (.aload_n 0, 1) := by decide +kernel
theorem dX6_rename_28 : decode cX6_rename 28 = .ok (.getfield 9, 3) := by decide +kernel
theorem dX6_rename_31 : decode cX6_rename 31 = .ok (.iload_n 1, 1) := by decide +kernel
theorem dX6_rename_32 : decode cX6_rename 32 = .ok (.iaload, 1) := by decide +kernel
theorem dX6_rename_33 : decode cX6_rename 33 = .ok (.invokestatic 93, 3) := by decide +kernel
theorem dX6_rename_36 : decode cX6_rename 36 = .ok (.aload_n 0, 1) := by decide +kernel
theorem dX6_rename_37 : decode cX6_rename 37 = .ok (.getfield 9, 3) := by decide +kernel
theorem dX6_rename_40 : decode cX6_rename 40 = .ok (.iload_n 2, 1) := by decide +kernel
theorem dX6_rename_41 : decode cX6_rename 41 = .ok (.iaload, 1) := by decide +kernel
theorem dX6_rename_42 : decode cX6_rename 42 = .ok (.invokestatic 93, 3) := by decide +kernel
theorem dX6_rename_45 : decode cX6_rename 45 = .ok (.invokevirtual 106, 3) := by decide +kernel
theorem dX6_rename_48 : decode cX6_rename 48 = .ok (.ireturn, 1) := by decide +kernel
theorem dX6_match_0 : decode cX6_match 0 = .ok (.iload_n 1, 1) := by decide +kernel
theorem dX6_match_1 : decode cX6_match 1 = .ok (.invokestatic 67, 3) := by decide +kernel
theorem dX6_match_4 : decode cX6_match 4 = .ok (.iload_n 2, 1) := by decide +kernel
theorem dX6_match_5 : decode cX6_match 5 = .ok (.invokestatic 67, 3) := by decide +kernel
theorem dX6_match_8 : decode cX6_match 8 = .ok (.iload_n 3, 1) := by decide +kernel
theorem dX6_match_9 : decode cX6_match 9 = .ok (.invokestatic 67, 3) := by decide +kernel
theorem dX6_match_12 : decode cX6_match 12 = .ok (.aload_n 0, 1) := by decide +kernel
theorem dX6_match_13 : decode cX6_match 13 = .ok (.getfield 9, 3) := by decide +kernel
theorem dX6_match_16 : decode cX6_match 16 = .ok (.iload_n 1, 1) := by decide +kernel
theorem dX6_match_17 : decode cX6_match 17 = .ok (.iaload, 1) := by decide +kernel
theorem dX6_match_18 : decode cX6_match 18 = .ok (.aload_n 0, 1) := by decide +kernel
theorem dX6_match_19 : decode cX6_match 19 = .ok (.getfield 9, 3) := by decide +kernel
theorem dX6_match_22 : decode cX6_match 22 = .ok (.iload_n 2, 1) := by decide +kernel
theorem dX6_match_23 : decode cX6_match 23 = .ok (.iaload, 1) := by decide +kernel
theorem dX6_match_24 : decode cX6_match 24 = .ok (.invokestatic 120, 3) := by decide +kernel
theorem dX6_match_27 : decode cX6_match 27 = .ok (.ifCond .ne 8, 3) := by decide +kernel
theorem dX6_match_30 : decode cX6_match 30 = .ok (.aload_n 0, 1) := by decide +kernel
theorem dX6_match_31 : decode cX6_match 31 = .ok (.invokevirtual 124, 3) := by decide +kernel
theorem dX6_match_34 : decode cX6_match 34 = .ok (.ireturn, 1) := by decide +kernel
theorem dX6_match_35 : decode cX6_match 35 = .ok (.aload_n 0, 1) := by decide +kernel
theorem dX6_match_36 : decode cX6_match 36 = .ok (.iload_n 3, 1) := by decide +kernel
theorem dX6_match_37 : decode cX6_match 37 = .ok (.aload_n 0, 1) := by decide +kernel
theorem dX6_match_38 : decode cX6_match 38 = .ok (.getfield 9, 3) := by decide +kernel
theorem dX6_match_41 : decode cX6_match 41 = .ok (.iload_n 1, 1) := by decide +kernel
theorem dX6_match_42 : decode cX6_match 42 = .ok (.iaload, 1) := by decide +kernel
theorem dX6_match_43 : decode cX6_match 43 = .ok (.aload_n 0, 1) := by decide +kernel
theorem dX6_match_44 : decode cX6_match 44 = .ok (.getfield 9, 3) := by decide +kernel
theorem dX6_match_47 : decode cX6_match 47 = .ok (.iload_n 2, 1) := by decide +kernel
theorem dX6_match_48 : decode cX6_match 48 = .ok (.iaload, 1) := by decide +kernel
theorem dX6_match_49 : decode cX6_match 49 = .ok (.aload_n 0, 1) := by decide +kernel
theorem dX6_match_50 : decode cX6_match 50 = .ok (.getfield 41, 3) := by decide +kernel
theorem dX6_match_53 : decode cX6_match 53 = .ok (.invokestatic 128, 3) := by decide +kernel
theorem dX6_match_56 : decode cX6_match 56 = .ok (.invokevirtual 106, 3) := by decide +kernel
theorem dX6_match_59 : decode cX6_match 59 = .ok (.ireturn, 1) := by decide +kernel
theorem dX6_nth_0 : decode cX6_nth 0 = .ok (.iload_n 2, 1) := by decide +kernel
theorem dX6_nth_1 : decode cX6_nth 1 = .ok (.invokestatic 67, 3) := by decide +kernel
theorem dX6_nth_4 : decode cX6_nth 4 = .ok (.iload 4, 2) := by decide +kernel
theorem dX6_nth_6 : decode cX6_nth 6 = .ok (.invokestatic 67, 3) := by decide +kernel
theorem dX6_nth_9 : decode cX6_nth 9 = .ok (.iload_n 1, 1) := by decide +kernel
theorem dX6_nth_10 : decode cX6_nth 10 = .ok (.invokestatic 131, 3) := by decide +kernel
theorem dX6_nth_13 : decode cX6_nth 13 = .ok (.iload_n 3, 1) := by decide +kernel
theorem dX6_nth_14 : decode cX6_nth 14 = .ok (.ifCond .lt 7, 3) := by decide +kernel
theorem dX6_nth_17 : decode cX6_nth 17 = .ok (.iconst 1, 1) := by decide +kernel
theorem dX6_nth_18 : decode cX6_nth 18 = .ok (.goto 4, 3) := by decide +kernel
theorem dX6_nth_21 : decode cX6_nth 21 = .ok (.iconst 0, 1) := by decide +kernel
theorem dX6_nth_22 : decode cX6_nth 22 = .ok (.invokestatic 99, 3) := by decide +kernel
theorem dX6_nth_25 : decode cX6_nth 25 = .ok (.aload_n 0, 1) := by decide +kernel
theorem dX6_nth_26 : decode cX6_nth 26 = .ok (.getfield 16, 3) := by decide +kernel
theorem dX6_nth_29 : decode cX6_nth 29 = .ok (.aload_n 0, 1) := by decide +kernel
theorem dX6_nth_30 : decode cX6_nth 30 = .ok (.getfield 9, 3) := by decide +kernel
theorem dX6_nth_33 : decode cX6_nth 33 = .ok (.iload_n 1, 1) := by decide +kernel
theorem dX6_nth_34 : decode cX6_nth 34 = .ok (.aload_n 0, 1) := by decide +kernel
theorem dX6_nth_35 : decode cX6_nth 35 = .ok (.getfield 9, 3) := by decide +kernel
theorem dX6_nth_38 : decode cX6_nth 38 = .ok (.iload_n 2, 1) := by decide +kernel
theorem dX6_nth_39 : decode cX6_nth 39 = .ok (.iaload, 1) := by decide +kernel
theorem dX6_nth_40 : decode cX6_nth 40 = .ok (.aload_n 0, 1) := by decide +kernel
theorem dX6_nth_41 : decode cX6_nth 41 = .ok (.getfield 41, 3) := by decide +kernel
theorem dX6_nth_44 : decode cX6_nth 44 = .ok (.invokevirtual 134, 3) := by decide +kernel
theorem dX6_nth_47 : decode cX6_nth 47 = .ok (.iload_n 3, 1) := by decide +kernel
theorem dX6_nth_48 : decode cX6_nth 48 = .ok (.aload_n 0, 1) := by decide +kernel
theorem dX6_nth_49 : decode cX6_nth 49 = .ok (.getfield 16, 3) := by decide +kernel
theorem dX6_nth_52 : decode cX6_nth 52 = .ok (.invokevirtual 138, 3) := by decide +kernel
theorem dX6_nth_55 : decode cX6_nth 55 = .ok (.if_icmp .lt 8, 3) := by decide +kernel
theorem dX6_nth_58 : decode cX6_nth 58 = .ok (.aload_n 0, 1) := by decide +kernel
theorem dX6_nth_59 : decode cX6_nth 59 = .ok (.invokevirtual 124, 3) := by decide +kernel
theorem dX6_nth_62 : decode cX6_nth 62 = .ok (.ireturn, 1) := by decide +kernel
theorem dX6_nth_63 : decode cX6_nth 63 = .ok (.aload_n 0, 1) := by decide +kernel
theorem dX6_nth_64 : decode cX6_nth 64 = .ok (.iload 4, 2) := by decide +kernel
theorem dX6_nth_66 : decode cX6_nth 66 = .ok (.aload_n 0, 1) := by decide +kernel
theorem dX6_nth_67 : decode cX6_nth 67 = .ok (.getfield 16, 3) := by decide +kernel
theorem dX6_nth_70 : decode cX6_nth 70 = .ok (.iload_n 3, 1) := by decide +kernel
theorem dX6_nth_71 : decode cX6_nth 71 = .ok (.ldc 56, 2) := by decide +kernel
theorem dX6_nth_73 : decode cX6_nth 73 = .ok (.invokevirtual 141, 3) := by decide +kernel
theorem dX6_nth_76 : decode cX6_nth 76 = .ok (.invokevirtual 106, 3) := by decide +kernel
theorem dX6_nth_79 : decode cX6_nth 79 = .ok (.ireturn, 1) := by decide +kernel
theorem dX6_count_0 : decode cX6_count 0 = .ok (.aload_n 0, 1) := by decide +kernel
theorem dX6_count_1 : decode cX6_count 1 = .ok (.getfield 41, 3) := by decide +kernel
theorem dX6_count_4 : decode cX6_count 4 = .ok (.ireturn, 1) := by decide +kernel
theorem dX6_number_0 : decode cX6_number 0 = .ok (.iload_n 1, 1) := by decide +kernel
theorem dX6_number_1 : decode cX6_number 1 = .ok (.invokestatic 67, 3) := by decide +kernel
theorem dX6_number_4 : decode cX6_number 4 = .ok (.aload_n 0, 1) := by decide +kernel
theorem dX6_number_5 : decode cX6_number 5 = .ok (.getfield 9, 3) := by decide +kernel
theorem dX6_number_8 : decode cX6_number 8 = .ok (.iload_n 1, 1) := by decide +kernel
theorem dX6_number_9 : decode cX6_number 9 = .ok (.iaload, 1) := by decide +kernel
theorem dX6_number_10 : decode cX6_number 10 = .ok (.aload_n 0, 1) := by decide +kernel
theorem dX6_number_11 : decode cX6_number 11 = .ok (.getfield 41, 3) := by decide +kernel
theorem dX6_number_14 : decode cX6_number 14 = .ok (.invokestatic 75, 3) := by decide +kernel
theorem dX6_number_17 : decode cX6_number 17 = .ok (.ireturn, 1) := by decide +kernel
theorem dX6_goes_0 : decode cX6_goes 0 = .ok (.iload_n 1, 1) := by decide +kernel
theorem dX6_goes_1 : decode cX6_goes 1 = .ok (.invokestatic 67, 3) := by decide +kernel
theorem dX6_goes_4 : decode cX6_goes 4 = .ok (.aload_n 0, 1) := by decide +kernel
theorem dX6_goes_5 : decode cX6_goes 5 = .ok (.iload_n 2, 1) := by decide +kernel
theorem dX6_goes_6 : decode cX6_goes 6 = .ok (.invokevirtual 86, 3) := by decide +kernel
theorem dX6_goes_9 : decode cX6_goes 9 = .ok (.aload_n 0, 1) := by decide +kernel
theorem dX6_goes_10 : decode cX6_goes 10 = .ok (.getfield 9, 3) := by decide +kernel
theorem dX6_goes_13 : decode cX6_goes 13 = .ok (.iload_n 1, 1) := by decide +kernel
theorem dX6_goes_14 : decode cX6_goes 14 = .ok (.iaload, 1) := by decide +kernel
theorem dX6_goes_15 : decode cX6_goes 15 = .ok (.iload_n 2, 1) := by decide +kernel
theorem dX6_goes_16 : decode cX6_goes 16 = .ok (.invokestatic 144, 3) := by decide +kernel
theorem dX6_goes_19 : decode cX6_goes 19 = .ok (.ireturn, 1) := by decide +kernel
theorem dX6_text_0 : decode cX6_text 0 = .ok (.iload_n 1, 1) := by decide +kernel
theorem dX6_text_1 : decode cX6_text 1 = .ok (.invokestatic 67, 3) := by decide +kernel
theorem dX6_text_4 : decode cX6_text 4 = .ok (.new 147, 3) := by decide +kernel
theorem dX6_text_7 : decode cX6_text 7 = .ok (.dup, 1) := by decide +kernel
theorem dX6_text_8 : decode cX6_text 8 = .ok (.invokespecial 149, 3) := by decide +kernel
theorem dX6_text_11 : decode cX6_text 11 = .ok (.astore_n 2, 1) := by decide +kernel
theorem dX6_text_12 : decode cX6_text 12 = .ok (.iconst 0, 1) := by decide +kernel
theorem dX6_text_13 : decode cX6_text 13 = .ok (.istore_n 3, 1) := by decide +kernel
theorem dX6_text_14 : decode cX6_text 14 = .ok (.iload_n 3, 1) := by decide +kernel
theorem dX6_text_15 : decode cX6_text 15 = .ok (.aload_n 0, 1) := by decide +kernel
theorem dX6_text_16 : decode cX6_text 16 = .ok (.getfield 41, 3) := by decide +kernel
theorem dX6_text_19 : decode cX6_text 19 = .ok (.if_icmp .ge 23, 3) := by decide +kernel
theorem dX6_text_22 : decode cX6_text 22 = .ok (.aload_n 2, 1) := by decide +kernel
theorem dX6_text_23 : decode cX6_text 23 = .ok (.aload_n 0, 1) := by decide +kernel
theorem dX6_text_24 : decode cX6_text 24 = .ok (.getfield 9, 3) := by decide +kernel
theorem dX6_text_27 : decode cX6_text 27 = .ok (.iload_n 1, 1) := by decide +kernel
theorem dX6_text_28 : decode cX6_text 28 = .ok (.iaload, 1) := by decide +kernel
theorem dX6_text_29 : decode cX6_text 29 = .ok (.iload_n 3, 1) := by decide +kernel
theorem dX6_text_30 : decode cX6_text 30 = .ok (.invokestatic 144, 3) := by decide +kernel
theorem dX6_text_33 : decode cX6_text 33 = .ok (.invokestatic 150, 3) := by decide +kernel
theorem dX6_text_36 : decode cX6_text 36 = .ok (.iinc 3 1, 3) := by decide +kernel
theorem dX6_text_39 : decode cX6_text 39 = .ok (.goto (-25), 3) := by decide +kernel
theorem dX6_text_42 : decode cX6_text 42 = .ok (.aload_n 2, 1) := by decide +kernel
theorem dX6_text_43 : decode cX6_text 43 = .ok (.invokevirtual 154, 3) := by decide +kernel
theorem dX6_text_46 : decode cX6_text 46 = .ok (.areturn, 1) := by decide +kernel
theorem dX6_rings_0 : decode cX6_rings 0 = .ok (.iload_n 1, 1) := by decide +kernel
theorem dX6_rings_1 : decode cX6_rings 1 = .ok (.invokestatic 67, 3) := by decide +kernel
theorem dX6_rings_4 : decode cX6_rings 4 = .ok (.new 147, 3) := by decide +kernel
theorem dX6_rings_7 : decode cX6_rings 7 = .ok (.dup, 1) := by decide +kernel
theorem dX6_rings_8 : decode cX6_rings 8 = .ok (.invokespecial 149, 3) := by decide +kernel
theorem dX6_rings_11 : decode cX6_rings 11 = .ok (.astore_n 2, 1) := by decide +kernel
theorem dX6_rings_12 : decode cX6_rings 12 = .ok (.iconst 1, 1) := by decide +kernel
theorem dX6_rings_13 : decode cX6_rings 13 = .ok (.istore_n 3, 1) := by decide +kernel
theorem dX6_rings_14 : decode cX6_rings 14 = .ok (.iload_n 3, 1) := by decide +kernel
theorem dX6_rings_15 : decode cX6_rings 15 = .ok (.aload_n 0, 1) := by decide +kernel
theorem dX6_rings_16 : decode cX6_rings 16 = .ok (.getfield 41, 3) := by decide +kernel
theorem dX6_rings_19 : decode cX6_rings 19 = .ok (.if_icmp .gt 41, 3) := by decide +kernel
theorem dX6_rings_22 : decode cX6_rings 22 = .ok (.aload_n 0, 1) := by decide +kernel
theorem dX6_rings_23 : decode cX6_rings 23 = .ok (.getfield 9, 3) := by decide +kernel
theorem dX6_rings_26 : decode cX6_rings 26 = .ok (.iload_n 1, 1) := by decide +kernel
theorem dX6_rings_27 : decode cX6_rings 27 = .ok (.iaload, 1) := by decide +kernel
theorem dX6_rings_28 : decode cX6_rings 28 = .ok (.iload_n 3, 1) := by decide +kernel
theorem dX6_rings_29 : decode cX6_rings 29 = .ok (.aload_n 0, 1) := by decide +kernel
theorem dX6_rings_30 : decode cX6_rings 30 = .ok (.getfield 41, 3) := by decide +kernel
theorem dX6_rings_33 : decode cX6_rings 33 = .ok (.invokestatic 158, 3) := by decide +kernel
theorem dX6_rings_36 : decode cX6_rings 36 = .ok (.istore 4, 2) := by decide +kernel
theorem dX6_rings_38 : decode cX6_rings 38 = .ok (.iload 4, 2) := by decide +kernel
theorem dX6_rings_40 : decode cX6_rings 40 = .ok (.ifCond .le 14, 3) := by decide +kernel
theorem dX6_rings_43 : decode cX6_rings 43 = .ok (.aload_n 2, 1) := by decide +kernel
theorem dX6_rings_44 : decode cX6_rings 44 = .ok (.iload_n 3, 1) := by decide +kernel
theorem dX6_rings_45 : decode cX6_rings 45 = .ok (.invokestatic 150, 3) := by decide +kernel
theorem dX6_rings_48 : decode cX6_rings 48 = .ok (.iinc 4 (-1), 3) := by decide +kernel
theorem dX6_rings_51 : decode cX6_rings 51 = .ok (.goto (-13), 3) := by decide +kernel
theorem dX6_rings_54 : decode cX6_rings 54 = .ok (.iinc 3 1, 3) := by decide +kernel
theorem dX6_rings_57 : decode cX6_rings 57 = .ok (.goto (-43), 3) := by decide +kernel
theorem dX6_rings_60 : decode cX6_rings 60 = .ok (.aload_n 2, 1) := by decide +kernel
theorem dX6_rings_61 : decode cX6_rings 61 = .ok (.invokevirtual 154, 3) := by decide +kernel
theorem dX6_rings_64 : decode cX6_rings 64 = .ok (.areturn, 1) := by decide +kernel
theorem dX6_ringText_0 : decode cX6_ringText 0 = .ok (.iload_n 1, 1) := by decide +kernel
theorem dX6_ringText_1 : decode cX6_ringText 1 = .ok (.invokestatic 67, 3) := by decide +kernel
theorem dX6_ringText_4 : decode cX6_ringText 4 = .ok (.aload_n 0, 1) := by decide +kernel
theorem dX6_ringText_5 : decode cX6_ringText 5 = .ok (.iload_n 2, 1) := by decide +kernel
theorem dX6_ringText_6 : decode cX6_ringText 6 = .ok (.invokevirtual 86, 3) := by decide +kernel
theorem dX6_ringText_9 : decode cX6_ringText 9 = .ok (.new 147, 3) := by decide +kernel
theorem dX6_ringText_12 : decode cX6_ringText 12 = .ok (.dup, 1) := by decide +kernel
theorem dX6_ringText_13 : decode cX6_ringText 13 = .ok (.invokespecial 149, 3) := by decide +kernel
theorem dX6_ringText_16 : decode cX6_ringText 16 = .ok (.astore_n 3, 1) := by decide +kernel
theorem dX6_ringText_17 : decode cX6_ringText 17 = .ok (.iload_n 2, 1) := by decide +kernel
theorem dX6_ringText_18 : decode cX6_ringText 18 = .ok (.istore 4, 2) := by decide +kernel
theorem dX6_ringText_20 : decode cX6_ringText 20 = .ok (.aload_n 0, 1) := by decide +kernel
theorem dX6_ringText_21 : decode cX6_ringText 21 = .ok (.getfield 9, 3) := by decide +kernel
theorem dX6_ringText_24 : decode cX6_ringText 24 = .ok (.iload_n 1, 1) := by decide +kernel
theorem dX6_ringText_25 : decode cX6_ringText 25 = .ok (.iaload, 1) := by decide +kernel
theorem dX6_ringText_26 : decode cX6_ringText 26 = .ok (.iload_n 2, 1) := by decide +kernel
theorem dX6_ringText_27 : decode cX6_ringText 27 = .ok (.invokestatic 161, 3) := by decide +kernel
theorem dX6_ringText_30 : decode cX6_ringText 30 = .ok (.istore 5, 2) := by decide +kernel
theorem dX6_ringText_32 : decode cX6_ringText 32 = .ok (.iload 5, 2) := by decide +kernel
theorem dX6_ringText_34 : decode cX6_ringText 34 = .ok (.ifCond .le 28, 3) := by decide +kernel
theorem dX6_ringText_37 : decode cX6_ringText 37 = .ok (.aload_n 3, 1) := by decide +kernel
theorem dX6_ringText_38 : decode cX6_ringText 38 = .ok (.iload 4, 2) := by decide +kernel
theorem dX6_ringText_40 : decode cX6_ringText 40 = .ok (.invokestatic 150, 3) := by decide +kernel
theorem dX6_ringText_43 : decode cX6_ringText 43 = .ok (.aload_n 0, 1) := by decide +kernel
theorem dX6_ringText_44 : decode cX6_ringText 44 = .ok (.getfield 9, 3) := by decide +kernel
theorem dX6_ringText_47 : decode cX6_ringText 47 = .ok (.iload_n 1, 1) := by decide +kernel
theorem dX6_ringText_48 : decode cX6_ringText 48 = .ok (.iaload, 1) := by decide +kernel
theorem dX6_ringText_49 : decode cX6_ringText 49 = .ok (.iload 4, 2) := by decide +kernel
theorem dX6_ringText_51 : decode cX6_ringText 51 = .ok (.invokestatic 144, 3) := by decide +kernel
theorem dX6_ringText_54 : decode cX6_ringText 54 = .ok (.istore 4, 2) := by decide +kernel
theorem dX6_ringText_56 : decode cX6_ringText 56 = .ok (.iinc 5 (-1), 3) := by decide +kernel
theorem dX6_ringText_59 : decode cX6_ringText 59 = .ok (.goto (-27), 3) := by decide +kernel
theorem dX6_ringText_62 : decode cX6_ringText 62 = .ok (.aload_n 3, 1) := by decide +kernel
theorem dX6_ringText_63 : decode cX6_ringText 63 = .ok (.invokevirtual 154, 3) := by decide +kernel
theorem dX6_ringText_66 : decode cX6_ringText 66 = .ok (.areturn, 1) := by decide +kernel
theorem dX6_order_0 : decode cX6_order 0 = .ok (.iload_n 1, 1) := by decide +kernel
theorem dX6_order_1 : decode cX6_order 1 = .ok (.invokestatic 67, 3) := by decide +kernel
theorem dX6_order_4 : decode cX6_order 4 = .ok (.aload_n 0, 1) := by decide +kernel
theorem dX6_order_5 : decode cX6_order 5 = .ok (.getfield 9, 3) := by decide +kernel
theorem dX6_order_8 : decode cX6_order 8 = .ok (.iload_n 1, 1) := by decide +kernel
theorem dX6_order_9 : decode cX6_order 9 = .ok (.iaload, 1) := by decide +kernel
theorem dX6_order_10 : decode cX6_order 10 = .ok (.invokestatic 164, 3) := by decide +kernel
theorem dX6_order_13 : decode cX6_order 13 = .ok (.ireturn, 1) := by decide +kernel
theorem dX6_sign_0 : decode cX6_sign 0 = .ok (.iload_n 1, 1) := by decide +kernel
theorem dX6_sign_1 : decode cX6_sign 1 = .ok (.invokestatic 67, 3) := by decide +kernel
theorem dX6_sign_4 : decode cX6_sign 4 = .ok (.aload_n 0, 1) := by decide +kernel
theorem dX6_sign_5 : decode cX6_sign 5 = .ok (.getfield 9, 3) := by decide +kernel
theorem dX6_sign_8 : decode cX6_sign 8 = .ok (.iload_n 1, 1) := by decide +kernel
theorem dX6_sign_9 : decode cX6_sign 9 = .ok (.iaload, 1) := by decide +kernel
theorem dX6_sign_10 : decode cX6_sign 10 = .ok (.aload_n 0, 1) := by decide +kernel
theorem dX6_sign_11 : decode cX6_sign 11 = .ok (.getfield 41, 3) := by decide +kernel
theorem dX6_sign_14 : decode cX6_sign 14 = .ok (.invokestatic 167, 3) := by decide +kernel
theorem dX6_sign_17 : decode cX6_sign 17 = .ok (.ireturn, 1) := by decide +kernel
theorem dX6_stays_0 : decode cX6_stays 0 = .ok (.iload_n 1, 1) := by decide +kernel
theorem dX6_stays_1 : decode cX6_stays 1 = .ok (.invokestatic 67, 3) := by decide +kernel
theorem dX6_stays_4 : decode cX6_stays 4 = .ok (.iconst 0, 1) := by decide +kernel
theorem dX6_stays_5 : decode cX6_stays 5 = .ok (.istore_n 2, 1) := by decide +kernel
theorem dX6_stays_6 : decode cX6_stays 6 = .ok (.iconst 0, 1) := by decide +kernel
theorem dX6_stays_7 : decode cX6_stays 7 = .ok (.istore_n 3, 1) := by decide +kernel
theorem dX6_stays_8 : decode cX6_stays 8 = .ok (.iload_n 3, 1) := by decide +kernel
theorem dX6_stays_9 : decode cX6_stays 9 = .ok (.aload_n 0, 1) := by decide +kernel
theorem dX6_stays_10 : decode cX6_stays 10 = .ok (.getfield 41, 3) := by decide +kernel
theorem dX6_stays_13 : decode cX6_stays 13 = .ok (.if_icmp .ge 29, 3) := by decide +kernel
theorem dX6_stays_16 : decode cX6_stays 16 = .ok (.aload_n 0, 1) := by decide +kernel
theorem dX6_stays_17 : decode cX6_stays 17 = .ok (.getfield 9, 3) := by decide +kernel
theorem dX6_stays_20 : decode cX6_stays 20 = .ok (.iload_n 1, 1) := by decide +kernel
theorem dX6_stays_21 : decode cX6_stays 21 = .ok (.iaload, 1) := by decide +kernel
theorem dX6_stays_22 : decode cX6_stays 22 = .ok (.iload_n 3, 1) := by decide +kernel
theorem dX6_stays_23 : decode cX6_stays 23 = .ok (.invokestatic 144, 3) := by decide +kernel
theorem dX6_stays_26 : decode cX6_stays 26 = .ok (.iload_n 3, 1) := by decide +kernel
theorem dX6_stays_27 : decode cX6_stays 27 = .ok (.if_icmp .ne 9, 3) := by decide +kernel
theorem dX6_stays_30 : decode cX6_stays 30 = .ok (.iload_n 2, 1) := by decide +kernel
theorem dX6_stays_31 : decode cX6_stays 31 = .ok (.iconst 1, 1) := by decide +kernel
theorem dX6_stays_32 : decode cX6_stays 32 = .ok (.iload_n 3, 1) := by decide +kernel
theorem dX6_stays_33 : decode cX6_stays 33 = .ok (.ishl, 1) := by decide +kernel
theorem dX6_stays_34 : decode cX6_stays 34 = .ok (.ior, 1) := by decide +kernel
theorem dX6_stays_35 : decode cX6_stays 35 = .ok (.istore_n 2, 1) := by decide +kernel
theorem dX6_stays_36 : decode cX6_stays 36 = .ok (.iinc 3 1, 3) := by decide +kernel
theorem dX6_stays_39 : decode cX6_stays 39 = .ok (.goto (-31), 3) := by decide +kernel
theorem dX6_stays_42 : decode cX6_stays 42 = .ok (.iload_n 2, 1) := by decide +kernel
theorem dX6_stays_43 : decode cX6_stays 43 = .ok (.ireturn, 1) := by decide +kernel
theorem dX6_areAlike_0 : decode cX6_areAlike 0 = .ok (.iload_n 1, 1) := by decide +kernel
theorem dX6_areAlike_1 : decode cX6_areAlike 1 = .ok (.invokestatic 67, 3) := by decide +kernel
theorem dX6_areAlike_4 : decode cX6_areAlike 4 = .ok (.iload_n 2, 1) := by decide +kernel
theorem dX6_areAlike_5 : decode cX6_areAlike 5 = .ok (.invokestatic 67, 3) := by decide +kernel
theorem dX6_areAlike_8 : decode cX6_areAlike 8 = .ok (.aload_n 0, 1) := by decide +kernel
theorem dX6_areAlike_9 : decode cX6_areAlike 9 = .ok (.getfield 9, 3) := by decide +kernel
theorem dX6_areAlike_12 : decode cX6_areAlike 12 = .ok (.iload_n 1, 1) := by decide +kernel
theorem dX6_areAlike_13 : decode cX6_areAlike 13 = .ok (.iaload, 1) := by decide +kernel
theorem dX6_areAlike_14 : decode cX6_areAlike 14 = .ok (.aload_n 0, 1) := by decide +kernel
theorem dX6_areAlike_15 : decode cX6_areAlike 15 = .ok (.getfield 9, 3) := by decide +kernel
theorem dX6_areAlike_18 : decode cX6_areAlike 18 = .ok (.iload_n 2, 1) := by decide +kernel
theorem dX6_areAlike_19 : decode cX6_areAlike 19 = .ok (.iaload, 1) := by decide +kernel
theorem dX6_areAlike_20 : decode cX6_areAlike 20 = .ok (.invokestatic 120, 3) := by decide +kernel
theorem dX6_areAlike_23 : decode cX6_areAlike 23 = .ok (.ireturn, 1) := by decide +kernel
theorem dX6_commute_0 : decode cX6_commute 0 = .ok (.iload_n 1, 1) := by decide +kernel
theorem dX6_commute_1 : decode cX6_commute 1 = .ok (.invokestatic 67, 3) := by decide +kernel
theorem dX6_commute_4 : decode cX6_commute 4 = .ok (.iload_n 2, 1) := by decide +kernel
theorem dX6_commute_5 : decode cX6_commute 5 = .ok (.invokestatic 67, 3) := by decide +kernel
theorem dX6_commute_8 : decode cX6_commute 8 = .ok (.aload_n 0, 1) := by decide +kernel
theorem dX6_commute_9 : decode cX6_commute 9 = .ok (.getfield 9, 3) := by decide +kernel
theorem dX6_commute_12 : decode cX6_commute 12 = .ok (.iload_n 1, 1) := by decide +kernel
theorem dX6_commute_13 : decode cX6_commute 13 = .ok (.iaload, 1) := by decide +kernel
theorem dX6_commute_14 : decode cX6_commute 14 = .ok (.aload_n 0, 1) := by decide +kernel
theorem dX6_commute_15 : decode cX6_commute 15 = .ok (.getfield 9, 3) := by decide +kernel
theorem dX6_commute_18 : decode cX6_commute 18 = .ok (.iload_n 2, 1) := by decide +kernel
theorem dX6_commute_19 : decode cX6_commute 19 = .ok (.iaload, 1) := by decide +kernel
theorem dX6_commute_20 : decode cX6_commute 20 = .ok (.invokestatic 93, 3) := by decide +kernel
theorem dX6_commute_23 : decode cX6_commute 23 = .ok (.aload_n 0, 1) := by decide +kernel
theorem dX6_commute_24 : decode cX6_commute 24 = .ok (.getfield 9, 3) := by decide +kernel
theorem dX6_commute_27 : decode cX6_commute 27 = .ok (.iload_n 2, 1) := by decide +kernel
theorem dX6_commute_28 : decode cX6_commute 28 = .ok (.iaload, 1) := by decide +kernel
theorem dX6_commute_29 : decode cX6_commute 29 = .ok (.aload_n 0, 1) := by decide +kernel
theorem dX6_commute_30 : decode cX6_commute 30 = .ok (.getfield 9, 3) := by decide +kernel
theorem dX6_commute_33 : decode cX6_commute 33 = .ok (.iload_n 1, 1) := by decide +kernel
theorem dX6_commute_34 : decode cX6_commute 34 = .ok (.iaload, 1) := by decide +kernel
theorem dX6_commute_35 : decode cX6_commute 35 = .ok (.invokestatic 93, 3) := by decide +kernel
theorem dX6_commute_38 : decode cX6_commute 38 = .ok (.if_icmp .ne 7, 3) := by decide +kernel
theorem dX6_commute_41 : decode cX6_commute 41 = .ok (.iconst 1, 1) := by decide +kernel
theorem dX6_commute_42 : decode cX6_commute 42 = .ok (.goto 4, 3) := by decide +kernel
theorem dX6_commute_45 : decode cX6_commute 45 = .ok (.iconst 0, 1) := by decide +kernel
theorem dX6_commute_46 : decode cX6_commute 46 = .ok (.ireturn, 1) := by decide +kernel
theorem dX6_size_0 : decode cX6_size 0 = .ok (.iload_n 2, 1) := by decide +kernel
theorem dX6_size_1 : decode cX6_size 1 = .ok (.invokestatic 67, 3) := by decide +kernel
theorem dX6_size_4 : decode cX6_size 4 = .ok (.iload_n 1, 1) := by decide +kernel
theorem dX6_size_5 : decode cX6_size 5 = .ok (.invokestatic 131, 3) := by decide +kernel
theorem dX6_size_8 : decode cX6_size 8 = .ok (.aload_n 0, 1) := by decide +kernel
theorem dX6_size_9 : decode cX6_size 9 = .ok (.getfield 16, 3) := by decide +kernel
theorem dX6_size_12 : decode cX6_size 12 = .ok (.aload_n 0, 1) := by decide +kernel
theorem dX6_size_13 : decode cX6_size 13 = .ok (.getfield 9, 3) := by decide +kernel
theorem dX6_size_16 : decode cX6_size 16 = .ok (.iload_n 1, 1) := by decide +kernel
theorem dX6_size_17 : decode cX6_size 17 = .ok (.aload_n 0, 1) := by decide +kernel
theorem dX6_size_18 : decode cX6_size 18 = .ok (.getfield 9, 3) := by decide +kernel
theorem dX6_size_21 : decode cX6_size 21 = .ok (.iload_n 2, 1) := by decide +kernel
theorem dX6_size_22 : decode cX6_size 22 = .ok (.iaload, 1) := by decide +kernel
theorem dX6_size_23 : decode cX6_size 23 = .ok (.aload_n 0, 1) := by decide +kernel
theorem dX6_size_24 : decode cX6_size 24 = .ok (.getfield 41, 3) := by decide +kernel
theorem dX6_size_27 : decode cX6_size 27 = .ok (.invokevirtual 134, 3) := by decide +kernel
theorem dX6_size_30 : decode cX6_size 30 = .ok (.aload_n 0, 1) := by decide +kernel
theorem dX6_size_31 : decode cX6_size 31 = .ok (.getfield 16, 3) := by decide +kernel
theorem dX6_size_34 : decode cX6_size 34 = .ok (.invokevirtual 138, 3) := by decide +kernel
theorem dX6_size_37 : decode cX6_size 37 = .ok (.ireturn, 1) := by decide +kernel
theorem dX6_reach_0 : decode cX6_reach 0 = .ok (.iload_n 2, 1) := by decide +kernel
theorem dX6_reach_1 : decode cX6_reach 1 = .ok (.invokestatic 67, 3) := by decide +kernel
theorem dX6_reach_4 : decode cX6_reach 4 = .ok (.aload_n 0, 1) := by decide +kernel
theorem dX6_reach_5 : decode cX6_reach 5 = .ok (.iload_n 3, 1) := by decide +kernel
theorem dX6_reach_6 : decode cX6_reach 6 = .ok (.invokevirtual 86, 3) := by decide +kernel
theorem dX6_reach_9 : decode cX6_reach 9 = .ok (.iload_n 1, 1) := by decide +kernel
theorem dX6_reach_10 : decode cX6_reach 10 = .ok (.invokestatic 131, 3) := by decide +kernel
theorem dX6_reach_13 : decode cX6_reach 13 = .ok (.aload_n 0, 1) := by decide +kernel
theorem dX6_reach_14 : decode cX6_reach 14 = .ok (.getfield 16, 3) := by decide +kernel
theorem dX6_reach_17 : decode cX6_reach 17 = .ok (.aload_n 0, 1) := by decide +kernel
theorem dX6_reach_18 : decode cX6_reach 18 = .ok (.getfield 9, 3) := by decide +kernel
theorem dX6_reach_21 : decode cX6_reach 21 = .ok (.iload_n 1, 1) := by decide +kernel
theorem dX6_reach_22 : decode cX6_reach 22 = .ok (.aload_n 0, 1) := by decide +kernel
theorem dX6_reach_23 : decode cX6_reach 23 = .ok (.getfield 9, 3) := by decide +kernel
theorem dX6_reach_26 : decode cX6_reach 26 = .ok (.iload_n 2, 1) := by decide +kernel
theorem dX6_reach_27 : decode cX6_reach 27 = .ok (.iaload, 1) := by decide +kernel
theorem dX6_reach_28 : decode cX6_reach 28 = .ok (.aload_n 0, 1) := by decide +kernel
theorem dX6_reach_29 : decode cX6_reach 29 = .ok (.getfield 41, 3) := by decide +kernel
theorem dX6_reach_32 : decode cX6_reach 32 = .ok (.invokevirtual 134, 3) := by decide +kernel
theorem dX6_reach_35 : decode cX6_reach 35 = .ok (.aload_n 0, 1) := by decide +kernel
theorem dX6_reach_36 : decode cX6_reach 36 = .ok (.getfield 16, 3) := by decide +kernel
theorem dX6_reach_39 : decode cX6_reach 39 = .ok (.iload_n 3, 1) := by decide +kernel
theorem dX6_reach_40 : decode cX6_reach 40 = .ok (.invokevirtual 170, 3) := by decide +kernel
theorem dX6_reach_43 : decode cX6_reach 43 = .ok (.ireturn, 1) := by decide +kernel
theorem dX6_isIn_0 : decode cX6_isIn 0 = .ok (.iload_n 2, 1) := by decide +kernel
theorem dX6_isIn_1 : decode cX6_isIn 1 = .ok (.invokestatic 67, 3) := by decide +kernel
theorem dX6_isIn_4 : decode cX6_isIn 4 = .ok (.iload_n 1, 1) := by decide +kernel
theorem dX6_isIn_5 : decode cX6_isIn 5 = .ok (.invokestatic 131, 3) := by decide +kernel
theorem dX6_isIn_8 : decode cX6_isIn 8 = .ok (.iload_n 3, 1) := by decide +kernel
theorem dX6_isIn_9 : decode cX6_isIn 9 = .ok (.iconst 0, 1) := by decide +kernel
theorem dX6_isIn_10 : decode cX6_isIn 10 = .ok (.iconst 1, 1) := by decide +kernel
theorem dX6_isIn_11 : decode cX6_isIn 11 = .ok (.invokestatic 63, 3) := by decide +kernel
theorem dX6_isIn_14 : decode cX6_isIn 14 = .ok (.iload_n 3, 1) := by decide +kernel
theorem dX6_isIn_15 : decode cX6_isIn 15 = .ok (.ifCond .ne 35, 3) := by decide +kernel
theorem dX6_isIn_18 : decode cX6_isIn 18 = .ok (.aload_n 0, 1) := by decide +kernel
theorem dX6_isIn_19 : decode cX6_isIn 19 = .ok (.getfield 16, 3) := by decide +kernel
theorem dX6_isIn_22 : decode cX6_isIn 22 = .ok (.aload_n 0, 1) := by decide +kernel
theorem dX6_isIn_23 : decode cX6_isIn 23 = .ok (.getfield 9, 3) := by decide +kernel
theorem dX6_isIn_26 : decode cX6_isIn 26 = .ok (.iload_n 1, 1) := by decide +kernel
theorem dX6_isIn_27 : decode cX6_isIn 27 = .ok (.ldc 56, 2) := by decide +kernel
theorem dX6_isIn_29 : decode cX6_isIn 29 = .ok (.aload_n 0, 1) := by decide +kernel
theorem dX6_isIn_30 : decode cX6_isIn 30 = .ok (.getfield 41, 3) := by decide +kernel
theorem dX6_isIn_33 : decode cX6_isIn 33 = .ok (.invokevirtual 134, 3) := by decide +kernel
theorem dX6_isIn_36 : decode cX6_isIn 36 = .ok (.aload_n 0, 1) := by decide +kernel
theorem dX6_isIn_37 : decode cX6_isIn 37 = .ok (.getfield 16, 3) := by decide +kernel
theorem dX6_isIn_40 : decode cX6_isIn 40 = .ok (.aload_n 0, 1) := by decide +kernel
theorem dX6_isIn_41 : decode cX6_isIn 41 = .ok (.getfield 9, 3) := by decide +kernel
theorem dX6_isIn_44 : decode cX6_isIn 44 = .ok (.iload_n 2, 1) := by decide +kernel
theorem dX6_isIn_45 : decode cX6_isIn 45 = .ok (.iaload, 1) := by decide +kernel
theorem dX6_isIn_46 : decode cX6_isIn 46 = .ok (.invokevirtual 173, 3) := by decide +kernel
theorem dX6_isIn_49 : decode cX6_isIn 49 = .ok (.ireturn, 1) := by decide +kernel
theorem dX6_isIn_50 : decode cX6_isIn 50 = .ok (.aload_n 0, 1) := by decide +kernel
theorem dX6_isIn_51 : decode cX6_isIn 51 = .ok (.getfield 23, 3) := by decide +kernel
theorem dX6_isIn_54 : decode cX6_isIn 54 = .ok (.aload_n 0, 1) := by decide +kernel
theorem dX6_isIn_55 : decode cX6_isIn 55 = .ok (.getfield 9, 3) := by decide +kernel
theorem dX6_isIn_58 : decode cX6_isIn 58 = .ok (.iload_n 1, 1) := by decide +kernel
theorem dX6_isIn_59 : decode cX6_isIn 59 = .ok (.aload_n 0, 1) := by decide +kernel
theorem dX6_isIn_60 : decode cX6_isIn 60 = .ok (.getfield 41, 3) := by decide +kernel
theorem dX6_isIn_63 : decode cX6_isIn 63 = .ok (.invokevirtual 177, 3) := by decide +kernel
theorem dX6_isIn_66 : decode cX6_isIn 66 = .ok (.aload_n 0, 1) := by decide +kernel
theorem dX6_isIn_67 : decode cX6_isIn 67 = .ok (.getfield 23, 3) := by decide +kernel
theorem dX6_isIn_70 : decode cX6_isIn 70 = .ok (.aload_n 0, 1) := by decide +kernel
theorem dX6_isIn_71 : decode cX6_isIn 71 = .ok (.getfield 9, 3) := by decide +kernel
theorem dX6_isIn_74 : decode cX6_isIn 74 = .ok (.iload_n 2, 1) := by decide +kernel
theorem dX6_isIn_75 : decode cX6_isIn 75 = .ok (.iaload, 1) := by decide +kernel
theorem dX6_isIn_76 : decode cX6_isIn 76 = .ok (.invokevirtual 181, 3) := by decide +kernel
theorem dX6_isIn_79 : decode cX6_isIn 79 = .ok (.ireturn, 1) := by decide +kernel
theorem dX6_rank_0 : decode cX6_rank 0 = .ok (.iload_n 2, 1) := by decide +kernel
theorem dX6_rank_1 : decode cX6_rank 1 = .ok (.invokestatic 67, 3) := by decide +kernel
theorem dX6_rank_4 : decode cX6_rank 4 = .ok (.iload_n 3, 1) := by decide +kernel
theorem dX6_rank_5 : decode cX6_rank 5 = .ok (.invokestatic 67, 3) := by decide +kernel
theorem dX6_rank_8 : decode cX6_rank 8 = .ok (.iload_n 1, 1) := by decide +kernel
theorem dX6_rank_9 : decode cX6_rank 9 = .ok (.invokestatic 131, 3) := by decide +kernel
theorem dX6_rank_12 : decode cX6_rank 12 = .ok (.aload_n 0, 1) := by decide +kernel
theorem dX6_rank_13 : decode cX6_rank 13 = .ok (.getfield 16, 3) := by decide +kernel
theorem dX6_rank_16 : decode cX6_rank 16 = .ok (.aload_n 0, 1) := by decide +kernel
theorem dX6_rank_17 : decode cX6_rank 17 = .ok (.getfield 9, 3) := by decide +kernel
theorem dX6_rank_20 : decode cX6_rank 20 = .ok (.iload_n 1, 1) := by decide +kernel
theorem dX6_rank_21 : decode cX6_rank 21 = .ok (.aload_n 0, 1) := by decide +kernel
theorem dX6_rank_22 : decode cX6_rank 22 = .ok (.getfield 9, 3) := by decide +kernel
theorem dX6_rank_25 : decode cX6_rank 25 = .ok (.iload_n 2, 1) := by decide +kernel
theorem dX6_rank_26 : decode cX6_rank 26 = .ok (.iaload, 1) := by decide +kernel
theorem dX6_rank_27 : decode cX6_rank 27 = .ok (.aload_n 0, 1) := by decide +kernel
theorem dX6_rank_28 : decode cX6_rank 28 = .ok (.getfield 41, 3) := by decide +kernel
theorem dX6_rank_31 : decode cX6_rank 31 = .ok (.invokevirtual 134, 3) := by decide +kernel
theorem dX6_rank_34 : decode cX6_rank 34 = .ok (.aload_n 0, 1) := by decide +kernel
theorem dX6_rank_35 : decode cX6_rank 35 = .ok (.getfield 16, 3) := by decide +kernel
theorem dX6_rank_38 : decode cX6_rank 38 = .ok (.aload_n 0, 1) := by decide +kernel
theorem dX6_rank_39 : decode cX6_rank 39 = .ok (.getfield 9, 3) := by decide +kernel
theorem dX6_rank_42 : decode cX6_rank 42 = .ok (.iload_n 3, 1) := by decide +kernel
theorem dX6_rank_43 : decode cX6_rank 43 = .ok (.iaload, 1) := by decide +kernel
theorem dX6_rank_44 : decode cX6_rank 44 = .ok (.invokevirtual 184, 3) := by decide +kernel
theorem dX6_rank_47 : decode cX6_rank 47 = .ok (.ireturn, 1) := by decide +kernel
theorem dX6_list_0 : decode cX6_list 0 = .ok (.iload_n 1, 1) := by decide +kernel
theorem dX6_list_1 : decode cX6_list 1 = .ok (.invokestatic 131, 3) := by decide +kernel
theorem dX6_list_4 : decode cX6_list 4 = .ok (.iload_n 2, 1) := by decide +kernel
theorem dX6_list_5 : decode cX6_list 5 = .ok (.ifCond .lt 7, 3) := by decide +kernel
theorem dX6_list_8 : decode cX6_list 8 = .ok (.iconst 1, 1) := by decide +kernel
theorem dX6_list_9 : decode cX6_list 9 = .ok (.goto 4, 3) := by decide +kernel
theorem dX6_list_12 : decode cX6_list 12 = .ok (.iconst 0, 1) := by decide +kernel
theorem dX6_list_13 : decode cX6_list 13 = .ok (.invokestatic 99, 3) := by decide +kernel
theorem dX6_list_16 : decode cX6_list 16 = .ok (.aload_n 0, 1) := by decide +kernel
