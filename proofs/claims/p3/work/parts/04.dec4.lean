theorem dX8_goes_24 : decode cX8_goes 24 = .ok (.ifCond .eq 7, 3) := by decide +kernel
theorem dX8_goes_27 : decode cX8_goes 27 = .ok (.iconst 0, 1) := by decide +kernel
theorem dX8_goes_28 : decode cX8_goes 28 = .ok (.goto 9, 3) := by decide +kernel
theorem dX8_goes_31 : decode cX8_goes 31 = .ok (.aload_n 0, 1) := by decide +kernel
theorem dX8_goes_32 : decode cX8_goes 32 = .ok (.iload_n 1, 1) := by decide +kernel
theorem dX8_goes_33 : decode cX8_goes 33 = .ok (.iload_n 2, 1) := by decide +kernel
theorem dX8_goes_34 : decode cX8_goes 34 = .ok (.invokevirtual 82, 3) := by decide +kernel
theorem dX8_goes_37 : decode cX8_goes 37 = .ok (.ireturn, 1) := by decide +kernel
theorem dX8_text_0 : decode cX8_text 0 = .ok (.aload_n 0, 1) := by decide +kernel
theorem dX8_text_1 : decode cX8_text 1 = .ok (.iload_n 1, 1) := by decide +kernel
theorem dX8_text_2 : decode cX8_text 2 = .ok (.invokestatic 108, 3) := by decide +kernel
theorem dX8_text_5 : decode cX8_text 5 = .ok (.ifCond .ne 7, 3) := by decide +kernel
theorem dX8_text_8 : decode cX8_text 8 = .ok (.iconst 1, 1) := by decide +kernel
theorem dX8_text_9 : decode cX8_text 9 = .ok (.goto 4, 3) := by decide +kernel
theorem dX8_text_12 : decode cX8_text 12 = .ok (.iconst 0, 1) := by decide +kernel
theorem dX8_text_13 : decode cX8_text 13 = .ok (.invokevirtual 105, 3) := by decide +kernel
theorem dX8_text_16 : decode cX8_text 16 = .ok (.ifCond .eq 6, 3) := by decide +kernel
theorem dX8_text_19 : decode cX8_text 19 = .ok (.ldc 144, 2) := by decide +kernel
theorem dX8_text_21 : decode cX8_text 21 = .ok (.areturn, 1) := by decide +kernel
theorem dX8_text_22 : decode cX8_text 22 = .ok (.new 146, 3) := by decide +kernel
theorem dX8_text_25 : decode cX8_text 25 = .ok (.dup, 1) := by decide +kernel
theorem dX8_text_26 : decode cX8_text 26 = .ok (.invokespecial 148, 3) := by decide +kernel
theorem dX8_text_29 : decode cX8_text 29 = .ok (.astore_n 2, 1) := by decide +kernel
theorem dX8_text_30 : decode cX8_text 30 = .ok (.iconst 0, 1) := by decide +kernel
theorem dX8_text_31 : decode cX8_text 31 = .ok (.istore_n 3, 1) := by decide +kernel
theorem dX8_text_32 : decode cX8_text 32 = .ok (.iload_n 3, 1) := by decide +kernel
theorem dX8_text_33 : decode cX8_text 33 = .ok (.aload_n 0, 1) := by decide +kernel
theorem dX8_text_34 : decode cX8_text 34 = .ok (.getfield 7, 3) := by decide +kernel
theorem dX8_text_37 : decode cX8_text 37 = .ok (.if_icmp .ge 34, 3) := by decide +kernel
theorem dX8_text_40 : decode cX8_text 40 = .ok (.aload_n 2, 1) := by decide +kernel
theorem dX8_text_41 : decode cX8_text 41 = .ok (.iload_n 3, 1) := by decide +kernel
theorem dX8_text_42 : decode cX8_text 42 = .ok (.ifCond .ne 8, 3) := by decide +kernel
theorem dX8_text_45 : decode cX8_text 45 = .ok (.ldc 144, 2) := by decide +kernel
theorem dX8_text_47 : decode cX8_text 47 = .ok (.goto 5, 3) := by decide +kernel
theorem dX8_text_50 : decode cX8_text 50 = .ok (.ldc 149, 2) := by decide +kernel
theorem dX8_text_52 : decode cX8_text 52 = .ok (.invokevirtual 151, 3) := by decide +kernel
theorem dX8_text_55 : decode cX8_text 55 = .ok (.aload_n 0, 1) := by decide +kernel
theorem dX8_text_56 : decode cX8_text 56 = .ok (.iload_n 1, 1) := by decide +kernel
theorem dX8_text_57 : decode cX8_text 57 = .ok (.iload_n 3, 1) := by decide +kernel
theorem dX8_text_58 : decode cX8_text 58 = .ok (.invokevirtual 82, 3) := by decide +kernel
theorem dX8_text_61 : decode cX8_text 61 = .ok (.invokevirtual 155, 3) := by decide +kernel
theorem dX8_text_64 : decode cX8_text 64 = .ok (.pop, 1) := by decide +kernel
theorem dX8_text_65 : decode cX8_text 65 = .ok (.iinc 3 1, 3) := by decide +kernel
theorem dX8_text_68 : decode cX8_text 68 = .ok (.goto (-36), 3) := by decide +kernel
theorem dX8_text_71 : decode cX8_text 71 = .ok (.aload_n 2, 1) := by decide +kernel
theorem dX8_text_72 : decode cX8_text 72 = .ok (.invokevirtual 158, 3) := by decide +kernel
theorem dX8_text_75 : decode cX8_text 75 = .ok (.areturn, 1) := by decide +kernel
theorem dX8_ringsNow_0 : decode cX8_ringsNow 0 = .ok (.new 146, 3) := by decide +kernel
theorem dX8_ringsNow_3 : decode cX8_ringsNow 3 = .ok (.dup, 1) := by decide +kernel
theorem dX8_ringsNow_4 : decode cX8_ringsNow 4 = .ok (.invokespecial 148, 3) := by decide +kernel
theorem dX8_ringsNow_7 : decode cX8_ringsNow 7 = .ok (.astore_n 2, 1) := by decide +kernel
theorem dX8_ringsNow_8 : decode cX8_ringsNow 8 = .ok (.iconst 1, 1) := by decide +kernel
theorem dX8_ringsNow_9 : decode cX8_ringsNow 9 = .ok (.istore_n 3, 1) := by decide +kernel
theorem dX8_ringsNow_10 : decode cX8_ringsNow 10 = .ok (.iload_n 3, 1) := by decide +kernel
theorem dX8_ringsNow_11 : decode cX8_ringsNow 11 = .ok (.aload_n 0, 1) := by decide +kernel
theorem dX8_ringsNow_12 : decode cX8_ringsNow 12 = .ok (.getfield 7, 3) := by decide +kernel
theorem dX8_ringsNow_15 : decode cX8_ringsNow 15 = .ok (.if_icmp .gt 51, 3) := by decide +kernel
theorem dX8_ringsNow_18 : decode cX8_ringsNow 18 = .ok (.aload_n 0, 1) := by decide +kernel
theorem dX8_ringsNow_19 : decode cX8_ringsNow 19 = .ok (.iload_n 1, 1) := by decide +kernel
theorem dX8_ringsNow_20 : decode cX8_ringsNow 20 = .ok (.iload_n 3, 1) := by decide +kernel
theorem dX8_ringsNow_21 : decode cX8_ringsNow 21 = .ok (.invokevirtual 162, 3) := by decide +kernel
theorem dX8_ringsNow_24 : decode cX8_ringsNow 24 = .ok (.istore 4, 2) := by decide +kernel
theorem dX8_ringsNow_26 : decode cX8_ringsNow 26 = .ok (.iload 4, 2) := by decide +kernel
theorem dX8_ringsNow_28 : decode cX8_ringsNow 28 = .ok (.ifCond .le 32, 3) := by decide +kernel
theorem dX8_ringsNow_31 : decode cX8_ringsNow 31 = .ok (.aload_n 2, 1) := by decide +kernel
theorem dX8_ringsNow_32 : decode cX8_ringsNow 32 = .ok (.aload_n 2, 1) := by decide +kernel
theorem dX8_ringsNow_33 : decode cX8_ringsNow 33 = .ok (.invokevirtual 165, 3) := by decide +kernel
theorem dX8_ringsNow_36 : decode cX8_ringsNow 36 = .ok (.ifCond .ne 8, 3) := by decide +kernel
theorem dX8_ringsNow_39 : decode cX8_ringsNow 39 = .ok (.ldc 144, 2) := by decide +kernel
theorem dX8_ringsNow_41 : decode cX8_ringsNow 41 = .ok (.goto 5, 3) := by decide +kernel
theorem dX8_ringsNow_44 : decode cX8_ringsNow 44 = .ok (.ldc 149, 2) := by decide +kernel
theorem dX8_ringsNow_46 : decode cX8_ringsNow 46 = .ok (.invokevirtual 151, 3) := by decide +kernel
theorem dX8_ringsNow_49 : decode cX8_ringsNow 49 = .ok (.iload_n 3, 1) := by decide +kernel
theorem dX8_ringsNow_50 : decode cX8_ringsNow 50 = .ok (.invokevirtual 155, 3) := by decide +kernel
theorem dX8_ringsNow_53 : decode cX8_ringsNow 53 = .ok (.pop, 1) := by decide +kernel
theorem dX8_ringsNow_54 : decode cX8_ringsNow 54 = .ok (.iinc 4 (-1), 3) := by decide +kernel
theorem dX8_ringsNow_57 : decode cX8_ringsNow 57 = .ok (.goto (-31), 3) := by decide +kernel
theorem dX8_ringsNow_60 : decode cX8_ringsNow 60 = .ok (.iinc 3 1, 3) := by decide +kernel
theorem dX8_ringsNow_63 : decode cX8_ringsNow 63 = .ok (.goto (-53), 3) := by decide +kernel
theorem dX8_ringsNow_66 : decode cX8_ringsNow 66 = .ok (.aload_n 2, 1) := by decide +kernel
theorem dX8_ringsNow_67 : decode cX8_ringsNow 67 = .ok (.invokevirtual 158, 3) := by decide +kernel
theorem dX8_ringsNow_70 : decode cX8_ringsNow 70 = .ok (.areturn, 1) := by decide +kernel
theorem dX8_rings_0 : decode cX8_rings 0 = .ok (.aload_n 0, 1) := by decide +kernel
theorem dX8_rings_1 : decode cX8_rings 1 = .ok (.iload_n 1, 1) := by decide +kernel
theorem dX8_rings_2 : decode cX8_rings 2 = .ok (.invokestatic 108, 3) := by decide +kernel
theorem dX8_rings_5 : decode cX8_rings 5 = .ok (.ifCond .ne 7, 3) := by decide +kernel
theorem dX8_rings_8 : decode cX8_rings 8 = .ok (.iconst 1, 1) := by decide +kernel
theorem dX8_rings_9 : decode cX8_rings 9 = .ok (.goto 4, 3) := by decide +kernel
theorem dX8_rings_12 : decode cX8_rings 12 = .ok (.iconst 0, 1) := by decide +kernel
theorem dX8_rings_13 : decode cX8_rings 13 = .ok (.invokevirtual 105, 3) := by decide +kernel
theorem dX8_rings_16 : decode cX8_rings 16 = .ok (.ifCond .eq 8, 3) := by decide +kernel
theorem dX8_rings_19 : decode cX8_rings 19 = .ok (.ldc 144, 2) := by decide +kernel
theorem dX8_rings_21 : decode cX8_rings 21 = .ok (.goto 8, 3) := by decide +kernel
theorem dX8_rings_24 : decode cX8_rings 24 = .ok (.aload_n 0, 1) := by decide +kernel
theorem dX8_rings_25 : decode cX8_rings 25 = .ok (.iload_n 1, 1) := by decide +kernel
theorem dX8_rings_26 : decode cX8_rings 26 = .ok (.invokevirtual 168, 3) := by decide +kernel
theorem dX8_rings_29 : decode cX8_rings 29 = .ok (.areturn, 1) := by decide +kernel
theorem dX8_ringText_0 : decode cX8_ringText 0 = .ok (.aload_n 0, 1) := by decide +kernel
theorem dX8_ringText_1 : decode cX8_ringText 1 = .ok (.iload_n 1, 1) := by decide +kernel
theorem dX8_ringText_2 : decode cX8_ringText 2 = .ok (.invokestatic 108, 3) := by decide +kernel
theorem dX8_ringText_5 : decode cX8_ringText 5 = .ok (.ifCond .eq 11, 3) := by decide +kernel
theorem dX8_ringText_8 : decode cX8_ringText 8 = .ok (.aload_n 0, 1) := by decide +kernel
theorem dX8_ringText_9 : decode cX8_ringText 9 = .ok (.iload_n 2, 1) := by decide +kernel
theorem dX8_ringText_10 : decode cX8_ringText 10 = .ok (.invokevirtual 118, 3) := by decide +kernel
theorem dX8_ringText_13 : decode cX8_ringText 13 = .ok (.ifCond .ne 7, 3) := by decide +kernel
theorem dX8_ringText_16 : decode cX8_ringText 16 = .ok (.iconst 1, 1) := by decide +kernel
theorem dX8_ringText_17 : decode cX8_ringText 17 = .ok (.goto 4, 3) := by decide +kernel
theorem dX8_ringText_20 : decode cX8_ringText 20 = .ok (.iconst 0, 1) := by decide +kernel
theorem dX8_ringText_21 : decode cX8_ringText 21 = .ok (.invokevirtual 105, 3) := by decide +kernel
theorem dX8_ringText_24 : decode cX8_ringText 24 = .ok (.ifCond .eq 6, 3) := by decide +kernel
theorem dX8_ringText_27 : decode cX8_ringText 27 = .ok (.ldc 144, 2) := by decide +kernel
theorem dX8_ringText_29 : decode cX8_ringText 29 = .ok (.areturn, 1) := by decide +kernel
theorem dX8_ringText_30 : decode cX8_ringText 30 = .ok (.new 146, 3) := by decide +kernel
theorem dX8_ringText_33 : decode cX8_ringText 33 = .ok (.dup, 1) := by decide +kernel
theorem dX8_ringText_34 : decode cX8_ringText 34 = .ok (.invokespecial 148, 3) := by decide +kernel
theorem dX8_ringText_37 : decode cX8_ringText 37 = .ok (.astore_n 3, 1) := by decide +kernel
theorem dX8_ringText_38 : decode cX8_ringText 38 = .ok (.aload_n 3, 1) := by decide +kernel
theorem dX8_ringText_39 : decode cX8_ringText 39 = .ok (.iload_n 2, 1) := by decide +kernel
theorem dX8_ringText_40 : decode cX8_ringText 40 = .ok (.invokevirtual 155, 3) := by decide +kernel
theorem dX8_ringText_43 : decode cX8_ringText 43 = .ok (.pop, 1) := by decide +kernel
theorem dX8_ringText_44 : decode cX8_ringText 44 = .ok (.aload_n 0, 1) := by decide +kernel
theorem dX8_ringText_45 : decode cX8_ringText 45 = .ok (.iload_n 1, 1) := by decide +kernel
theorem dX8_ringText_46 : decode cX8_ringText 46 = .ok (.iload_n 2, 1) := by decide +kernel
theorem dX8_ringText_47 : decode cX8_ringText 47 = .ok (.invokevirtual 82, 3) := by decide +kernel
theorem dX8_ringText_50 : decode cX8_ringText 50 = .ok (.istore 4, 2) := by decide +kernel
theorem dX8_ringText_52 : decode cX8_ringText 52 = .ok (.iload 4, 2) := by decide +kernel
theorem dX8_ringText_54 : decode cX8_ringText 54 = .ok (.iload_n 2, 1) := by decide +kernel
theorem dX8_ringText_55 : decode cX8_ringText 55 = .ok (.if_icmp .eq 27, 3) := by decide +kernel
theorem dX8_ringText_58 : decode cX8_ringText 58 = .ok (.aload_n 3, 1) := by decide +kernel
theorem dX8_ringText_59 : decode cX8_ringText 59 = .ok (.ldc 149, 2) := by decide +kernel
theorem dX8_ringText_61 : decode cX8_ringText 61 = .ok (.invokevirtual 151, 3) := by decide +kernel
theorem dX8_ringText_64 : decode cX8_ringText 64 = .ok (.iload 4, 2) := by decide +kernel
theorem dX8_ringText_66 : decode cX8_ringText 66 = .ok (.invokevirtual 155, 3) := by decide +kernel
theorem dX8_ringText_69 : decode cX8_ringText 69 = .ok (.pop, 1) := by decide +kernel
theorem dX8_ringText_70 : decode cX8_ringText 70 = .ok (.aload_n 0, 1) := by decide +kernel
theorem dX8_ringText_71 : decode cX8_ringText 71 = .ok (.iload_n 1, 1) := by decide +kernel
theorem dX8_ringText_72 : decode cX8_ringText 72 = .ok (.iload 4, 2) := by decide +kernel
theorem dX8_ringText_74 : decode cX8_ringText 74 = .ok (.invokevirtual 82, 3) := by decide +kernel
theorem dX8_ringText_77 : decode cX8_ringText 77 = .ok (.istore 4, 2) := by decide +kernel
theorem dX8_ringText_79 : decode cX8_ringText 79 = .ok (.goto (-27), 3) := by decide +kernel
theorem dX8_ringText_82 : decode cX8_ringText 82 = .ok (.aload_n 3, 1) := by decide +kernel
theorem dX8_ringText_83 : decode cX8_ringText 83 = .ok (.invokevirtual 158, 3) := by decide +kernel
theorem dX8_ringText_86 : decode cX8_ringText 86 = .ok (.areturn, 1) := by decide +kernel
theorem dX8_order_0 : decode cX8_order 0 = .ok (.aload_n 0, 1) := by decide +kernel
theorem dX8_order_1 : decode cX8_order 1 = .ok (.iload_n 1, 1) := by decide +kernel
theorem dX8_order_2 : decode cX8_order 2 = .ok (.invokestatic 108, 3) := by decide +kernel
theorem dX8_order_5 : decode cX8_order 5 = .ok (.ifCond .ne 7, 3) := by decide +kernel
theorem dX8_order_8 : decode cX8_order 8 = .ok (.iconst 1, 1) := by decide +kernel
theorem dX8_order_9 : decode cX8_order 9 = .ok (.goto 4, 3) := by decide +kernel
theorem dX8_order_12 : decode cX8_order 12 = .ok (.iconst 0, 1) := by decide +kernel
theorem dX8_order_13 : decode cX8_order 13 = .ok (.invokevirtual 105, 3) := by decide +kernel
theorem dX8_order_16 : decode cX8_order 16 = .ok (.ifCond .eq 7, 3) := by decide +kernel
theorem dX8_order_19 : decode cX8_order 19 = .ok (.iconst 0, 1) := by decide +kernel
theorem dX8_order_20 : decode cX8_order 20 = .ok (.goto 15, 3) := by decide +kernel
theorem dX8_order_23 : decode cX8_order 23 = .ok (.aload_n 0, 1) := by decide +kernel
theorem dX8_order_24 : decode cX8_order 24 = .ok (.aload_n 0, 1) := by decide +kernel
theorem dX8_order_25 : decode cX8_order 25 = .ok (.getfield 13, 3) := by decide +kernel
theorem dX8_order_28 : decode cX8_order 28 = .ok (.iload_n 1, 1) := by decide +kernel
theorem dX8_order_29 : decode cX8_order 29 = .ok (.bipush 7, 2) := by decide +kernel
theorem dX8_order_31 : decode cX8_order 31 = .ok (.imul, 1) := by decide +kernel
theorem dX8_order_32 : decode cX8_order 32 = .ok (.invokevirtual 172, 3) := by decide +kernel
theorem dX8_order_35 : decode cX8_order 35 = .ok (.ireturn, 1) := by decide +kernel
theorem dX8_sign_0 : decode cX8_sign 0 = .ok (.aload_n 0, 1) := by decide +kernel
theorem dX8_sign_1 : decode cX8_sign 1 = .ok (.iload_n 1, 1) := by decide +kernel
theorem dX8_sign_2 : decode cX8_sign 2 = .ok (.invokestatic 108, 3) := by decide +kernel
theorem dX8_sign_5 : decode cX8_sign 5 = .ok (.ifCond .ne 7, 3) := by decide +kernel
theorem dX8_sign_8 : decode cX8_sign 8 = .ok (.iconst 1, 1) := by decide +kernel
theorem dX8_sign_9 : decode cX8_sign 9 = .ok (.goto 4, 3) := by decide +kernel
theorem dX8_sign_12 : decode cX8_sign 12 = .ok (.iconst 0, 1) := by decide +kernel
theorem dX8_sign_13 : decode cX8_sign 13 = .ok (.invokevirtual 105, 3) := by decide +kernel
theorem dX8_sign_16 : decode cX8_sign 16 = .ok (.ifCond .eq 7, 3) := by decide +kernel
theorem dX8_sign_19 : decode cX8_sign 19 = .ok (.iconst 0, 1) := by decide +kernel
theorem dX8_sign_20 : decode cX8_sign 20 = .ok (.goto 15, 3) := by decide +kernel
theorem dX8_sign_23 : decode cX8_sign 23 = .ok (.aload_n 0, 1) := by decide +kernel
theorem dX8_sign_24 : decode cX8_sign 24 = .ok (.aload_n 0, 1) := by decide +kernel
theorem dX8_sign_25 : decode cX8_sign 25 = .ok (.getfield 13, 3) := by decide +kernel
theorem dX8_sign_28 : decode cX8_sign 28 = .ok (.iload_n 1, 1) := by decide +kernel
theorem dX8_sign_29 : decode cX8_sign 29 = .ok (.bipush 7, 2) := by decide +kernel
theorem dX8_sign_31 : decode cX8_sign 31 = .ok (.imul, 1) := by decide +kernel
theorem dX8_sign_32 : decode cX8_sign 32 = .ok (.invokevirtual 115, 3) := by decide +kernel
theorem dX8_sign_35 : decode cX8_sign 35 = .ok (.ireturn, 1) := by decide +kernel
theorem dX8_staysNow_0 : decode cX8_staysNow 0 = .ok (.iconst 0, 1) := by decide +kernel
theorem dX8_staysNow_1 : decode cX8_staysNow 1 = .ok (.istore_n 2, 1) := by decide +kernel
theorem dX8_staysNow_2 : decode cX8_staysNow 2 = .ok (.iconst 0, 1) := by decide +kernel
theorem dX8_staysNow_3 : decode cX8_staysNow 3 = .ok (.istore_n 3, 1) := by decide +kernel
theorem dX8_staysNow_4 : decode cX8_staysNow 4 = .ok (.iload_n 3, 1) := by decide +kernel
theorem dX8_staysNow_5 : decode cX8_staysNow 5 = .ok (.aload_n 0, 1) := by decide +kernel
theorem dX8_staysNow_6 : decode cX8_staysNow 6 = .ok (.getfield 7, 3) := by decide +kernel
theorem dX8_staysNow_9 : decode cX8_staysNow 9 = .ok (.if_icmp .ge 29, 3) := by decide +kernel
theorem dX8_staysNow_12 : decode cX8_staysNow 12 = .ok (.iload_n 2, 1) := by decide +kernel
theorem dX8_staysNow_13 : decode cX8_staysNow 13 = .ok (.aload_n 0, 1) := by decide +kernel
theorem dX8_staysNow_14 : decode cX8_staysNow 14 = .ok (.iload_n 1, 1) := by decide +kernel
theorem dX8_staysNow_15 : decode cX8_staysNow 15 = .ok (.iload_n 3, 1) := by decide +kernel
theorem dX8_staysNow_16 : decode cX8_staysNow 16 = .ok (.invokevirtual 82, 3) := by decide +kernel
theorem dX8_staysNow_19 : decode cX8_staysNow 19 = .ok (.iload_n 3, 1) := by decide +kernel
theorem dX8_staysNow_20 : decode cX8_staysNow 20 = .ok (.if_icmp .ne 7, 3) := by decide +kernel
theorem dX8_staysNow_23 : decode cX8_staysNow 23 = .ok (.iconst 1, 1) := by decide +kernel
theorem dX8_staysNow_24 : decode cX8_staysNow 24 = .ok (.goto 4, 3) := by decide +kernel
theorem dX8_staysNow_27 : decode cX8_staysNow 27 = .ok (.iconst 0, 1) := by decide +kernel
theorem dX8_staysNow_28 : decode cX8_staysNow 28 = .ok (.iload_n 3, 1) := by decide +kernel
theorem dX8_staysNow_29 : decode cX8_staysNow 29 = .ok (.ishl, 1) := by decide +kernel
theorem dX8_staysNow_30 : decode cX8_staysNow 30 = .ok (.ior, 1) := by decide +kernel
theorem dX8_staysNow_31 : decode cX8_staysNow 31 = .ok (.istore_n 2, 1) := by decide +kernel
theorem dX8_staysNow_32 : decode cX8_staysNow 32 = .ok (.iinc 3 1, 3) := by decide +kernel
theorem dX8_staysNow_35 : decode cX8_staysNow 35 = .ok (.goto (-31), 3) := by decide +kernel
theorem dX8_staysNow_38 : decode cX8_staysNow 38 = .ok (.iload_n 2, 1) := by decide +kernel
theorem dX8_staysNow_39 : decode cX8_staysNow 39 = .ok (.ireturn, 1) := by decide +kernel
theorem dX8_stays_0 : decode cX8_stays 0 = .ok (.aload_n 0, 1) := by decide +kernel
theorem dX8_stays_1 : decode cX8_stays 1 = .ok (.iload_n 1, 1) := by decide +kernel
theorem dX8_stays_2 : decode cX8_stays 2 = .ok (.invokestatic 108, 3) := by decide +kernel
theorem dX8_stays_5 : decode cX8_stays 5 = .ok (.ifCond .ne 7, 3) := by decide +kernel
theorem dX8_stays_8 : decode cX8_stays 8 = .ok (.iconst 1, 1) := by decide +kernel
theorem dX8_stays_9 : decode cX8_stays 9 = .ok (.goto 4, 3) := by decide +kernel
theorem dX8_stays_12 : decode cX8_stays 12 = .ok (.iconst 0, 1) := by decide +kernel
theorem dX8_stays_13 : decode cX8_stays 13 = .ok (.invokevirtual 105, 3) := by decide +kernel
theorem dX8_stays_16 : decode cX8_stays 16 = .ok (.ifCond .eq 7, 3) := by decide +kernel
theorem dX8_stays_19 : decode cX8_stays 19 = .ok (.iconst 0, 1) := by decide +kernel
theorem dX8_stays_20 : decode cX8_stays 20 = .ok (.goto 8, 3) := by decide +kernel
theorem dX8_stays_23 : decode cX8_stays 23 = .ok (.aload_n 0, 1) := by decide +kernel
theorem dX8_stays_24 : decode cX8_stays 24 = .ok (.iload_n 1, 1) := by decide +kernel
theorem dX8_stays_25 : decode cX8_stays 25 = .ok (.invokevirtual 175, 3) := by decide +kernel
theorem dX8_stays_28 : decode cX8_stays 28 = .ok (.ireturn, 1) := by decide +kernel
theorem dX8_areAlike_0 : decode cX8_areAlike 0 = .ok (.aload_n 0, 1) := by decide +kernel
theorem dX8_areAlike_1 : decode cX8_areAlike 1 = .ok (.iload_n 1, 1) := by decide +kernel
theorem dX8_areAlike_2 : decode cX8_areAlike 2 = .ok (.invokestatic 108, 3) := by decide +kernel
theorem dX8_areAlike_5 : decode cX8_areAlike 5 = .ok (.ifCond .eq 10, 3) := by decide +kernel
theorem dX8_areAlike_8 : decode cX8_areAlike 8 = .ok (.iload_n 2, 1) := by decide +kernel
theorem dX8_areAlike_9 : decode cX8_areAlike 9 = .ok (.invokestatic 108, 3) := by decide +kernel
theorem dX8_areAlike_12 : decode cX8_areAlike 12 = .ok (.ifCond .ne 7, 3) := by decide +kernel
theorem dX8_areAlike_15 : decode cX8_areAlike 15 = .ok (.iconst 1, 1) := by decide +kernel
theorem dX8_areAlike_16 : decode cX8_areAlike 16 = .ok (.goto 4, 3) := by decide +kernel
theorem dX8_areAlike_19 : decode cX8_areAlike 19 = .ok (.iconst 0, 1) := by decide +kernel
theorem dX8_areAlike_20 : decode cX8_areAlike 20 = .ok (.invokevirtual 105, 3) := by decide +kernel
theorem dX8_areAlike_23 : decode cX8_areAlike 23 = .ok (.ifCond .eq 5, 3) := by decide +kernel
theorem dX8_areAlike_26 : decode cX8_areAlike 26 = .ok (.iconst 0, 1) := by decide +kernel
theorem dX8_areAlike_27 : decode cX8_areAlike 27 = .ok (.ireturn, 1) := by decide +kernel
theorem dX8_areAlike_28 : decode cX8_areAlike 28 = .ok (.iconst 1, 1) := by decide +kernel
theorem dX8_areAlike_29 : decode cX8_areAlike 29 = .ok (.istore_n 3, 1) := by decide +kernel
theorem dX8_areAlike_30 : decode cX8_areAlike 30 = .ok (.iconst 1, 1) := by decide +kernel
theorem dX8_areAlike_31 : decode cX8_areAlike 31 = .ok (.istore 4, 2) := by decide +kernel
theorem dX8_areAlike_33 : decode cX8_areAlike 33 = .ok (.iload 4, 2) := by decide +kernel
theorem dX8_areAlike_35 : decode cX8_areAlike 35 = .ok (.aload_n 0, 1) := by decide +kernel
theorem dX8_areAlike_36 : decode cX8_areAlike 36 = .ok (.getfield 7, 3) := by decide +kernel
theorem dX8_areAlike_39 : decode cX8_areAlike 39 = .ok (.if_icmp .gt 34, 3) := by decide +kernel
theorem dX8_areAlike_42 : decode cX8_areAlike 42 = .ok (.iload_n 3, 1) := by decide +kernel
theorem dX8_areAlike_43 : decode cX8_areAlike 43 = .ok (.aload_n 0, 1) := by decide +kernel
theorem dX8_areAlike_44 : decode cX8_areAlike 44 = .ok (.iload_n 1, 1) := by decide +kernel
theorem dX8_areAlike_45 : decode cX8_areAlike 45 = .ok (.iload 4, 2) := by decide +kernel
theorem dX8_areAlike_47 : decode cX8_areAlike 47 = .ok (.invokevirtual 162, 3) := by decide +kernel
theorem dX8_areAlike_50 : decode cX8_areAlike 50 = .ok (.aload_n 0, 1) := by decide +kernel
theorem dX8_areAlike_51 : decode cX8_areAlike 51 = .ok (.iload_n 2, 1) := by decide +kernel
theorem dX8_areAlike_52 : decode cX8_areAlike 52 = .ok (.iload 4, 2) := by decide +kernel
theorem dX8_areAlike_54 : decode cX8_areAlike 54 = .ok (.invokevirtual 162, 3) := by decide +kernel
theorem dX8_areAlike_57 : decode cX8_areAlike 57 = .ok (.if_icmp .ne 7, 3) := by decide +kernel
theorem dX8_areAlike_60 : decode cX8_areAlike 60 = .ok (.iconst 1, 1) := by decide +kernel
theorem dX8_areAlike_61 : decode cX8_areAlike 61 = .ok (.goto 4, 3) := by decide +kernel
theorem dX8_areAlike_64 : decode cX8_areAlike 64 = .ok (.iconst 0, 1) := by decide +kernel
theorem dX8_areAlike_65 : decode cX8_areAlike 65 = .ok (.iand, 1) := by decide +kernel
theorem dX8_areAlike_66 : decode cX8_areAlike 66 = .ok (.istore_n 3, 1) := by decide +kernel
theorem dX8_areAlike_67 : decode cX8_areAlike 67 = .ok (.iinc 4 1, 3) := by decide +kernel
theorem dX8_areAlike_70 : decode cX8_areAlike 70 = .ok (.goto (-37), 3) := by decide +kernel
theorem dX8_areAlike_73 : decode cX8_areAlike 73 = .ok (.iload_n 3, 1) := by decide +kernel
theorem dX8_areAlike_74 : decode cX8_areAlike 74 = .ok (.ireturn, 1) := by decide +kernel
theorem dX8_commute_0 : decode cX8_commute 0 = .ok (.aload_n 0, 1) := by decide +kernel
theorem dX8_commute_1 : decode cX8_commute 1 = .ok (.iload_n 1, 1) := by decide +kernel
theorem dX8_commute_2 : decode cX8_commute 2 = .ok (.invokestatic 108, 3) := by decide +kernel
theorem dX8_commute_5 : decode cX8_commute 5 = .ok (.ifCond .eq 10, 3) := by decide +kernel
theorem dX8_commute_8 : decode cX8_commute 8 = .ok (.iload_n 2, 1) := by decide +kernel
theorem dX8_commute_9 : decode cX8_commute 9 = .ok (.invokestatic 108, 3) := by decide +kernel
theorem dX8_commute_12 : decode cX8_commute 12 = .ok (.ifCond .ne 7, 3) := by decide +kernel
theorem dX8_commute_15 : decode cX8_commute 15 = .ok (.iconst 1, 1) := by decide +kernel
theorem dX8_commute_16 : decode cX8_commute 16 = .ok (.goto 4, 3) := by decide +kernel
theorem dX8_commute_19 : decode cX8_commute 19 = .ok (.iconst 0, 1) := by decide +kernel
theorem dX8_commute_20 : decode cX8_commute 20 = .ok (.invokevirtual 105, 3) := by decide +kernel
theorem dX8_commute_23 : decode cX8_commute 23 = .ok (.ifCond .eq 5, 3) := by decide +kernel
theorem dX8_commute_26 : decode cX8_commute 26 = .ok (.iconst 0, 1) := by decide +kernel
theorem dX8_commute_27 : decode cX8_commute 27 = .ok (.ireturn, 1) := by decide +kernel
theorem dX8_commute_28 : decode cX8_commute 28 = .ok (.iconst 0, 1) := by decide +kernel
theorem dX8_commute_29 : decode cX8_commute 29 = .ok (.istore_n 3, 1) := by decide +kernel
theorem dX8_commute_30 : decode cX8_commute 30 = .ok (.iload_n 3, 1) := by decide +kernel
theorem dX8_commute_31 : decode cX8_commute 31 = .ok (.aload_n 0, 1) := by decide +kernel
theorem dX8_commute_32 : decode cX8_commute 32 = .ok (.getfield 7, 3) := by decide +kernel
theorem dX8_commute_35 : decode cX8_commute 35 = .ok (.if_icmp .ge 36, 3) := by decide +kernel
theorem dX8_commute_38 : decode cX8_commute 38 = .ok (.aload_n 0, 1) := by decide +kernel
theorem dX8_commute_39 : decode cX8_commute 39 = .ok (.iload_n 2, 1) := by decide +kernel
theorem dX8_commute_40 : decode cX8_commute 40 = .ok (.aload_n 0, 1) := by decide +kernel
theorem dX8_commute_41 : decode cX8_commute 41 = .ok (.iload_n 1, 1) := by decide +kernel
theorem dX8_commute_42 : decode cX8_commute 42 = .ok (.iload_n 3, 1) := by decide +kernel
theorem dX8_commute_43 : decode cX8_commute 43 = .ok (.invokevirtual 82, 3) := by decide +kernel
theorem dX8_commute_46 : decode cX8_commute 46 = .ok (.invokevirtual 82, 3) := by decide +kernel
theorem dX8_commute_49 : decode cX8_commute 49 = .ok (.aload_n 0, 1) := by decide +kernel
theorem dX8_commute_50 : decode cX8_commute 50 = .ok (.iload_n 1, 1) := by decide +kernel
theorem dX8_commute_51 : decode cX8_commute 51 = .ok (.aload_n 0, 1) := by decide +kernel
theorem dX8_commute_52 : decode cX8_commute 52 = .ok (.iload_n 2, 1) := by decide +kernel
theorem dX8_commute_53 : decode cX8_commute 53 = .ok (.iload_n 3, 1) := by decide +kernel
theorem dX8_commute_54 : decode cX8_commute 54 = .ok (.invokevirtual 82, 3) := by decide +kernel
theorem dX8_commute_57 : decode cX8_commute 57 = .ok (.invokevirtual 82, 3) := by decide +kernel
theorem dX8_commute_60 : decode cX8_commute 60 = .ok (.if_icmp .eq 5, 3) := by decide +kernel
theorem dX8_commute_63 : decode cX8_commute 63 = .ok (.iconst 0, 1) := by decide +kernel
theorem dX8_commute_64 : decode cX8_commute 64 = .ok (.ireturn, 1) := by decide +kernel
theorem dX8_commute_65 : decode cX8_commute 65 = .ok (.iinc 3 1, 3) := by decide +kernel
theorem dX8_commute_68 : decode cX8_commute 68 = .ok (.goto (-38), 3) := by decide +kernel
theorem dX8_commute_71 : decode cX8_commute 71 = .ok (.iconst 1, 1) := by decide +kernel
theorem dX8_commute_72 : decode cX8_commute 72 = .ok (.ireturn, 1) := by decide +kernel
theorem dX8_size_0 : decode cX8_size 0 = .ok (.aload_n 0, 1) := by decide +kernel
theorem dX8_size_1 : decode cX8_size 1 = .ok (.iload_n 2, 1) := by decide +kernel
theorem dX8_size_2 : decode cX8_size 2 = .ok (.invokestatic 108, 3) := by decide +kernel
theorem dX8_size_5 : decode cX8_size 5 = .ok (.ifCond .ne 7, 3) := by decide +kernel
theorem dX8_size_8 : decode cX8_size 8 = .ok (.iconst 1, 1) := by decide +kernel
theorem dX8_size_9 : decode cX8_size 9 = .ok (.goto 4, 3) := by decide +kernel
theorem dX8_size_12 : decode cX8_size 12 = .ok (.iconst 0, 1) := by decide +kernel
theorem dX8_size_13 : decode cX8_size 13 = .ok (.iload_n 1, 1) := by decide +kernel
theorem dX8_size_14 : decode cX8_size 14 = .ok (.invokestatic 134, 3) := by decide +kernel
theorem dX8_size_17 : decode cX8_size 17 = .ok (.ifCond .ne 7, 3) := by decide +kernel
theorem dX8_size_20 : decode cX8_size 20 = .ok (.iconst 1, 1) := by decide +kernel
theorem dX8_size_21 : decode cX8_size 21 = .ok (.goto 4, 3) := by decide +kernel
theorem dX8_size_24 : decode cX8_size 24 = .ok (.iconst 0, 1) := by decide +kernel
theorem dX8_size_25 : decode cX8_size 25 = .ok (.invokevirtual 35, 3) := by decide +kernel
theorem dX8_size_28 : decode cX8_size 28 = .ok (.ifCond .eq 7, 3) := by decide +kernel
theorem dX8_size_31 : decode cX8_size 31 = .ok (.iconst 0, 1) := by decide +kernel
theorem dX8_size_32 : decode cX8_size 32 = .ok (.goto 8, 3) := by decide +kernel
theorem dX8_size_35 : decode cX8_size 35 = .ok (.aload_n 0, 1) := by decide +kernel
theorem dX8_size_36 : decode cX8_size 36 = .ok (.iload_n 1, 1) := by decide +kernel
theorem dX8_size_37 : decode cX8_size 37 = .ok (.invokevirtual 178, 3) := by decide +kernel
theorem dX8_size_40 : decode cX8_size 40 = .ok (.ireturn, 1) := by decide +kernel
theorem dX8_reachNow_0 : decode cX8_reachNow 0 = .ok (.aload_n 0, 1) := by decide +kernel
theorem dX8_reachNow_1 : decode cX8_reachNow 1 = .ok (.iload_n 1, 1) := by decide +kernel
theorem dX8_reachNow_2 : decode cX8_reachNow 2 = .ok (.invokevirtual 99, 3) := by decide +kernel
theorem dX8_reachNow_5 : decode cX8_reachNow 5 = .ok (.iconst 0, 1) := by decide +kernel
theorem dX8_reachNow_6 : decode cX8_reachNow 6 = .ok (.istore 4, 2) := by decide +kernel
theorem dX8_reachNow_8 : decode cX8_reachNow 8 = .ok (.aload_n 0, 1) := by decide +kernel
theorem dX8_reachNow_9 : decode cX8_reachNow 9 = .ok (.iconst 0, 1) := by decide +kernel
theorem dX8_reachNow_10 : decode cX8_reachNow 10 = .ok (.invokevirtual 137, 3) := by decide +kernel
theorem dX8_reachNow_13 : decode cX8_reachNow 13 = .ok (.istore 5, 2) := by decide +kernel
theorem dX8_reachNow_15 : decode cX8_reachNow 15 = .ok (.iload 5, 2) := by decide +kernel
theorem dX8_reachNow_17 : decode cX8_reachNow 17 = .ok (.ifCond .lt 99, 3) := by decide +kernel
theorem dX8_reachNow_20 : decode cX8_reachNow 20 = .ok (.aload_n 0, 1) := by decide +kernel
theorem dX8_reachNow_21 : decode cX8_reachNow 21 = .ok (.iload 5, 2) := by decide +kernel
theorem dX8_reachNow_23 : decode cX8_reachNow 23 = .ok (.aload_n 0, 1) := by decide +kernel
theorem dX8_reachNow_24 : decode cX8_reachNow 24 = .ok (.getfield 17, 3) := by decide +kernel
theorem dX8_reachNow_27 : decode cX8_reachNow 27 = .ok (.invokevirtual 78, 3) := by decide +kernel
theorem dX8_reachNow_30 : decode cX8_reachNow 30 = .ok (.iconst 1, 1) := by decide +kernel
theorem dX8_reachNow_31 : decode cX8_reachNow 31 = .ok (.istore 6, 2) := by decide +kernel
theorem dX8_reachNow_33 : decode cX8_reachNow 33 = .ok (.iconst 0, 1) := by decide +kernel
theorem dX8_reachNow_34 : decode cX8_reachNow 34 = .ok (.istore 7, 2) := by decide +kernel
theorem dX8_reachNow_36 : decode cX8_reachNow 36 = .ok (.iload 7, 2) := by decide +kernel
theorem dX8_reachNow_38 : decode cX8_reachNow 38 = .ok (.iload_n 3, 1) := by decide +kernel
theorem dX8_reachNow_39 : decode cX8_reachNow 39 = .ok (.if_icmp .ge 41, 3) := by decide +kernel
theorem dX8_reachNow_42 : decode cX8_reachNow 42 = .ok (.iload 6, 2) := by decide +kernel
theorem dX8_reachNow_44 : decode cX8_reachNow 44 = .ok (.aload_n 0, 1) := by decide +kernel
theorem dX8_reachNow_45 : decode cX8_reachNow 45 = .ok (.getfield 17, 3) := by decide +kernel
theorem dX8_reachNow_48 : decode cX8_reachNow 48 = .ok (.aload_n 0, 1) := by decide +kernel
theorem dX8_reachNow_49 : decode cX8_reachNow 49 = .ok (.iload_n 2, 1) := by decide +kernel
theorem dX8_reachNow_50 : decode cX8_reachNow 50 = .ok (.iload 7, 2) := by decide +kernel
theorem dX8_reachNow_52 : decode cX8_reachNow 52 = .ok (.invokevirtual 82, 3) := by decide +kernel
theorem dX8_reachNow_55 : decode cX8_reachNow 55 = .ok (.iaload, 1) := by decide +kernel
theorem dX8_reachNow_56 : decode cX8_reachNow 56 = .ok (.aload_n 0, 1) := by decide +kernel
theorem dX8_reachNow_57 : decode cX8_reachNow 57 = .ok (.iload_n 2, 1) := by decide +kernel
theorem dX8_reachNow_58 : decode cX8_reachNow 58 = .ok (.iload 7, 2) := by decide +kernel
theorem dX8_reachNow_60 : decode cX8_reachNow 60 = .ok (.invokevirtual 82, 3) := by decide +kernel
theorem dX8_reachNow_63 : decode cX8_reachNow 63 = .ok (.if_icmp .ne 7, 3) := by decide +kernel
theorem dX8_reachNow_66 : decode cX8_reachNow 66 = .ok (.iconst 1, 1) := by decide +kernel
theorem dX8_reachNow_67 : decode cX8_reachNow 67 = .ok (.goto 4, 3) := by decide +kernel
theorem dX8_reachNow_70 : decode cX8_reachNow 70 = .ok (.iconst 0, 1) := by decide +kernel
theorem dX8_reachNow_71 : decode cX8_reachNow 71 = .ok (.iand, 1) := by decide +kernel
theorem dX8_reachNow_72 : decode cX8_reachNow 72 = .ok (.istore 6, 2) := by decide +kernel
theorem dX8_reachNow_74 : decode cX8_reachNow 74 = .ok (.iinc 7 1, 3) := by decide +kernel
theorem dX8_reachNow_77 : decode cX8_reachNow 77 = .ok (.goto (-41), 3) := by decide +kernel
theorem dX8_reachNow_80 : decode cX8_reachNow 80 = .ok (.iload 6, 2) := by decide +kernel
theorem dX8_reachNow_82 : decode cX8_reachNow 82 = .ok (.ifCond .eq 21, 3) := by decide +kernel
theorem dX8_reachNow_85 : decode cX8_reachNow 85 = .ok (.iload 4, 2) := by decide +kernel
theorem dX8_reachNow_87 : decode cX8_reachNow 87 = .ok (.iconst 1, 1) := by decide +kernel
theorem dX8_reachNow_88 : decode cX8_reachNow 88 = .ok (.aload_n 0, 1) := by decide +kernel
theorem dX8_reachNow_89 : decode cX8_reachNow 89 = .ok (.getfield 17, 3) := by decide +kernel
theorem dX8_reachNow_92 : decode cX8_reachNow 92 = .ok (.aload_n 0, 1) := by decide +kernel
theorem dX8_reachNow_93 : decode cX8_reachNow 93 = .ok (.iload_n 2, 1) := by decide +kernel
theorem dX8_reachNow_94 : decode cX8_reachNow 94 = .ok (.iload_n 3, 1) := by decide +kernel
theorem dX8_reachNow_95 : decode cX8_reachNow 95 = .ok (.invokevirtual 82, 3) := by decide +kernel
theorem dX8_reachNow_98 : decode cX8_reachNow 98 = .ok (.iaload, 1) := by decide +kernel
theorem dX8_reachNow_99 : decode cX8_reachNow 99 = .ok (.ishl, 1) := by decide +kernel
theorem dX8_reachNow_100 : decode cX8_reachNow 100 = .ok (.ior, 1) := by decide +kernel
theorem dX8_reachNow_101 : decode cX8_reachNow 101 = .ok (.istore 4, 2) := by decide +kernel
theorem dX8_reachNow_103 : decode cX8_reachNow 103 = .ok (.aload_n 0, 1) := by decide +kernel
theorem dX8_reachNow_104 : decode cX8_reachNow 104 = .ok (.iload 5, 2) := by decide +kernel
theorem dX8_reachNow_106 : decode cX8_reachNow 106 = .ok (.iconst 1, 1) := by decide +kernel
theorem dX8_reachNow_107 : decode cX8_reachNow 107 = .ok (.iadd, 1) := by decide +kernel
theorem dX8_reachNow_108 : decode cX8_reachNow 108 = .ok (.invokevirtual 137, 3) := by decide +kernel
theorem dX8_reachNow_111 : decode cX8_reachNow 111 = .ok (.istore 5, 2) := by decide +kernel
theorem dX8_reachNow_113 : decode cX8_reachNow 113 = .ok (.goto (-98), 3) := by decide +kernel
theorem dX8_reachNow_116 : decode cX8_reachNow 116 = .ok (.iload 4, 2) := by decide +kernel
theorem dX8_reachNow_118 : decode cX8_reachNow 118 = .ok (.ireturn, 1) := by decide +kernel
theorem dX8_reach_0 : decode cX8_reach 0 = .ok (.aload_n 0, 1) := by decide +kernel
theorem dX8_reach_1 : decode cX8_reach 1 = .ok (.iload_n 2, 1) := by decide +kernel
theorem dX8_reach_2 : decode cX8_reach 2 = .ok (.invokestatic 108, 3) := by decide +kernel
theorem dX8_reach_5 : decode cX8_reach 5 = .ok (.ifCond .eq 11, 3) := by decide +kernel
theorem dX8_reach_8 : decode cX8_reach 8 = .ok (.aload_n 0, 1) := by decide +kernel
theorem dX8_reach_9 : decode cX8_reach 9 = .ok (.iload_n 3, 1) := by decide +kernel
theorem dX8_reach_10 : decode cX8_reach 10 = .ok (.invokevirtual 118, 3) := by decide +kernel
theorem dX8_reach_13 : decode cX8_reach 13 = .ok (.ifCond .ne 7, 3) := by decide +kernel
theorem dX8_reach_16 : decode cX8_reach 16 = .ok (.iconst 1, 1) := by decide +kernel
theorem dX8_reach_17 : decode cX8_reach 17 = .ok (.goto 4, 3) := by decide +kernel
theorem dX8_reach_20 : decode cX8_reach 20 = .ok (.iconst 0, 1) := by decide +kernel
theorem dX8_reach_21 : decode cX8_reach 21 = .ok (.iload_n 1, 1) := by decide +kernel
theorem dX8_reach_22 : decode cX8_reach 22 = .ok (.invokestatic 134, 3) := by decide +kernel
theorem dX8_reach_25 : decode cX8_reach 25 = .ok (.ifCond .ne 7, 3) := by decide +kernel
theorem dX8_reach_28 : decode cX8_reach 28 = .ok (.iconst 1, 1) := by decide +kernel
theorem dX8_reach_29 : decode cX8_reach 29 = .ok (.goto 4, 3) := by decide +kernel
theorem dX8_reach_32 : decode cX8_reach 32 = .ok (.iconst 0, 1) := by decide +kernel
theorem dX8_reach_33 : decode cX8_reach 33 = .ok (.invokevirtual 35, 3) := by decide +kernel
theorem dX8_reach_36 : decode cX8_reach 36 = .ok (.ifCond .eq 7, 3) := by decide +kernel
theorem dX8_reach_39 : decode cX8_reach 39 = .ok (.iconst 0, 1) := by decide +kernel
theorem dX8_reach_40 : decode cX8_reach 40 = .ok (.goto 10, 3) := by decide +kernel
theorem dX8_reach_43 : decode cX8_reach 43 = .ok (.aload_n 0, 1) := by decide +kernel
theorem dX8_reach_44 : decode cX8_reach 44 = .ok (.iload_n 1, 1) := by decide +kernel
theorem dX8_reach_45 : decode cX8_reach 45 = .ok (.iload_n 2, 1) := by decide +kernel
theorem dX8_reach_46 : decode cX8_reach 46 = .ok (.iload_n 3, 1) := by decide +kernel
theorem dX8_reach_47 : decode cX8_reach 47 = .ok (.invokevirtual 181, 3) := by decide +kernel
theorem dX8_reach_50 : decode cX8_reach 50 = .ok (.ireturn, 1) := by decide +kernel
theorem dX8_isInNow_0 : decode cX8_isInNow 0 = .ok (.aload_n 0, 1) := by decide +kernel
theorem dX8_isInNow_1 : decode cX8_isInNow 1 = .ok (.iload_n 1, 1) := by decide +kernel
theorem dX8_isInNow_2 : decode cX8_isInNow 2 = .ok (.invokevirtual 99, 3) := by decide +kernel
theorem dX8_isInNow_5 : decode cX8_isInNow 5 = .ok (.aload_n 0, 1) := by decide +kernel
theorem dX8_isInNow_6 : decode cX8_isInNow 6 = .ok (.aload_n 0, 1) := by decide +kernel
theorem dX8_isInNow_7 : decode cX8_isInNow 7 = .ok (.aload_n 0, 1) := by decide +kernel
theorem dX8_isInNow_8 : decode cX8_isInNow 8 = .ok (.getfield 13, 3) := by decide +kernel
theorem dX8_isInNow_11 : decode cX8_isInNow 11 = .ok (.iload_n 2, 1) := by decide +kernel
theorem dX8_isInNow_12 : decode cX8_isInNow 12 = .ok (.bipush 7, 2) := by decide +kernel
theorem dX8_isInNow_14 : decode cX8_isInNow 14 = .ok (.imul, 1) := by decide +kernel
theorem dX8_isInNow_15 : decode cX8_isInNow 15 = .ok (.invokevirtual 45, 3) := by decide +kernel
theorem dX8_isInNow_18 : decode cX8_isInNow 18 = .ok (.invokevirtual 88, 3) := by decide +kernel
theorem dX8_isInNow_21 : decode cX8_isInNow 21 = .ok (.ireturn, 1) := by decide +kernel
theorem dX8_isIn_0 : decode cX8_isIn 0 = .ok (.aload_n 0, 1) := by decide +kernel
theorem dX8_isIn_1 : decode cX8_isIn 1 = .ok (.iload_n 2, 1) := by decide +kernel
theorem dX8_isIn_2 : decode cX8_isIn 2 = .ok (.invokestatic 108, 3) := by decide +kernel
theorem dX8_isIn_5 : decode cX8_isIn 5 = .ok (.ifCond .ne 7, 3) := by decide +kernel
theorem dX8_isIn_8 : decode cX8_isIn 8 = .ok (.iconst 1, 1) := by decide +kernel
theorem dX8_isIn_9 : decode cX8_isIn 9 = .ok (.goto 4, 3) := by decide +kernel
theorem dX8_isIn_12 : decode cX8_isIn 12 = .ok (.iconst 0, 1) := by decide +kernel
theorem dX8_isIn_13 : decode cX8_isIn 13 = .ok (.iload_n 1, 1) := by decide +kernel
theorem dX8_isIn_14 : decode cX8_isIn 14 = .ok (.invokestatic 134, 3) := by decide +kernel
theorem dX8_isIn_17 : decode cX8_isIn 17 = .ok (.ifCond .eq 12, 3) := by decide +kernel
theorem dX8_isIn_20 : decode cX8_isIn 20 = .ok (.iload_n 3, 1) := by decide +kernel
theorem dX8_isIn_21 : decode cX8_isIn 21 = .ok (.ifCond .lt 8, 3) := by decide +kernel
theorem dX8_isIn_24 : decode cX8_isIn 24 = .ok (.iload_n 3, 1) := by decide +kernel
theorem dX8_isIn_25 : decode cX8_isIn 25 = .ok (.iconst 1, 1) := by decide +kernel
theorem dX8_isIn_26 : decode cX8_isIn 26 = .ok (.if_icmp .le 7, 3) := by decide +kernel
theorem dX8_isIn_29 : decode cX8_isIn 29 = .ok (.iconst 1, 1) := by decide +kernel
theorem dX8_isIn_30 : decode cX8_isIn 30 = .ok (.goto 4, 3) := by decide +kernel
theorem dX8_isIn_33 : decode cX8_isIn 33 = .ok (.iconst 0, 1) := by decide +kernel
theorem dX8_isIn_34 : decode cX8_isIn 34 = .ok (.invokevirtual 35, 3) := by decide +kernel
theorem dX8_isIn_37 : decode cX8_isIn 37 = .ok (.ifCond .ne 16, 3) := by decide +kernel
theorem dX8_isIn_40 : decode cX8_isIn 40 = .ok (.aload_n 0, 1) := by decide +kernel
theorem dX8_isIn_41 : decode cX8_isIn 41 = .ok (.iload_n 1, 1) := by decide +kernel
theorem dX8_isIn_42 : decode cX8_isIn 42 = .ok (.iload_n 2, 1) := by decide +kernel
theorem dX8_isIn_43 : decode cX8_isIn 43 = .ok (.invokevirtual 185, 3) := by decide +kernel
theorem dX8_isIn_46 : decode cX8_isIn 46 = .ok (.ifCond .eq 7, 3) := by decide +kernel
theorem dX8_isIn_49 : decode cX8_isIn 49 = .ok (.iconst 1, 1) := by decide +kernel
theorem dX8_isIn_50 : decode cX8_isIn 50 = .ok (.goto 4, 3) := by decide +kernel
theorem dX8_isIn_53 : decode cX8_isIn 53 = .ok (.iconst 0, 1) := by decide +kernel
theorem dX8_isIn_54 : decode cX8_isIn 54 = .ok (.ireturn, 1) := by decide +kernel
theorem dX8_rank_0 : decode cX8_rank 0 = .ok (.aload_n 0, 1) := by decide +kernel
theorem dX8_rank_1 : decode cX8_rank 1 = .ok (.iload_n 2, 1) := by decide +kernel
theorem dX8_rank_2 : decode cX8_rank 2 = .ok (.invokestatic 108, 3) := by decide +kernel
theorem dX8_rank_5 : decode cX8_rank 5 = .ok (.ifCond .eq 10, 3) := by decide +kernel
theorem dX8_rank_8 : decode cX8_rank 8 = .ok (.iload_n 3, 1) := by decide +kernel
theorem dX8_rank_9 : decode cX8_rank 9 = .ok (.invokestatic 108, 3) := by decide +kernel
theorem dX8_rank_12 : decode cX8_rank 12 = .ok (.ifCond .ne 7, 3) := by decide +kernel
theorem dX8_rank_15 : decode cX8_rank 15 = .ok (.iconst 1, 1) := by decide +kernel
theorem dX8_rank_16 : decode cX8_rank 16 = .ok (.goto 4, 3) := by decide +kernel
theorem dX8_rank_19 : decode cX8_rank 19 = .ok (.iconst 0, 1) := by decide +kernel
theorem dX8_rank_20 : decode cX8_rank 20 = .ok (.iload_n 1, 1) := by decide +kernel
theorem dX8_rank_21 : decode cX8_rank 21 = .ok (.invokestatic 134, 3) := by decide +kernel
theorem dX8_rank_24 : decode cX8_rank 24 = .ok (.ifCond .ne 7, 3) := by decide +kernel
theorem dX8_rank_27 : decode cX8_rank 27 = .ok (.iconst 1, 1) := by decide +kernel
theorem dX8_rank_28 : decode cX8_rank 28 = .ok (.goto 4, 3) := by decide +kernel
theorem dX8_rank_31 : decode cX8_rank 31 = .ok (.iconst 0, 1) := by decide +kernel
theorem dX8_rank_32 : decode cX8_rank 32 = .ok (.invokevirtual 35, 3) := by decide +kernel
theorem dX8_rank_35 : decode cX8_rank 35 = .ok (.ifCond .eq 5, 3) := by decide +kernel
theorem dX8_rank_38 : decode cX8_rank 38 = .ok (.iconst 0, 1) := by decide +kernel
theorem dX8_rank_39 : decode cX8_rank 39 = .ok (.ireturn, 1) := by decide +kernel
theorem dX8_rank_40 : decode cX8_rank 40 = .ok (.aload_n 0, 1) := by decide +kernel
theorem dX8_rank_41 : decode cX8_rank 41 = .ok (.iload_n 1, 1) := by decide +kernel
theorem dX8_rank_42 : decode cX8_rank 42 = .ok (.iload_n 3, 1) := by decide +kernel
theorem dX8_rank_43 : decode cX8_rank 43 = .ok (.invokevirtual 185, 3) := by decide +kernel
theorem dX8_rank_46 : decode cX8_rank 46 = .ok (.ifCond .ne 5, 3) := by decide +kernel
theorem dX8_rank_49 : decode cX8_rank 49 = .ok (.iconst (-1), 1) := by decide +kernel
theorem dX8_rank_50 : decode cX8_rank 50 = .ok (.ireturn, 1) := by decide +kernel
theorem dX8_rank_51 : decode cX8_rank 51 = .ok (.iconst 0, 1) := by decide +kernel
theorem dX8_rank_52 : decode cX8_rank 52 = .ok (.istore 4, 2) := by decide +kernel
theorem dX8_rank_54 : decode cX8_rank 54 = .ok (.aload_n 0, 1) := by decide +kernel
theorem dX8_rank_55 : decode cX8_rank 55 = .ok (.iconst 0, 1) := by decide +kernel
theorem dX8_rank_56 : decode cX8_rank 56 = .ok (.invokevirtual 137, 3) := by decide +kernel
theorem dX8_rank_59 : decode cX8_rank 59 = .ok (.istore 5, 2) := by decide +kernel
theorem dX8_rank_61 : decode cX8_rank 61 = .ok (.iload 5, 2) := by decide +kernel
theorem dX8_rank_63 : decode cX8_rank 63 = .ok (.ifCond .lt 110, 3) := by decide +kernel
theorem dX8_rank_66 : decode cX8_rank 66 = .ok (.aload_n 0, 1) := by decide +kernel
theorem dX8_rank_67 : decode cX8_rank 67 = .ok (.iload 5, 2) := by decide +kernel
theorem dX8_rank_69 : decode cX8_rank 69 = .ok (.aload_n 0, 1) := by decide +kernel
theorem dX8_rank_70 : decode cX8_rank 70 = .ok (.getfield 17, 3) := by decide +kernel
theorem dX8_rank_73 : decode cX8_rank 73 = .ok (.invokevirtual 78, 3) := by decide +kernel
theorem dX8_rank_76 : decode cX8_rank 76 = .ok (.iconst 0, 1) := by decide +kernel
theorem dX8_rank_77 : decode cX8_rank 77 = .ok (.istore 6, 2) := by decide +kernel
theorem dX8_rank_79 : decode cX8_rank 79 = .ok (.iload 6, 2) := by decide +kernel
theorem dX8_rank_81 : decode cX8_rank 81 = .ok (.aload_n 0, 1) := by decide +kernel
theorem dX8_rank_82 : decode cX8_rank 82 = .ok (.getfield 7, 3) := by decide +kernel
theorem dX8_rank_85 : decode cX8_rank 85 = .ok (.if_icmp .ge 36, 3) := by decide +kernel
theorem dX8_rank_88 : decode cX8_rank 88 = .ok (.aload_n 0, 1) := by decide +kernel
theorem dX8_rank_89 : decode cX8_rank 89 = .ok (.getfield 17, 3) := by decide +kernel
theorem dX8_rank_92 : decode cX8_rank 92 = .ok (.aload_n 0, 1) := by decide +kernel
theorem dX8_rank_93 : decode cX8_rank 93 = .ok (.iload_n 2, 1) := by decide +kernel
theorem dX8_rank_94 : decode cX8_rank 94 = .ok (.iload 6, 2) := by decide +kernel
theorem dX8_rank_96 : decode cX8_rank 96 = .ok (.invokevirtual 82, 3) := by decide +kernel
theorem dX8_rank_99 : decode cX8_rank 99 = .ok (.iaload, 1) := by decide +kernel
theorem dX8_rank_100 : decode cX8_rank 100 = .ok (.aload_n 0, 1) := by decide +kernel
theorem dX8_rank_101 : decode cX8_rank 101 = .ok (.iload_n 3, 1) := by decide +kernel
theorem dX8_rank_102 : decode cX8_rank 102 = .ok (.aload_n 0, 1) := by decide +kernel
theorem dX8_rank_103 : decode cX8_rank 103 = .ok (.iload_n 2, 1) := by decide +kernel
theorem dX8_rank_104 : decode cX8_rank 104 = .ok (.iload 6, 2) := by decide +kernel
theorem dX8_rank_106 : decode cX8_rank 106 = .ok (.invokevirtual 82, 3) := by decide +kernel
theorem dX8_rank_109 : decode cX8_rank 109 = .ok (.invokevirtual 82, 3) := by decide +kernel
theorem dX8_rank_112 : decode cX8_rank 112 = .ok (.if_icmp .ne 9, 3) := by decide +kernel
theorem dX8_rank_115 : decode cX8_rank 115 = .ok (.iinc 6 1, 3) := by decide +kernel
theorem dX8_rank_118 : decode cX8_rank 118 = .ok (.goto (-39), 3) := by decide +kernel
theorem dX8_rank_121 : decode cX8_rank 121 = .ok (.iload 6, 2) := by decide +kernel
theorem dX8_rank_123 : decode cX8_rank 123 = .ok (.aload_n 0, 1) := by decide +kernel
theorem dX8_rank_124 : decode cX8_rank 124 = .ok (.getfield 7, 3) := by decide +kernel
theorem dX8_rank_127 : decode cX8_rank 127 = .ok (.if_icmp .ge 33, 3) := by decide +kernel
theorem dX8_rank_130 : decode cX8_rank 130 = .ok (.aload_n 0, 1) := by decide +kernel
theorem dX8_rank_131 : decode cX8_rank 131 = .ok (.getfield 17, 3) := by decide +kernel
theorem dX8_rank_134 : decode cX8_rank 134 = .ok (.aload_n 0, 1) := by decide +kernel
theorem dX8_rank_135 : decode cX8_rank 135 = .ok (.iload_n 2, 1) := by decide +kernel
theorem dX8_rank_136 : decode cX8_rank 136 = .ok (.iload 6, 2) := by decide +kernel
theorem dX8_rank_138 : decode cX8_rank 138 = .ok (.invokevirtual 82, 3) := by decide +kernel
theorem dX8_rank_141 : decode cX8_rank 141 = .ok (.iaload, 1) := by decide +kernel
theorem dX8_rank_142 : decode cX8_rank 142 = .ok (.aload_n 0, 1) := by decide +kernel
theorem dX8_rank_143 : decode cX8_rank 143 = .ok (.iload_n 3, 1) := by decide +kernel
theorem dX8_rank_144 : decode cX8_rank 144 = .ok (.aload_n 0, 1) := by decide +kernel
theorem dX8_rank_145 : decode cX8_rank 145 = .ok (.iload_n 2, 1) := by decide +kernel
theorem dX8_rank_146 : decode cX8_rank 146 = .ok (.iload 6, 2) := by decide +kernel
theorem dX8_rank_148 : decode cX8_rank 148 = .ok (.invokevirtual 82, 3) := by decide +kernel
theorem dX8_rank_151 : decode cX8_rank 151 = .ok (.invokevirtual 82, 3) := by decide +kernel
theorem dX8_rank_154 : decode cX8_rank 154 = .ok (.if_icmp .ge 6, 3) := by decide +kernel
theorem dX8_rank_157 : decode cX8_rank 157 = .ok (.iinc 4 1, 3) := by decide +kernel
theorem dX8_rank_160 : decode cX8_rank 160 = .ok (.aload_n 0, 1) := by decide +kernel
theorem dX8_rank_161 : decode cX8_rank 161 = .ok (.iload 5, 2) := by decide +kernel
theorem dX8_rank_163 : decode cX8_rank 163 = .ok (.iconst 1, 1) := by decide +kernel
theorem dX8_rank_164 : decode cX8_rank 164 = .ok (.iadd, 1) := by decide +kernel
theorem dX8_rank_165 : decode cX8_rank 165 = .ok (.invokevirtual 137, 3) := by decide +kernel
theorem dX8_rank_168 : decode cX8_rank 168 = .ok (.istore 5, 2) := by decide +kernel
theorem dX8_rank_170 : decode cX8_rank 170 = .ok (.goto (-109), 3) := by decide +kernel
theorem dX8_rank_173 : decode cX8_rank 173 = .ok (.iload 4, 2) := by decide +kernel
theorem dX8_rank_175 : decode cX8_rank 175 = .ok (.ireturn, 1) := by decide +kernel
theorem dX8_list_0 : decode cX8_list 0 = .ok (.aload_n 0, 1) := by decide +kernel
theorem dX8_list_1 : decode cX8_list 1 = .ok (.iload_n 1, 1) := by decide +kernel
theorem dX8_list_2 : decode cX8_list 2 = .ok (.invokestatic 134, 3) := by decide +kernel
theorem dX8_list_5 : decode cX8_list 5 = .ok (.ifCond .eq 7, 3) := by decide +kernel
theorem dX8_list_8 : decode cX8_list 8 = .ok (.iload_n 2, 1) := by decide +kernel
theorem dX8_list_9 : decode cX8_list 9 = .ok (.ifCond .ge 7, 3) := by decide +kernel
theorem dX8_list_12 : decode cX8_list 12 = .ok (.iconst 1, 1) := by decide +kernel
theorem dX8_list_13 : decode cX8_list 13 = .ok (.goto 4, 3) := by decide +kernel
theorem dX8_list_16 : decode cX8_list 16 = .ok (.iconst 0, 1) := by decide +kernel
theorem dX8_list_17 : decode cX8_list 17 = .ok (.invokevirtual 105, 3) := by decide +kernel
theorem dX8_list_20 : decode cX8_list 20 = .ok (.ifCond .eq 6, 3) := by decide +kernel
theorem dX8_list_23 : decode cX8_list 23 = .ok (.ldc 144, 2) := by decide +kernel
theorem dX8_list_25 : decode cX8_list 25 = .ok (.areturn, 1) := by decide +kernel
theorem dX8_list_26 : decode cX8_list 26 = .ok (.aload_n 0, 1) := by decide +kernel
theorem dX8_list_27 : decode cX8_list 27 = .ok (.iload_n 1, 1) := by decide +kernel
theorem dX8_list_28 : decode cX8_list 28 = .ok (.invokevirtual 99, 3) := by decide +kernel
theorem dX8_list_31 : decode cX8_list 31 = .ok (.new 146, 3) := by decide +kernel
theorem dX8_list_34 : decode cX8_list 34 = .ok (.dup, 1) := by decide +kernel
theorem dX8_list_35 : decode cX8_list 35 = .ok (.invokespecial 148, 3) := by decide +kernel
theorem dX8_list_38 : decode cX8_list 38 = .ok (.astore_n 3, 1) := by decide +kernel
theorem dX8_list_39 : decode cX8_list 39 = .ok (.iload_n 2, 1) := by decide +kernel
theorem dX8_list_40 : decode cX8_list 40 = .ok (.istore 4, 2) := by decide +kernel
theorem dX8_list_42 : decode cX8_list 42 = .ok (.iconst 0, 1) := by decide +kernel
theorem dX8_list_43 : decode cX8_list 43 = .ok (.istore 5, 2) := by decide +kernel
theorem dX8_list_45 : decode cX8_list 45 = .ok (.aload_n 0, 1) := by decide +kernel
theorem dX8_list_46 : decode cX8_list 46 = .ok (.iconst 0, 1) := by decide +kernel
theorem dX8_list_47 : decode cX8_list 47 = .ok (.invokevirtual 137, 3) := by decide +kernel
theorem dX8_list_50 : decode cX8_list 50 = .ok (.istore 6, 2) := by decide +kernel
theorem dX8_list_52 : decode cX8_list 52 = .ok (.iload 6, 2) := by decide +kernel
theorem dX8_list_54 : decode cX8_list 54 = .ok (.ifCond .lt 59, 3) := by decide +kernel
theorem dX8_list_57 : decode cX8_list 57 = .ok (.iload 5, 2) := by decide +kernel
theorem dX8_list_59 : decode cX8_list 59 = .ok (.bipush 20, 2) := by decide +kernel
theorem dX8_list_61 : decode cX8_list 61 = .ok (.if_icmp .ge 52, 3) := by decide +kernel
theorem dX8_list_64 : decode cX8_list 64 = .ok (.iinc 4 (-1), 3) := by decide +kernel
theorem dX8_list_67 : decode cX8_list 67 = .ok (.iload 4, 2) := by decide +kernel
theorem dX8_list_69 : decode cX8_list 69 = .ok (.ifCond .lt 6, 3) := by decide +kernel
theorem dX8_list_72 : decode cX8_list 72 = .ok (.goto 28, 3) := by decide +kernel
theorem dX8_list_75 : decode cX8_list 75 = .ok (.aload_n 3, 1) := by decide +kernel
theorem dX8_list_76 : decode cX8_list 76 = .ok (.iload 5, 2) := by decide +kernel
theorem dX8_list_78 : decode cX8_list 78 = .ok (.ifCond .ne 8, 3) := by decide +kernel
theorem dX8_list_81 : decode cX8_list 81 = .ok (.ldc 144, 2) := by decide +kernel
theorem dX8_list_83 : decode cX8_list 83 = .ok (.goto 5, 3) := by decide +kernel
theorem dX8_list_86 : decode cX8_list 86 = .ok (.ldc 149, 2) := by decide +kernel
theorem dX8_list_88 : decode cX8_list 88 = .ok (.invokevirtual 151, 3) := by decide +kernel
theorem dX8_list_91 : decode cX8_list 91 = .ok (.iload 6, 2) := by decide +kernel
theorem dX8_list_93 : decode cX8_list 93 = .ok (.invokevirtual 155, 3) := by decide +kernel
theorem dX8_list_96 : decode cX8_list 96 = .ok (.pop, 1) := by decide +kernel
theorem dX8_list_97 : decode cX8_list 97 = .ok (.iinc 5 1, 3) := by decide +kernel
theorem dX8_list_100 : decode cX8_list 100 = .ok (.aload_n 0, 1) := by decide +kernel
theorem dX8_list_101 : decode cX8_list 101 = .ok (.iload 6, 2) := by decide +kernel
theorem dX8_list_103 : decode cX8_list 103 = .ok (.iconst 1, 1) := by decide +kernel
theorem dX8_list_104 : decode cX8_list 104 = .ok (.iadd, 1) := by decide +kernel
theorem dX8_list_105 : decode cX8_list 105 = .ok (.invokevirtual 137, 3) := by decide +kernel
theorem dX8_list_108 : decode cX8_list 108 = .ok (.istore 6, 2) := by decide +kernel
theorem dX8_list_110 : decode cX8_list 110 = .ok (.goto (-58), 3) := by decide +kernel
theorem dX8_list_113 : decode cX8_list 113 = .ok (.aload_n 3, 1) := by decide +kernel
theorem dX8_list_114 : decode cX8_list 114 = .ok (.invokevirtual 158, 3) := by decide +kernel
theorem dX8_list_117 : decode cX8_list 117 = .ok (.areturn, 1) := by decide +kernel
theorem dX8_comesNow_0 : decode cX8_comesNow 0 = .ok (.iconst 1, 1) := by decide +kernel
theorem dX8_comesNow_1 : decode cX8_comesNow 1 = .ok (.iload_n 2, 1) := by decide +kernel
theorem dX8_comesNow_2 : decode cX8_comesNow 2 = .ok (.ishl, 1) := by decide +kernel
theorem dX8_comesNow_3 : decode cX8_comesNow 3 = .ok (.istore_n 3, 1) := by decide +kernel
theorem dX8_comesNow_4 : decode cX8_comesNow 4 = .ok (.iconst 0, 1) := by decide +kernel
theorem dX8_comesNow_5 : decode cX8_comesNow 5 = .ok (.istore 4, 2) := by decide +kernel
theorem dX8_comesNow_7 : decode cX8_comesNow 7 = .ok (.iload 4, 2) := by decide +kernel
theorem dX8_comesNow_9 : decode cX8_comesNow 9 = .ok (.aload_n 0, 1) := by decide +kernel
theorem dX8_comesNow_10 : decode cX8_comesNow 10 = .ok (.getfield 7, 3) := by decide +kernel
theorem dX8_comesNow_13 : decode cX8_comesNow 13 = .ok (.if_icmp .ge 78, 3) := by decide +kernel
theorem dX8_comesNow_16 : decode cX8_comesNow 16 = .ok (.iconst 0, 1) := by decide +kernel
theorem dX8_comesNow_17 : decode cX8_comesNow 17 = .ok (.istore 5, 2) := by decide +kernel
theorem dX8_comesNow_19 : decode cX8_comesNow 19 = .ok (.iload 5, 2) := by decide +kernel
theorem dX8_comesNow_21 : decode cX8_comesNow 21 = .ok (.bipush 6, 2) := by decide +kernel
theorem dX8_comesNow_23 : decode cX8_comesNow 23 = .ok (.if_icmp .ge 62, 3) := by decide +kernel
theorem dX8_comesNow_26 : decode cX8_comesNow 26 = .ok (.iload_n 1, 1) := by decide +kernel
theorem dX8_comesNow_27 : decode cX8_comesNow 27 = .ok (.iload 5, 2) := by decide +kernel
theorem dX8_comesNow_29 : decode cX8_comesNow 29 = .ok (.ishr, 1) := by decide +kernel
theorem dX8_comesNow_30 : decode cX8_comesNow 30 = .ok (.iconst 1, 1) := by decide +kernel
theorem dX8_comesNow_31 : decode cX8_comesNow 31 = .ok (.iand, 1) := by decide +kernel
theorem dX8_comesNow_32 : decode cX8_comesNow 32 = .ok (.ifCond .ne 6, 3) := by decide +kernel
theorem dX8_comesNow_35 : decode cX8_comesNow 35 = .ok (.goto 44, 3) := by decide +kernel
theorem dX8_comesNow_38 : decode cX8_comesNow 38 = .ok (.iconst 0, 1) := by decide +kernel
theorem dX8_comesNow_39 : decode cX8_comesNow 39 = .ok (.istore 6, 2) := by decide +kernel
theorem dX8_comesNow_41 : decode cX8_comesNow 41 = .ok (.iload 6, 2) := by decide +kernel
theorem dX8_comesNow_43 : decode cX8_comesNow 43 = .ok (.aload_n 0, 1) := by decide +kernel
theorem dX8_comesNow_44 : decode cX8_comesNow 44 = .ok (.getfield 7, 3) := by decide +kernel
theorem dX8_comesNow_47 : decode cX8_comesNow 47 = .ok (.if_icmp .ge 32, 3) := by decide +kernel
theorem dX8_comesNow_50 : decode cX8_comesNow 50 = .ok (.iload_n 3, 1) := by decide +kernel
theorem dX8_comesNow_51 : decode cX8_comesNow 51 = .ok (.iload 6, 2) := by decide +kernel
theorem dX8_comesNow_53 : decode cX8_comesNow 53 = .ok (.ishr, 1) := by decide +kernel
theorem dX8_comesNow_54 : decode cX8_comesNow 54 = .ok (.iconst 1, 1) := by decide +kernel
theorem dX8_comesNow_55 : decode cX8_comesNow 55 = .ok (.iand, 1) := by decide +kernel
theorem dX8_comesNow_56 : decode cX8_comesNow 56 = .ok (.iconst 1, 1) := by decide +kernel
theorem dX8_comesNow_57 : decode cX8_comesNow 57 = .ok (.if_icmp .ne 16, 3) := by decide +kernel
theorem dX8_comesNow_60 : decode cX8_comesNow 60 = .ok (.iload_n 3, 1) := by decide +kernel
theorem dX8_comesNow_61 : decode cX8_comesNow 61 = .ok (.iconst 1, 1) := by decide +kernel
theorem dX8_comesNow_62 : decode cX8_comesNow 62 = .ok (.aload_n 0, 1) := by decide +kernel
theorem dX8_comesNow_63 : decode cX8_comesNow 63 = .ok (.iload 5, 2) := by decide +kernel
theorem dX8_comesNow_65 : decode cX8_comesNow 65 = .ok (.iload 6, 2) := by decide +kernel
theorem dX8_comesNow_67 : decode cX8_comesNow 67 = .ok (.invokevirtual 82, 3) := by decide +kernel
theorem dX8_comesNow_70 : decode cX8_comesNow 70 = .ok (.ishl, 1) := by decide +kernel
theorem dX8_comesNow_71 : decode cX8_comesNow 71 = .ok (.ior, 1) := by decide +kernel
theorem dX8_comesNow_72 : decode cX8_comesNow 72 = .ok (.istore_n 3, 1) := by decide +kernel
theorem dX8_comesNow_73 : decode cX8_comesNow 73 = .ok (.iinc 6 1, 3) := by decide +kernel
theorem dX8_comesNow_76 : decode cX8_comesNow 76 = .ok (.goto (-35), 3) := by decide +kernel
theorem dX8_comesNow_79 : decode cX8_comesNow 79 = .ok (.iinc 5 1, 3) := by decide +kernel
theorem dX8_comesNow_82 : decode cX8_comesNow 82 = .ok (.goto (-63), 3) := by decide +kernel
theorem dX8_comesNow_85 : decode cX8_comesNow 85 = .ok (.iinc 4 1, 3) := by decide +kernel
theorem dX8_comesNow_88 : decode cX8_comesNow 88 = .ok (.goto (-81), 3) := by decide +kernel
theorem dX8_comesNow_91 : decode cX8_comesNow 91 = .ok (.iload_n 3, 1) := by decide +kernel
theorem dX8_comesNow_92 : decode cX8_comesNow 92 = .ok (.ireturn, 1) := by decide +kernel
theorem dX8_comes_0 : decode cX8_comes 0 = .ok (.aload_n 0, 1) := by decide +kernel
theorem dX8_comes_1 : decode cX8_comes 1 = .ok (.aload_n 0, 1) := by decide +kernel
theorem dX8_comes_2 : decode cX8_comes 2 = .ok (.iload_n 2, 1) := by decide +kernel
theorem dX8_comes_3 : decode cX8_comes 3 = .ok (.invokevirtual 118, 3) := by decide +kernel
theorem dX8_comes_6 : decode cX8_comes 6 = .ok (.ifCond .ne 7, 3) := by decide +kernel
theorem dX8_comes_9 : decode cX8_comes 9 = .ok (.iconst 1, 1) := by decide +kernel
theorem dX8_comes_10 : decode cX8_comes 10 = .ok (.goto 4, 3) := by decide +kernel
theorem dX8_comes_13 : decode cX8_comes 13 = .ok (.iconst 0, 1) := by decide +kernel
theorem dX8_comes_14 : decode cX8_comes 14 = .ok (.iload_n 1, 1) := by decide +kernel
theorem dX8_comes_15 : decode cX8_comes 15 = .ok (.invokestatic 134, 3) := by decide +kernel
theorem dX8_comes_18 : decode cX8_comes 18 = .ok (.ifCond .ne 7, 3) := by decide +kernel
theorem dX8_comes_21 : decode cX8_comes 21 = .ok (.iconst 1, 1) := by decide +kernel
theorem dX8_comes_22 : decode cX8_comes 22 = .ok (.goto 4, 3) := by decide +kernel
theorem dX8_comes_25 : decode cX8_comes 25 = .ok (.iconst 0, 1) := by decide +kernel
theorem dX8_comes_26 : decode cX8_comes 26 = .ok (.invokevirtual 35, 3) := by decide +kernel
theorem dX8_comes_29 : decode cX8_comes 29 = .ok (.ifCond .eq 7, 3) := by decide +kernel
theorem dX8_comes_32 : decode cX8_comes 32 = .ok (.iconst 0, 1) := by decide +kernel
theorem dX8_comes_33 : decode cX8_comes 33 = .ok (.goto 9, 3) := by decide +kernel
theorem dX8_comes_36 : decode cX8_comes 36 = .ok (.aload_n 0, 1) := by decide +kernel
theorem dX8_comes_37 : decode cX8_comes 37 = .ok (.iload_n 1, 1) := by decide +kernel
theorem dX8_comes_38 : decode cX8_comes 38 = .ok (.iload_n 2, 1) := by decide +kernel
theorem dX8_comes_39 : decode cX8_comes 39 = .ok (.invokevirtual 188, 3) := by decide +kernel
theorem dX8_comes_42 : decode cX8_comes 42 = .ok (.ireturn, 1) := by decide +kernel
theorem dX8_piecesNow_0 : decode cX8_piecesNow 0 = .ok (.iconst 0, 1) := by decide +kernel
theorem dX8_piecesNow_1 : decode cX8_piecesNow 1 = .ok (.istore_n 2, 1) := by decide +kernel
theorem dX8_piecesNow_2 : decode cX8_piecesNow 2 = .ok (.iconst 0, 1) := by decide +kernel
theorem dX8_piecesNow_3 : decode cX8_piecesNow 3 = .ok (.istore_n 3, 1) := by decide +kernel
theorem dX8_piecesNow_4 : decode cX8_piecesNow 4 = .ok (.iload_n 3, 1) := by decide +kernel
theorem dX8_piecesNow_5 : decode cX8_piecesNow 5 = .ok (.aload_n 0, 1) := by decide +kernel
theorem dX8_piecesNow_6 : decode cX8_piecesNow 6 = .ok (.getfield 7, 3) := by decide +kernel
theorem dX8_piecesNow_9 : decode cX8_piecesNow 9 = .ok (.if_icmp .ge 32, 3) := by decide +kernel
theorem dX8_piecesNow_12 : decode cX8_piecesNow 12 = .ok (.iload_n 2, 1) := by decide +kernel
theorem dX8_piecesNow_13 : decode cX8_piecesNow 13 = .ok (.aload_n 0, 1) := by decide +kernel
theorem dX8_piecesNow_14 : decode cX8_piecesNow 14 = .ok (.iload_n 1, 1) := by decide +kernel
theorem dX8_piecesNow_15 : decode cX8_piecesNow 15 = .ok (.iload_n 3, 1) := by decide +kernel
theorem dX8_piecesNow_16 : decode cX8_piecesNow 16 = .ok (.invokevirtual 188, 3) := by decide +kernel
theorem dX8_piecesNow_19 : decode cX8_piecesNow 19 = .ok (.iconst 1, 1) := by decide +kernel
theorem dX8_piecesNow_20 : decode cX8_piecesNow 20 = .ok (.iload_n 3, 1) := by decide +kernel
theorem dX8_piecesNow_21 : decode cX8_piecesNow 21 = .ok (.ishl, 1) := by decide +kernel
theorem dX8_piecesNow_22 : decode cX8_piecesNow 22 = .ok (.iconst 1, 1) := by decide +kernel
theorem dX8_piecesNow_23 : decode cX8_piecesNow 23 = .ok (.isub, 1) := by decide +kernel
theorem dX8_piecesNow_24 : decode cX8_piecesNow 24 = .ok (.iand, 1) := by decide +kernel
theorem dX8_piecesNow_25 : decode cX8_piecesNow 25 = .ok (.ifCond .ne 7, 3) := by decide +kernel
theorem dX8_piecesNow_28 : decode cX8_piecesNow 28 = .ok (.iconst 1, 1) := by decide +kernel
theorem dX8_piecesNow_29 : decode cX8_piecesNow 29 = .ok (.goto 4, 3) := by decide +kernel
theorem dX8_piecesNow_32 : decode cX8_piecesNow 32 = .ok (.iconst 0, 1) := by decide +kernel
theorem dX8_piecesNow_33 : decode cX8_piecesNow 33 = .ok (.iadd, 1) := by decide +kernel
theorem dX8_piecesNow_34 : decode cX8_piecesNow 34 = .ok (.istore_n 2, 1) := by decide +kernel
theorem dX8_piecesNow_35 : decode cX8_piecesNow 35 = .ok (.iinc 3 1, 3) := by decide +kernel
theorem dX8_piecesNow_38 : decode cX8_piecesNow 38 = .ok (.goto (-34), 3) := by decide +kernel
theorem dX8_piecesNow_41 : decode cX8_piecesNow 41 = .ok (.iload_n 2, 1) := by decide +kernel
theorem dX8_piecesNow_42 : decode cX8_piecesNow 42 = .ok (.ireturn, 1) := by decide +kernel
theorem dX8_pieces_0 : decode cX8_pieces 0 = .ok (.aload_n 0, 1) := by decide +kernel
theorem dX8_pieces_1 : decode cX8_pieces 1 = .ok (.iload_n 1, 1) := by decide +kernel
theorem dX8_pieces_2 : decode cX8_pieces 2 = .ok (.invokestatic 134, 3) := by decide +kernel
theorem dX8_pieces_5 : decode cX8_pieces 5 = .ok (.ifCond .ne 7, 3) := by decide +kernel
theorem dX8_pieces_8 : decode cX8_pieces 8 = .ok (.iconst 1, 1) := by decide +kernel
theorem dX8_pieces_9 : decode cX8_pieces 9 = .ok (.goto 4, 3) := by decide +kernel
theorem dX8_pieces_12 : decode cX8_pieces 12 = .ok (.iconst 0, 1) := by decide +kernel
theorem dX8_pieces_13 : decode cX8_pieces 13 = .ok (.invokevirtual 105, 3) := by decide +kernel
theorem dX8_pieces_16 : decode cX8_pieces 16 = .ok (.ifCond .eq 7, 3) := by decide +kernel
theorem dX8_pieces_19 : decode cX8_pieces 19 = .ok (.iconst 0, 1) := by decide +kernel
theorem dX8_pieces_20 : decode cX8_pieces 20 = .ok (.goto 8, 3) := by decide +kernel
theorem dX8_pieces_23 : decode cX8_pieces 23 = .ok (.aload_n 0, 1) := by decide +kernel
theorem dX8_pieces_24 : decode cX8_pieces 24 = .ok (.iload_n 1, 1) := by decide +kernel
theorem dX8_pieces_25 : decode cX8_pieces 25 = .ok (.invokevirtual 191, 3) := by decide +kernel
theorem dX8_pieces_28 : decode cX8_pieces 28 = .ok (.ireturn, 1) := by decide +kernel
theorem dX8_withOrder_0 : decode cX8_withOrder 0 = .ok (.aload_n 0, 1) := by decide +kernel
theorem dX8_withOrder_1 : decode cX8_withOrder 1 = .ok (.iload_n 1, 1) := by decide +kernel
theorem dX8_withOrder_2 : decode cX8_withOrder 2 = .ok (.invokestatic 134, 3) := by decide +kernel
theorem dX8_withOrder_5 : decode cX8_withOrder 5 = .ok (.ifCond .eq 14, 3) := by decide +kernel
theorem dX8_withOrder_8 : decode cX8_withOrder 8 = .ok (.iload_n 2, 1) := by decide +kernel
theorem dX8_withOrder_9 : decode cX8_withOrder 9 = .ok (.iconst 1, 1) := by decide +kernel
theorem dX8_withOrder_10 : decode cX8_withOrder 10 = .ok (.if_icmp .lt 9, 3) := by decide +kernel
theorem dX8_withOrder_13 : decode cX8_withOrder 13 = .ok (.iload_n 2, 1) := by decide +kernel
theorem dX8_withOrder_14 : decode cX8_withOrder 14 = .ok (.bipush 12, 2) := by decide +kernel
theorem dX8_withOrder_16 : decode cX8_withOrder 16 = .ok (.if_icmp .le 7, 3) := by decide +kernel
theorem dX8_withOrder_19 : decode cX8_withOrder 19 = .ok (.iconst 1, 1) := by decide +kernel
theorem dX8_withOrder_20 : decode cX8_withOrder 20 = .ok (.goto 4, 3) := by decide +kernel
theorem dX8_withOrder_23 : decode cX8_withOrder 23 = .ok (.iconst 0, 1) := by decide +kernel
theorem dX8_withOrder_24 : decode cX8_withOrder 24 = .ok (.invokevirtual 105, 3) := by decide +kernel
theorem dX8_withOrder_27 : decode cX8_withOrder 27 = .ok (.ifCond .eq 5, 3) := by decide +kernel
theorem dX8_withOrder_30 : decode cX8_withOrder 30 = .ok (.iconst 0, 1) := by decide +kernel
theorem dX8_withOrder_31 : decode cX8_withOrder 31 = .ok (.ireturn, 1) := by decide +kernel
theorem dX8_withOrder_32 : decode cX8_withOrder 32 = .ok (.aload_n 0, 1) := by decide +kernel
theorem dX8_withOrder_33 : decode cX8_withOrder 33 = .ok (.iload_n 1, 1) := by decide +kernel
theorem dX8_withOrder_34 : decode cX8_withOrder 34 = .ok (.invokevirtual 99, 3) := by decide +kernel
theorem dX8_withOrder_37 : decode cX8_withOrder 37 = .ok (.iconst 0, 1) := by decide +kernel
theorem dX8_withOrder_38 : decode cX8_withOrder 38 = .ok (.istore_n 3, 1) := by decide +kernel
theorem dX8_withOrder_39 : decode cX8_withOrder 39 = .ok (.aload_n 0, 1) := by decide +kernel
theorem dX8_withOrder_40 : decode cX8_withOrder 40 = .ok (.iconst 0, 1) := by decide +kernel
theorem dX8_withOrder_41 : decode cX8_withOrder 41 = .ok (.invokevirtual 137, 3) := by decide +kernel
theorem dX8_withOrder_44 : decode cX8_withOrder 44 = .ok (.istore 4, 2) := by decide +kernel
theorem dX8_withOrder_46 : decode cX8_withOrder 46 = .ok (.iload 4, 2) := by decide +kernel
theorem dX8_withOrder_48 : decode cX8_withOrder 48 = .ok (.ifCond .lt 47, 3) := by decide +kernel
theorem dX8_withOrder_51 : decode cX8_withOrder 51 = .ok (.aload_n 0, 1) := by decide +kernel
theorem dX8_withOrder_52 : decode cX8_withOrder 52 = .ok (.iload 4, 2) := by decide +kernel
theorem dX8_withOrder_54 : decode cX8_withOrder 54 = .ok (.aload_n 0, 1) := by decide +kernel
theorem dX8_withOrder_55 : decode cX8_withOrder 55 = .ok (.getfield 17, 3) := by decide +kernel
theorem dX8_withOrder_58 : decode cX8_withOrder 58 = .ok (.invokevirtual 78, 3) := by decide +kernel
theorem dX8_withOrder_61 : decode cX8_withOrder 61 = .ok (.iload_n 3, 1) := by decide +kernel
theorem dX8_withOrder_62 : decode cX8_withOrder 62 = .ok (.aload_n 0, 1) := by decide +kernel
theorem dX8_withOrder_63 : decode cX8_withOrder 63 = .ok (.aload_n 0, 1) := by decide +kernel
theorem dX8_withOrder_64 : decode cX8_withOrder 64 = .ok (.getfield 17, 3) := by decide +kernel
theorem dX8_withOrder_67 : decode cX8_withOrder 67 = .ok (.iconst 0, 1) := by decide +kernel
theorem dX8_withOrder_68 : decode cX8_withOrder 68 = .ok (.invokevirtual 172, 3) := by decide +kernel
theorem dX8_withOrder_71 : decode cX8_withOrder 71 = .ok (.iload_n 2, 1) := by decide +kernel
theorem dX8_withOrder_72 : decode cX8_withOrder 72 = .ok (.if_icmp .ne 7, 3) := by decide +kernel
theorem dX8_withOrder_75 : decode cX8_withOrder 75 = .ok (.iconst 1, 1) := by decide +kernel
theorem dX8_withOrder_76 : decode cX8_withOrder 76 = .ok (.goto 4, 3) := by decide +kernel
theorem dX8_withOrder_79 : decode cX8_withOrder 79 = .ok (.iconst 0, 1) := by decide +kernel
theorem dX8_withOrder_80 : decode cX8_withOrder 80 = .ok (.iadd, 1) := by decide +kernel
theorem dX8_withOrder_81 : decode cX8_withOrder 81 = .ok (.istore_n 3, 1) := by decide +kernel
theorem dX8_withOrder_82 : decode cX8_withOrder 82 = .ok (.aload_n 0, 1) := by decide +kernel
theorem dX8_withOrder_83 : decode cX8_withOrder 83 = .ok (.iload 4, 2) := by decide +kernel
theorem dX8_withOrder_85 : decode cX8_withOrder 85 = .ok (.iconst 1, 1) := by decide +kernel
theorem dX8_withOrder_86 : decode cX8_withOrder 86 = .ok (.iadd, 1) := by decide +kernel
theorem dX8_withOrder_87 : decode cX8_withOrder 87 = .ok (.invokevirtual 137, 3) := by decide +kernel
theorem dX8_withOrder_90 : decode cX8_withOrder 90 = .ok (.istore 4, 2) := by decide +kernel
theorem dX8_withOrder_92 : decode cX8_withOrder 92 = .ok (.goto (-46), 3) := by decide +kernel
theorem dX8_withOrder_95 : decode cX8_withOrder 95 = .ok (.iload_n 3, 1) := by decide +kernel
theorem dX8_withOrder_96 : decode cX8_withOrder 96 = .ok (.ireturn, 1) := by decide +kernel
theorem dX8_evenNow_0 : decode cX8_evenNow 0 = .ok (.aload_n 0, 1) := by decide +kernel
theorem dX8_evenNow_1 : decode cX8_evenNow 1 = .ok (.iload_n 1, 1) := by decide +kernel
theorem dX8_evenNow_2 : decode cX8_evenNow 2 = .ok (.invokevirtual 99, 3) := by decide +kernel
theorem dX8_evenNow_5 : decode cX8_evenNow 5 = .ok (.iconst 0, 1) := by decide +kernel
theorem dX8_evenNow_6 : decode cX8_evenNow 6 = .ok (.istore_n 2, 1) := by decide +kernel
theorem dX8_evenNow_7 : decode cX8_evenNow 7 = .ok (.aload_n 0, 1) := by decide +kernel
theorem dX8_evenNow_8 : decode cX8_evenNow 8 = .ok (.iconst 0, 1) := by decide +kernel
theorem dX8_evenNow_9 : decode cX8_evenNow 9 = .ok (.invokevirtual 137, 3) := by decide +kernel
theorem dX8_evenNow_12 : decode cX8_evenNow 12 = .ok (.istore_n 3, 1) := by decide +kernel
theorem dX8_evenNow_13 : decode cX8_evenNow 13 = .ok (.iload_n 3, 1) := by decide +kernel
theorem dX8_evenNow_14 : decode cX8_evenNow 14 = .ok (.ifCond .lt 44, 3) := by decide +kernel
theorem dX8_evenNow_17 : decode cX8_evenNow 17 = .ok (.aload_n 0, 1) := by decide +kernel
theorem dX8_evenNow_18 : decode cX8_evenNow 18 = .ok (.iload_n 3, 1) := by decide +kernel
theorem dX8_evenNow_19 : decode cX8_evenNow 19 = .ok (.aload_n 0, 1) := by decide +kernel
theorem dX8_evenNow_20 : decode cX8_evenNow 20 = .ok (.getfield 17, 3) := by decide +kernel
theorem dX8_evenNow_23 : decode cX8_evenNow 23 = .ok (.invokevirtual 78, 3) := by decide +kernel
theorem dX8_evenNow_26 : decode cX8_evenNow 26 = .ok (.iload_n 2, 1) := by decide +kernel
theorem dX8_evenNow_27 : decode cX8_evenNow 27 = .ok (.aload_n 0, 1) := by decide +kernel
theorem dX8_evenNow_28 : decode cX8_evenNow 28 = .ok (.aload_n 0, 1) := by decide +kernel
theorem dX8_evenNow_29 : decode cX8_evenNow 29 = .ok (.getfield 17, 3) := by decide +kernel
theorem dX8_evenNow_32 : decode cX8_evenNow 32 = .ok (.iconst 0, 1) := by decide +kernel
theorem dX8_evenNow_33 : decode cX8_evenNow 33 = .ok (.invokevirtual 115, 3) := by decide +kernel
theorem dX8_evenNow_36 : decode cX8_evenNow 36 = .ok (.iconst 1, 1) := by decide +kernel
theorem dX8_evenNow_37 : decode cX8_evenNow 37 = .ok (.if_icmp .ne 7, 3) := by decide +kernel
theorem dX8_evenNow_40 : decode cX8_evenNow 40 = .ok (.iconst 1, 1) := by decide +kernel
theorem dX8_evenNow_41 : decode cX8_evenNow 41 = .ok (.goto 4, 3) := by decide +kernel
theorem dX8_evenNow_44 : decode cX8_evenNow 44 = .ok (.iconst 0, 1) := by decide +kernel
theorem dX8_evenNow_45 : decode cX8_evenNow 45 = .ok (.iadd, 1) := by decide +kernel
theorem dX8_evenNow_46 : decode cX8_evenNow 46 = .ok (.istore_n 2, 1) := by decide +kernel
theorem dX8_evenNow_47 : decode cX8_evenNow 47 = .ok (.aload_n 0, 1) := by decide +kernel
theorem dX8_evenNow_48 : decode cX8_evenNow 48 = .ok (.iload_n 3, 1) := by decide +kernel
theorem dX8_evenNow_49 : decode cX8_evenNow 49 = .ok (.iconst 1, 1) := by decide +kernel
theorem dX8_evenNow_50 : decode cX8_evenNow 50 = .ok (.iadd, 1) := by decide +kernel
theorem dX8_evenNow_51 : decode cX8_evenNow 51 = .ok (.invokevirtual 137, 3) := by decide +kernel
theorem dX8_evenNow_54 : decode cX8_evenNow 54 = .ok (.istore_n 3, 1) := by decide +kernel
theorem dX8_evenNow_55 : decode cX8_evenNow 55 = .ok (.goto (-42), 3) := by decide +kernel
theorem dX8_evenNow_58 : decode cX8_evenNow 58 = .ok (.iload_n 2, 1) := by decide +kernel
theorem dX8_evenNow_59 : decode cX8_evenNow 59 = .ok (.ireturn, 1) := by decide +kernel
theorem dX8_even_0 : decode cX8_even 0 = .ok (.aload_n 0, 1) := by decide +kernel
theorem dX8_even_1 : decode cX8_even 1 = .ok (.iload_n 1, 1) := by decide +kernel
theorem dX8_even_2 : decode cX8_even 2 = .ok (.invokestatic 134, 3) := by decide +kernel
theorem dX8_even_5 : decode cX8_even 5 = .ok (.ifCond .ne 7, 3) := by decide +kernel
theorem dX8_even_8 : decode cX8_even 8 = .ok (.iconst 1, 1) := by decide +kernel
theorem dX8_even_9 : decode cX8_even 9 = .ok (.goto 4, 3) := by decide +kernel
theorem dX8_even_12 : decode cX8_even 12 = .ok (.iconst 0, 1) := by decide +kernel
theorem dX8_even_13 : decode cX8_even 13 = .ok (.invokevirtual 105, 3) := by decide +kernel
theorem dX8_even_16 : decode cX8_even 16 = .ok (.ifCond .eq 7, 3) := by decide +kernel
theorem dX8_even_19 : decode cX8_even 19 = .ok (.iconst 0, 1) := by decide +kernel
theorem dX8_even_20 : decode cX8_even 20 = .ok (.goto 8, 3) := by decide +kernel
theorem dX8_even_23 : decode cX8_even 23 = .ok (.aload_n 0, 1) := by decide +kernel
theorem dX8_even_24 : decode cX8_even 24 = .ok (.iload_n 1, 1) := by decide +kernel
theorem dX8_even_25 : decode cX8_even 25 = .ok (.invokevirtual 194, 3) := by decide +kernel
theorem dX8_even_28 : decode cX8_even 28 = .ok (.ireturn, 1) := by decide +kernel
theorem dX8_colourings_0 : decode cX8_colourings 0 = .ok (.aload_n 0, 1) := by decide +kernel
theorem dX8_colourings_1 : decode cX8_colourings 1 = .ok (.iload_n 1, 1) := by decide +kernel
theorem dX8_colourings_2 : decode cX8_colourings 2 = .ok (.invokestatic 134, 3) := by decide +kernel
theorem dX8_colourings_5 : decode cX8_colourings 5 = .ok (.ifCond .eq 22, 3) := by decide +kernel
theorem dX8_colourings_8 : decode cX8_colourings 8 = .ok (.iload_n 2, 1) := by decide +kernel
theorem dX8_colourings_9 : decode cX8_colourings 9 = .ok (.iconst 1, 1) := by decide +kernel
theorem dX8_colourings_10 : decode cX8_colourings 10 = .ok (.if_icmp .lt 17, 3) := by decide +kernel
theorem dX8_colourings_13 : decode cX8_colourings 13 = .ok (.iload_n 2, 1) := by decide +kernel
theorem dX8_colourings_14 : decode cX8_colourings 14 = .ok (.iconst 3, 1) := by decide +kernel
theorem dX8_colourings_15 : decode cX8_colourings 15 = .ok (.if_icmp .gt 12, 3) := by decide +kernel
theorem dX8_colourings_18 : decode cX8_colourings 18 = .ok (.iload_n 3, 1) := by decide +kernel
theorem dX8_colourings_19 : decode cX8_colourings 19 = .ok (.ifCond .lt 8, 3) := by decide +kernel
theorem dX8_colourings_22 : decode cX8_colourings 22 = .ok (.iload_n 3, 1) := by decide +kernel
theorem dX8_colourings_23 : decode cX8_colourings 23 = .ok (.iconst 1, 1) := by decide +kernel
theorem dX8_colourings_24 : decode cX8_colourings 24 = .ok (.if_icmp .le 7, 3) := by decide +kernel
theorem dX8_colourings_27 : decode cX8_colourings 27 = .ok (.iconst 1, 1) := by decide +kernel
theorem dX8_colourings_28 : decode cX8_colourings 28 = .ok (.goto 4, 3) := by decide +kernel
theorem dX8_colourings_31 : decode cX8_colourings 31 = .ok (.iconst 0, 1) := by decide +kernel
theorem dX8_colourings_32 : decode cX8_colourings 32 = .ok (.invokevirtual 105, 3) := by decide +kernel
theorem dX8_colourings_35 : decode cX8_colourings 35 = .ok (.ifCond .eq 5, 3) := by decide +kernel
theorem dX8_colourings_38 : decode cX8_colourings 38 = .ok (.iconst 0, 1) := by decide +kernel
theorem dX8_colourings_39 : decode cX8_colourings 39 = .ok (.ireturn, 1) := by decide +kernel
theorem dX8_colourings_40 : decode cX8_colourings 40 = .ok (.iload_n 3, 1) := by decide +kernel
theorem dX8_colourings_41 : decode cX8_colourings 41 = .ok (.ifCond .ne 12, 3) := by decide +kernel
theorem dX8_colourings_44 : decode cX8_colourings 44 = .ok (.aload_n 0, 1) := by decide +kernel
theorem dX8_colourings_45 : decode cX8_colourings 45 = .ok (.iload_n 1, 1) := by decide +kernel
theorem dX8_colourings_46 : decode cX8_colourings 46 = .ok (.iload_n 2, 1) := by decide +kernel
theorem dX8_colourings_47 : decode cX8_colourings 47 = .ok (.invokevirtual 197, 3) := by decide +kernel
theorem dX8_colourings_50 : decode cX8_colourings 50 = .ok (.goto 9, 3) := by decide +kernel
theorem dX8_colourings_53 : decode cX8_colourings 53 = .ok (.aload_n 0, 1) := by decide +kernel
theorem dX8_colourings_54 : decode cX8_colourings 54 = .ok (.iload_n 1, 1) := by decide +kernel
theorem dX8_colourings_55 : decode cX8_colourings 55 = .ok (.iload_n 2, 1) := by decide +kernel
theorem dX8_colourings_56 : decode cX8_colourings 56 = .ok (.invokevirtual 200, 3) := by decide +kernel
theorem dX8_colourings_59 : decode cX8_colourings 59 = .ok (.ireturn, 1) := by decide +kernel
theorem dX8_byThoseThatStay_0 : decode cX8_byThoseThatStay 0 = .ok (.aload_n 0, 1) := by decide +kernel
theorem dX8_byThoseThatStay_1 : decode cX8_byThoseThatStay 1 = .ok (.iload_n 1, 1) := by decide +kernel
theorem dX8_byThoseThatStay_2 : decode cX8_byThoseThatStay 2 = .ok (.invokevirtual 99, 3) := by decide +kernel
theorem dX8_byThoseThatStay_5 : decode cX8_byThoseThatStay 5 = .ok (.iconst 0, 1) := by decide +kernel
theorem dX8_byThoseThatStay_6 : decode cX8_byThoseThatStay 6 = .ok (.istore_n 3, 1) := by decide +kernel
theorem dX8_byThoseThatStay_7 : decode cX8_byThoseThatStay 7 = .ok (.aload_n 0, 1) := by decide +kernel
theorem dX8_byThoseThatStay_8 : decode cX8_byThoseThatStay 8 = .ok (.iconst 0, 1) := by decide +kernel
theorem dX8_byThoseThatStay_9 : decode cX8_byThoseThatStay 9 = .ok (.invokevirtual 137, 3) := by decide +kernel
theorem dX8_byThoseThatStay_12 : decode cX8_byThoseThatStay 12 = .ok (.istore 4, 2) := by decide +kernel
theorem dX8_byThoseThatStay_14 : decode cX8_byThoseThatStay 14 = .ok (.iload 4, 2) := by decide +kernel
theorem dX8_byThoseThatStay_16 : decode cX8_byThoseThatStay 16 = .ok (.ifCond .lt 62, 3) := by decide +kernel
theorem dX8_byThoseThatStay_19 : decode cX8_byThoseThatStay 19 = .ok (.aload_n 0, 1) := by decide +kernel
theorem dX8_byThoseThatStay_20 : decode cX8_byThoseThatStay 20 = .ok (.iload 4, 2) := by decide +kernel
theorem dX8_byThoseThatStay_22 : decode cX8_byThoseThatStay 22 = .ok (.aload_n 0, 1) := by decide +kernel
theorem dX8_byThoseThatStay_23 : decode cX8_byThoseThatStay 23 = .ok (.getfield 17, 3) := by decide +kernel
theorem dX8_byThoseThatStay_26 : decode cX8_byThoseThatStay 26 = .ok (.invokevirtual 78, 3) := by decide +kernel
theorem dX8_byThoseThatStay_29 : decode cX8_byThoseThatStay 29 = .ok (.iconst 1, 1) := by decide +kernel
theorem dX8_byThoseThatStay_30 : decode cX8_byThoseThatStay 30 = .ok (.istore 5, 2) := by decide +kernel
theorem dX8_byThoseThatStay_32 : decode cX8_byThoseThatStay 32 = .ok (.aload_n 0, 1) := by decide +kernel
theorem dX8_byThoseThatStay_33 : decode cX8_byThoseThatStay 33 = .ok (.aload_n 0, 1) := by decide +kernel
theorem dX8_byThoseThatStay_34 : decode cX8_byThoseThatStay 34 = .ok (.getfield 17, 3) := by decide +kernel
theorem dX8_byThoseThatStay_37 : decode cX8_byThoseThatStay 37 = .ok (.iconst 0, 1) := by decide +kernel
theorem dX8_byThoseThatStay_38 : decode cX8_byThoseThatStay 38 = .ok (.invokevirtual 203, 3) := by decide +kernel
theorem dX8_byThoseThatStay_41 : decode cX8_byThoseThatStay 41 = .ok (.istore 6, 2) := by decide +kernel
theorem dX8_byThoseThatStay_43 : decode cX8_byThoseThatStay 43 = .ok (.iload 6, 2) := by decide +kernel
theorem dX8_byThoseThatStay_45 : decode cX8_byThoseThatStay 45 = .ok (.ifCond .le 15, 3) := by decide +kernel
theorem dX8_byThoseThatStay_48 : decode cX8_byThoseThatStay 48 = .ok (.iload 5, 2) := by decide +kernel
theorem dX8_byThoseThatStay_50 : decode cX8_byThoseThatStay 50 = .ok (.iload_n 2, 1) := by decide +kernel
theorem dX8_byThoseThatStay_51 : decode cX8_byThoseThatStay 51 = .ok (.imul, 1) := by decide +kernel
theorem dX8_byThoseThatStay_52 : decode cX8_byThoseThatStay 52 = .ok (.istore 5, 2) := by decide +kernel
theorem dX8_byThoseThatStay_54 : decode cX8_byThoseThatStay 54 = .ok (.iinc 6 (-1), 3) := by decide +kernel
theorem dX8_byThoseThatStay_57 : decode cX8_byThoseThatStay 57 = .ok (.goto (-14), 3) := by decide +kernel
theorem dX8_byThoseThatStay_60 : decode cX8_byThoseThatStay 60 = .ok (.iload_n 3, 1) := by decide +kernel
theorem dX8_byThoseThatStay_61 : decode cX8_byThoseThatStay 61 = .ok (.iload 5, 2) := by decide +kernel
theorem dX8_byThoseThatStay_63 : decode cX8_byThoseThatStay 63 = .ok (.iadd, 1) := by decide +kernel
theorem dX8_byThoseThatStay_64 : decode cX8_byThoseThatStay 64 = .ok (.istore_n 3, 1) := by decide +kernel
theorem dX8_byThoseThatStay_65 : decode cX8_byThoseThatStay 65 = .ok (.aload_n 0, 1) := by decide +kernel
theorem dX8_byThoseThatStay_66 : decode cX8_byThoseThatStay 66 = .ok (.iload 4, 2) := by decide +kernel
theorem dX8_byThoseThatStay_68 : decode cX8_byThoseThatStay 68 = .ok (.iconst 1, 1) := by decide +kernel
theorem dX8_byThoseThatStay_69 : decode cX8_byThoseThatStay 69 = .ok (.iadd, 1) := by decide +kernel
theorem dX8_byThoseThatStay_70 : decode cX8_byThoseThatStay 70 = .ok (.invokevirtual 137, 3) := by decide +kernel
theorem dX8_byThoseThatStay_73 : decode cX8_byThoseThatStay 73 = .ok (.istore 4, 2) := by decide +kernel
theorem dX8_byThoseThatStay_75 : decode cX8_byThoseThatStay 75 = .ok (.goto (-61), 3) := by decide +kernel
theorem dX8_byThoseThatStay_78 : decode cX8_byThoseThatStay 78 = .ok (.iload_n 3, 1) := by decide +kernel
theorem dX8_byThoseThatStay_79 : decode cX8_byThoseThatStay 79 = .ok (.aload_n 0, 1) := by decide +kernel
theorem dX8_byThoseThatStay_80 : decode cX8_byThoseThatStay 80 = .ok (.invokevirtual 102, 3) := by decide +kernel
theorem dX8_byThoseThatStay_83 : decode cX8_byThoseThatStay 83 = .ok (.idiv, 1) := by decide +kernel
theorem dX8_byThoseThatStay_84 : decode cX8_byThoseThatStay 84 = .ok (.ireturn, 1) := by decide +kernel
theorem dX8_oneByOne_0 : decode cX8_oneByOne 0 = .ok (.iconst 1, 1) := by decide +kernel
theorem dX8_oneByOne_1 : decode cX8_oneByOne 1 = .ok (.istore_n 3, 1) := by decide +kernel
theorem dX8_oneByOne_2 : decode cX8_oneByOne 2 = .ok (.iconst 0, 1) := by decide +kernel
theorem dX8_oneByOne_3 : decode cX8_oneByOne 3 = .ok (.istore 4, 2) := by decide +kernel
theorem dX8_oneByOne_5 : decode cX8_oneByOne 5 = .ok (.iload 4, 2) := by decide +kernel
theorem dX8_oneByOne_7 : decode cX8_oneByOne 7 = .ok (.aload_n 0, 1) := by decide +kernel
theorem dX8_oneByOne_8 : decode cX8_oneByOne 8 = .ok (.getfield 7, 3) := by decide +kernel
theorem dX8_oneByOne_11 : decode cX8_oneByOne 11 = .ok (.if_icmp .ge 13, 3) := by decide +kernel
theorem dX8_oneByOne_14 : decode cX8_oneByOne 14 = .ok (.iload_n 3, 1) := by decide +kernel
theorem dX8_oneByOne_15 : decode cX8_oneByOne 15 = .ok (.iload_n 2, 1) := by decide +kernel
theorem dX8_oneByOne_16 : decode cX8_oneByOne 16 = .ok (.imul, 1) := by decide +kernel
theorem dX8_oneByOne_17 : decode cX8_oneByOne 17 = .ok (.istore_n 3, 1) := by decide +kernel
theorem dX8_oneByOne_18 : decode cX8_oneByOne 18 = .ok (.iinc 4 1, 3) := by decide +kernel
theorem dX8_oneByOne_21 : decode cX8_oneByOne 21 = .ok (.goto (-16), 3) := by decide +kernel
theorem dX8_oneByOne_24 : decode cX8_oneByOne 24 = .ok (.iload_n 3, 1) := by decide +kernel
theorem dX8_oneByOne_25 : decode cX8_oneByOne 25 = .ok (.newarray .int, 2) := by decide +kernel
theorem dX8_oneByOne_27 : decode cX8_oneByOne 27 = .ok (.astore 4, 2) := by decide +kernel
theorem dX8_oneByOne_29 : decode cX8_oneByOne 29 = .ok (.iconst 0, 1) := by decide +kernel
theorem dX8_oneByOne_30 : decode cX8_oneByOne 30 = .ok (.istore 5, 2) := by decide +kernel
theorem dX8_oneByOne_32 : decode cX8_oneByOne 32 = .ok (.iload_n 3, 1) := by decide +kernel
theorem dX8_oneByOne_33 : decode cX8_oneByOne 33 = .ok (.newarray .int, 2) := by decide +kernel
theorem dX8_oneByOne_35 : decode cX8_oneByOne 35 = .ok (.astore 6, 2) := by decide +kernel
theorem dX8_oneByOne_37 : decode cX8_oneByOne 37 = .ok (.iconst 0, 1) := by decide +kernel
theorem dX8_oneByOne_38 : decode cX8_oneByOne 38 = .ok (.istore 7, 2) := by decide +kernel
theorem dX8_oneByOne_40 : decode cX8_oneByOne 40 = .ok (.iload 7, 2) := by decide +kernel
theorem dX8_oneByOne_42 : decode cX8_oneByOne 42 = .ok (.iload_n 3, 1) := by decide +kernel
theorem dX8_oneByOne_43 : decode cX8_oneByOne 43 = .ok (.if_icmp .ge 124, 3) := by decide +kernel
theorem dX8_oneByOne_46 : decode cX8_oneByOne 46 = .ok (.aload 4, 2) := by decide +kernel
theorem dX8_oneByOne_48 : decode cX8_oneByOne 48 = .ok (.iload 7, 2) := by decide +kernel
theorem dX8_oneByOne_50 : decode cX8_oneByOne 50 = .ok (.iaload, 1) := by decide +kernel
theorem dX8_oneByOne_51 : decode cX8_oneByOne 51 = .ok (.iconst 1, 1) := by decide +kernel
theorem dX8_oneByOne_52 : decode cX8_oneByOne 52 = .ok (.if_icmp .ne 6, 3) := by decide +kernel
theorem dX8_oneByOne_55 : decode cX8_oneByOne 55 = .ok (.goto 106, 3) := by decide +kernel
theorem dX8_oneByOne_58 : decode cX8_oneByOne 58 = .ok (.iinc 5 1, 3) := by decide +kernel
theorem dX8_oneByOne_61 : decode cX8_oneByOne 61 = .ok (.aload 4, 2) := by decide +kernel
theorem dX8_oneByOne_63 : decode cX8_oneByOne 63 = .ok (.iload 7, 2) := by decide +kernel
theorem dX8_oneByOne_65 : decode cX8_oneByOne 65 = .ok (.iconst 1, 1) := by decide +kernel
theorem dX8_oneByOne_66 : decode cX8_oneByOne 66 = .ok (.iastore, 1) := by decide +kernel
theorem dX8_oneByOne_67 : decode cX8_oneByOne 67 = .ok (.aload 6, 2) := by decide +kernel
theorem dX8_oneByOne_69 : decode cX8_oneByOne 69 = .ok (.iconst 0, 1) := by decide +kernel
theorem dX8_oneByOne_70 : decode cX8_oneByOne 70 = .ok (.iload 7, 2) := by decide +kernel
theorem dX8_oneByOne_72 : decode cX8_oneByOne 72 = .ok (.iastore, 1) := by decide +kernel
theorem dX8_oneByOne_73 : decode cX8_oneByOne 73 = .ok (.iconst 1, 1) := by decide +kernel
theorem dX8_oneByOne_74 : decode cX8_oneByOne 74 = .ok (.istore 8, 2) := by decide +kernel
theorem dX8_oneByOne_76 : decode cX8_oneByOne 76 = .ok (.iload 8, 2) := by decide +kernel
theorem dX8_oneByOne_78 : decode cX8_oneByOne 78 = .ok (.ifCond .le 83, 3) := by decide +kernel
theorem dX8_oneByOne_81 : decode cX8_oneByOne 81 = .ok (.iinc 8 (-1), 3) := by decide +kernel
theorem dX8_oneByOne_84 : decode cX8_oneByOne 84 = .ok (.aload 6, 2) := by decide +kernel
theorem dX8_oneByOne_86 : decode cX8_oneByOne 86 = .ok (.iload 8, 2) := by decide +kernel
theorem dX8_oneByOne_88 : decode cX8_oneByOne 88 = .ok (.iaload, 1) := by decide +kernel
theorem dX8_oneByOne_89 : decode cX8_oneByOne 89 = .ok (.istore 9, 2) := by decide +kernel
theorem dX8_oneByOne_91 : decode cX8_oneByOne 91 = .ok (.iconst 0, 1) := by decide +kernel
theorem dX8_oneByOne_92 : decode cX8_oneByOne 92 = .ok (.istore 10, 2) := by decide +kernel
theorem dX8_oneByOne_94 : decode cX8_oneByOne 94 = .ok (.iload 10, 2) := by decide +kernel
theorem dX8_oneByOne_96 : decode cX8_oneByOne 96 = .ok (.bipush 6, 2) := by decide +kernel
theorem dX8_oneByOne_98 : decode cX8_oneByOne 98 = .ok (.if_icmp .ge 60, 3) := by decide +kernel
theorem dX8_oneByOne_101 : decode cX8_oneByOne 101 = .ok (.iload_n 1, 1) := by decide +kernel
theorem dX8_oneByOne_102 : decode cX8_oneByOne 102 = .ok (.iload 10, 2) := by decide +kernel
theorem dX8_oneByOne_104 : decode cX8_oneByOne 104 = .ok (.ishr, 1) := by decide +kernel
theorem dX8_oneByOne_105 : decode cX8_oneByOne 105 = .ok (.iconst 1, 1) := by decide +kernel
theorem dX8_oneByOne_106 : decode cX8_oneByOne 106 = .ok (.iand, 1) := by decide +kernel
theorem dX8_oneByOne_107 : decode cX8_oneByOne 107 = .ok (.ifCond .ne 6, 3) := by decide +kernel
theorem dX8_oneByOne_110 : decode cX8_oneByOne 110 = .ok (.goto 42, 3) := by decide +kernel
theorem dX8_oneByOne_113 : decode cX8_oneByOne 113 = .ok (.aload_n 0, 1) := by decide +kernel
theorem dX8_oneByOne_114 : decode cX8_oneByOne 114 = .ok (.iload 9, 2) := by decide +kernel
theorem dX8_oneByOne_116 : decode cX8_oneByOne 116 = .ok (.iload 10, 2) := by decide +kernel
theorem dX8_oneByOne_118 : decode cX8_oneByOne 118 = .ok (.iload_n 2, 1) := by decide +kernel
theorem dX8_oneByOne_119 : decode cX8_oneByOne 119 = .ok (.invokevirtual 206, 3) := by decide +kernel
theorem dX8_oneByOne_122 : decode cX8_oneByOne 122 = .ok (.istore 11, 2) := by decide +kernel
theorem dX8_oneByOne_124 : decode cX8_oneByOne 124 = .ok (.aload 4, 2) := by decide +kernel
theorem dX8_oneByOne_126 : decode cX8_oneByOne 126 = .ok (.iload 11, 2) := by decide +kernel
theorem dX8_oneByOne_128 : decode cX8_oneByOne 128 = .ok (.iaload, 1) := by decide +kernel
theorem dX8_oneByOne_129 : decode cX8_oneByOne 129 = .ok (.iconst 1, 1) := by decide +kernel
theorem dX8_oneByOne_130 : decode cX8_oneByOne 130 = .ok (.if_icmp .ne 6, 3) := by decide +kernel
theorem dX8_oneByOne_133 : decode cX8_oneByOne 133 = .ok (.goto 19, 3) := by decide +kernel
theorem dX8_oneByOne_136 : decode cX8_oneByOne 136 = .ok (.aload 4, 2) := by decide +kernel
theorem dX8_oneByOne_138 : decode cX8_oneByOne 138 = .ok (.iload 11, 2) := by decide +kernel
theorem dX8_oneByOne_140 : decode cX8_oneByOne 140 = .ok (.iconst 1, 1) := by decide +kernel
theorem dX8_oneByOne_141 : decode cX8_oneByOne 141 = .ok (.iastore, 1) := by decide +kernel
theorem dX8_oneByOne_142 : decode cX8_oneByOne 142 = .ok (.aload 6, 2) := by decide +kernel
theorem dX8_oneByOne_144 : decode cX8_oneByOne 144 = .ok (.iload 8, 2) := by decide +kernel
theorem dX8_oneByOne_146 : decode cX8_oneByOne 146 = .ok (.iload 11, 2) := by decide +kernel
theorem dX8_oneByOne_148 : decode cX8_oneByOne 148 = .ok (.iastore, 1) := by decide +kernel
theorem dX8_oneByOne_149 : decode cX8_oneByOne 149 = .ok (.iinc 8 1, 3) := by decide +kernel
theorem dX8_oneByOne_152 : decode cX8_oneByOne 152 = .ok (.iinc 10 1, 3) := by decide +kernel
theorem dX8_oneByOne_155 : decode cX8_oneByOne 155 = .ok (.goto (-61), 3) := by decide +kernel
theorem dX8_oneByOne_158 : decode cX8_oneByOne 158 = .ok (.goto (-82), 3) := by decide +kernel
theorem dX8_oneByOne_161 : decode cX8_oneByOne 161 = .ok (.iinc 7 1, 3) := by decide +kernel
theorem dX8_oneByOne_164 : decode cX8_oneByOne 164 = .ok (.goto (-124), 3) := by decide +kernel
theorem dX8_oneByOne_167 : decode cX8_oneByOne 167 = .ok (.iload 5, 2) := by decide +kernel
theorem dX8_oneByOne_169 : decode cX8_oneByOne 169 = .ok (.ireturn, 1) := by decide +kernel
theorem dX8_coloured_0 : decode cX8_coloured 0 = .ok (.iload_n 1, 1) := by decide +kernel
theorem dX8_coloured_1 : decode cX8_coloured 1 = .ok (.istore 4, 2) := by decide +kernel
theorem dX8_coloured_3 : decode cX8_coloured 3 = .ok (.iconst 0, 1) := by decide +kernel
theorem dX8_coloured_4 : decode cX8_coloured 4 = .ok (.istore 5, 2) := by decide +kernel
theorem dX8_coloured_6 : decode cX8_coloured 6 = .ok (.iload 5, 2) := by decide +kernel
theorem dX8_coloured_8 : decode cX8_coloured 8 = .ok (.aload_n 0, 1) := by decide +kernel
theorem dX8_coloured_9 : decode cX8_coloured 9 = .ok (.getfield 7, 3) := by decide +kernel
theorem dX8_coloured_12 : decode cX8_coloured 12 = .ok (.if_icmp .ge 31, 3) := by decide +kernel
theorem dX8_coloured_15 : decode cX8_coloured 15 = .ok (.aload_n 0, 1) := by decide +kernel
theorem dX8_coloured_16 : decode cX8_coloured 16 = .ok (.getfield 20, 3) := by decide +kernel
theorem dX8_coloured_19 : decode cX8_coloured 19 = .ok (.aload_n 0, 1) := by decide +kernel
theorem dX8_coloured_20 : decode cX8_coloured 20 = .ok (.iload_n 2, 1) := by decide +kernel
theorem dX8_coloured_21 : decode cX8_coloured 21 = .ok (.iload 5, 2) := by decide +kernel
theorem dX8_coloured_23 : decode cX8_coloured 23 = .ok (.invokevirtual 82, 3) := by decide +kernel
theorem dX8_coloured_26 : decode cX8_coloured 26 = .ok (.iload 4, 2) := by decide +kernel
theorem dX8_coloured_28 : decode cX8_coloured 28 = .ok (.iload_n 3, 1) := by decide +kernel
theorem dX8_coloured_29 : decode cX8_coloured 29 = .ok (.irem, 1) := by decide +kernel
theorem dX8_coloured_30 : decode cX8_coloured 30 = .ok (.iastore, 1) := by decide +kernel
theorem dX8_coloured_31 : decode cX8_coloured 31 = .ok (.iload 4, 2) := by decide +kernel
theorem dX8_coloured_33 : decode cX8_coloured 33 = .ok (.iload_n 3, 1) := by decide +kernel
theorem dX8_coloured_34 : decode cX8_coloured 34 = .ok (.idiv, 1) := by decide +kernel
theorem dX8_coloured_35 : decode cX8_coloured 35 = .ok (.istore 4, 2) := by decide +kernel
theorem dX8_coloured_37 : decode cX8_coloured 37 = .ok (.iinc 5 1, 3) := by decide +kernel
theorem dX8_coloured_40 : decode cX8_coloured 40 = .ok (.goto (-34), 3) := by decide +kernel
theorem dX8_coloured_43 : decode cX8_coloured 43 = .ok (.iconst 0, 1) := by decide +kernel
theorem dX8_coloured_44 : decode cX8_coloured 44 = .ok (.istore 5, 2) := by decide +kernel
theorem dX8_coloured_46 : decode cX8_coloured 46 = .ok (.aload_n 0, 1) := by decide +kernel
theorem dX8_coloured_47 : decode cX8_coloured 47 = .ok (.getfield 7, 3) := by decide +kernel
theorem dX8_coloured_50 : decode cX8_coloured 50 = .ok (.iconst 1, 1) := by decide +kernel
theorem dX8_coloured_51 : decode cX8_coloured 51 = .ok (.isub, 1) := by decide +kernel
theorem dX8_coloured_52 : decode cX8_coloured 52 = .ok (.istore 6, 2) := by decide +kernel
theorem dX8_coloured_54 : decode cX8_coloured 54 = .ok (.iload 6, 2) := by decide +kernel
theorem dX8_coloured_56 : decode cX8_coloured 56 = .ok (.ifCond .lt 23, 3) := by decide +kernel
theorem dX8_coloured_59 : decode cX8_coloured 59 = .ok (.iload 5, 2) := by decide +kernel
theorem dX8_coloured_61 : decode cX8_coloured 61 = .ok (.iload_n 3, 1) := by decide +kernel
theorem dX8_coloured_62 : decode cX8_coloured 62 = .ok (.imul, 1) := by decide +kernel
theorem dX8_coloured_63 : decode cX8_coloured 63 = .ok (.aload_n 0, 1) := by decide +kernel
theorem dX8_coloured_64 : decode cX8_coloured 64 = .ok (.getfield 20, 3) := by decide +kernel
theorem dX8_coloured_67 : decode cX8_coloured 67 = .ok (.iload 6, 2) := by decide +kernel
theorem dX8_coloured_69 : decode cX8_coloured 69 = .ok (.iaload, 1) := by decide +kernel
theorem dX8_coloured_70 : decode cX8_coloured 70 = .ok (.iadd, 1) := by decide +kernel
theorem dX8_coloured_71 : decode cX8_coloured 71 = .ok (.istore 5, 2) := by decide +kernel
theorem dX8_coloured_73 : decode cX8_coloured 73 = .ok (.iinc 6 (-1), 3) := by decide +kernel
theorem dX8_coloured_76 : decode cX8_coloured 76 = .ok (.goto (-22), 3) := by decide +kernel
theorem dX8_coloured_79 : decode cX8_coloured 79 = .ok (.iload 5, 2) := by decide +kernel
theorem dX8_coloured_81 : decode cX8_coloured 81 = .ok (.ireturn, 1) := by decide +kernel
theorem dX8_isPartNow_0 : decode cX8_isPartNow 0 = .ok (.iconst 1, 1) := by decide +kernel
theorem dX8_isPartNow_1 : decode cX8_isPartNow 1 = .ok (.istore_n 3, 1) := by decide +kernel
theorem dX8_isPartNow_2 : decode cX8_isPartNow 2 = .ok (.iconst 0, 1) := by decide +kernel
theorem dX8_isPartNow_3 : decode cX8_isPartNow 3 = .ok (.istore 4, 2) := by decide +kernel
theorem dX8_isPartNow_5 : decode cX8_isPartNow 5 = .ok (.iload 4, 2) := by decide +kernel
theorem dX8_isPartNow_7 : decode cX8_isPartNow 7 = .ok (.bipush 6, 2) := by decide +kernel
theorem dX8_isPartNow_9 : decode cX8_isPartNow 9 = .ok (.if_icmp .ge 39, 3) := by decide +kernel
theorem dX8_isPartNow_12 : decode cX8_isPartNow 12 = .ok (.iload_n 1, 1) := by decide +kernel
theorem dX8_isPartNow_13 : decode cX8_isPartNow 13 = .ok (.iload 4, 2) := by decide +kernel
theorem dX8_isPartNow_15 : decode cX8_isPartNow 15 = .ok (.ishr, 1) := by decide +kernel
theorem dX8_isPartNow_16 : decode cX8_isPartNow 16 = .ok (.iconst 1, 1) := by decide +kernel
theorem dX8_isPartNow_17 : decode cX8_isPartNow 17 = .ok (.iand, 1) := by decide +kernel
theorem dX8_isPartNow_18 : decode cX8_isPartNow 18 = .ok (.iconst 1, 1) := by decide +kernel
theorem dX8_isPartNow_19 : decode cX8_isPartNow 19 = .ok (.if_icmp .ne 23, 3) := by decide +kernel
theorem dX8_isPartNow_22 : decode cX8_isPartNow 22 = .ok (.iload_n 3, 1) := by decide +kernel
theorem dX8_isPartNow_23 : decode cX8_isPartNow 23 = .ok (.ifCond .eq 17, 3) := by decide +kernel
theorem dX8_isPartNow_26 : decode cX8_isPartNow 26 = .ok (.aload_n 0, 1) := by decide +kernel
theorem dX8_isPartNow_27 : decode cX8_isPartNow 27 = .ok (.iload_n 2, 1) := by decide +kernel
theorem dX8_isPartNow_28 : decode cX8_isPartNow 28 = .ok (.iload 4, 2) := by decide +kernel
theorem dX8_isPartNow_30 : decode cX8_isPartNow 30 = .ok (.invokevirtual 185, 3) := by decide +kernel
theorem dX8_isPartNow_33 : decode cX8_isPartNow 33 = .ok (.ifCond .eq 7, 3) := by decide +kernel
theorem dX8_isPartNow_36 : decode cX8_isPartNow 36 = .ok (.iconst 1, 1) := by decide +kernel
theorem dX8_isPartNow_37 : decode cX8_isPartNow 37 = .ok (.goto 4, 3) := by decide +kernel
theorem dX8_isPartNow_40 : decode cX8_isPartNow 40 = .ok (.iconst 0, 1) := by decide +kernel
theorem dX8_isPartNow_41 : decode cX8_isPartNow 41 = .ok (.istore_n 3, 1) := by decide +kernel
theorem dX8_isPartNow_42 : decode cX8_isPartNow 42 = .ok (.iinc 4 1, 3) := by decide +kernel
theorem dX8_isPartNow_45 : decode cX8_isPartNow 45 = .ok (.goto (-40), 3) := by decide +kernel
theorem dX8_isPartNow_48 : decode cX8_isPartNow 48 = .ok (.iload_n 3, 1) := by decide +kernel
theorem dX8_isPartNow_49 : decode cX8_isPartNow 49 = .ok (.ireturn, 1) := by decide +kernel
theorem dX8_isPart_0 : decode cX8_isPart 0 = .ok (.aload_n 0, 1) := by decide +kernel
theorem dX8_isPart_1 : decode cX8_isPart 1 = .ok (.iload_n 1, 1) := by decide +kernel
theorem dX8_isPart_2 : decode cX8_isPart 2 = .ok (.invokestatic 134, 3) := by decide +kernel
theorem dX8_isPart_5 : decode cX8_isPart 5 = .ok (.ifCond .eq 10, 3) := by decide +kernel
theorem dX8_isPart_8 : decode cX8_isPart 8 = .ok (.iload_n 2, 1) := by decide +kernel
theorem dX8_isPart_9 : decode cX8_isPart 9 = .ok (.invokestatic 134, 3) := by decide +kernel
theorem dX8_isPart_12 : decode cX8_isPart 12 = .ok (.ifCond .ne 7, 3) := by decide +kernel
theorem dX8_isPart_15 : decode cX8_isPart 15 = .ok (.iconst 1, 1) := by decide +kernel
theorem dX8_isPart_16 : decode cX8_isPart 16 = .ok (.goto 4, 3) := by decide +kernel
theorem dX8_isPart_19 : decode cX8_isPart 19 = .ok (.iconst 0, 1) := by decide +kernel
theorem dX8_isPart_20 : decode cX8_isPart 20 = .ok (.invokevirtual 105, 3) := by decide +kernel
theorem dX8_isPart_23 : decode cX8_isPart 23 = .ok (.ifCond .ne 16, 3) := by decide +kernel
theorem dX8_isPart_26 : decode cX8_isPart 26 = .ok (.aload_n 0, 1) := by decide +kernel
theorem dX8_isPart_27 : decode cX8_isPart 27 = .ok (.iload_n 1, 1) := by decide +kernel
theorem dX8_isPart_28 : decode cX8_isPart 28 = .ok (.iload_n 2, 1) := by decide +kernel
theorem dX8_isPart_29 : decode cX8_isPart 29 = .ok (.invokevirtual 209, 3) := by decide +kernel
theorem dX8_isPart_32 : decode cX8_isPart 32 = .ok (.ifCond .eq 7, 3) := by decide +kernel
theorem dX8_isPart_35 : decode cX8_isPart 35 = .ok (.iconst 1, 1) := by decide +kernel
theorem dX8_isPart_36 : decode cX8_isPart 36 = .ok (.goto 4, 3) := by decide +kernel
theorem dX8_isPart_39 : decode cX8_isPart 39 = .ok (.iconst 0, 1) := by decide +kernel
theorem dX8_isPart_40 : decode cX8_isPart 40 = .ok (.ireturn, 1) := by decide +kernel
theorem dX8_shares_0 : decode cX8_shares 0 = .ok (.aload_n 0, 1) := by decide +kernel
theorem dX8_shares_1 : decode cX8_shares 1 = .ok (.iload_n 1, 1) := by decide +kernel
theorem dX8_shares_2 : decode cX8_shares 2 = .ok (.invokestatic 134, 3) := by decide +kernel
theorem dX8_shares_5 : decode cX8_shares 5 = .ok (.ifCond .eq 10, 3) := by decide +kernel
theorem dX8_shares_8 : decode cX8_shares 8 = .ok (.iload_n 2, 1) := by decide +kernel
theorem dX8_shares_9 : decode cX8_shares 9 = .ok (.invokestatic 134, 3) := by decide +kernel
theorem dX8_shares_12 : decode cX8_shares 12 = .ok (.ifCond .ne 7, 3) := by decide +kernel
theorem dX8_shares_15 : decode cX8_shares 15 = .ok (.iconst 1, 1) := by decide +kernel
theorem dX8_shares_16 : decode cX8_shares 16 = .ok (.goto 4, 3) := by decide +kernel
theorem dX8_shares_19 : decode cX8_shares 19 = .ok (.iconst 0, 1) := by decide +kernel
theorem dX8_shares_20 : decode cX8_shares 20 = .ok (.invokevirtual 105, 3) := by decide +kernel
theorem dX8_shares_23 : decode cX8_shares 23 = .ok (.ifCond .eq 5, 3) := by decide +kernel
theorem dX8_shares_26 : decode cX8_shares 26 = .ok (.iconst 0, 1) := by decide +kernel
theorem dX8_shares_27 : decode cX8_shares 27 = .ok (.ireturn, 1) := by decide +kernel
theorem dX8_shares_28 : decode cX8_shares 28 = .ok (.aload_n 0, 1) := by decide +kernel
theorem dX8_shares_29 : decode cX8_shares 29 = .ok (.iload_n 1, 1) := by decide +kernel
theorem dX8_shares_30 : decode cX8_shares 30 = .ok (.iload_n 2, 1) := by decide +kernel
theorem dX8_shares_31 : decode cX8_shares 31 = .ok (.invokevirtual 209, 3) := by decide +kernel
theorem dX8_shares_34 : decode cX8_shares 34 = .ok (.ifCond .ne 6, 3) := by decide +kernel
theorem dX8_shares_37 : decode cX8_shares 37 = .ok (.bipush (-9), 2) := by decide +kernel
theorem dX8_shares_39 : decode cX8_shares 39 = .ok (.ireturn, 1) := by decide +kernel
theorem dX8_shares_40 : decode cX8_shares 40 = .ok (.aload_n 0, 1) := by decide +kernel
theorem dX8_shares_41 : decode cX8_shares 41 = .ok (.iload_n 2, 1) := by decide +kernel
theorem dX8_shares_42 : decode cX8_shares 42 = .ok (.invokevirtual 178, 3) := by decide +kernel
theorem dX8_shares_45 : decode cX8_shares 45 = .ok (.istore_n 3, 1) := by decide +kernel
theorem dX8_shares_46 : decode cX8_shares 46 = .ok (.iload_n 3, 1) := by decide +kernel
theorem dX8_shares_47 : decode cX8_shares 47 = .ok (.aload_n 0, 1) := by decide +kernel
theorem dX8_shares_48 : decode cX8_shares 48 = .ok (.iload_n 1, 1) := by decide +kernel
theorem dX8_shares_49 : decode cX8_shares 49 = .ok (.invokevirtual 178, 3) := by decide +kernel
theorem dX8_shares_52 : decode cX8_shares 52 = .ok (.idiv, 1) := by decide +kernel
theorem dX8_shares_53 : decode cX8_shares 53 = .ok (.ireturn, 1) := by decide +kernel
theorem dX8_share_0 : decode cX8_share 0 = .ok (.aload_n 0, 1) := by decide +kernel
theorem dX8_share_1 : decode cX8_share 1 = .ok (.iload_n 2, 1) := by decide +kernel
theorem dX8_share_2 : decode cX8_share 2 = .ok (.invokestatic 108, 3) := by decide +kernel
theorem dX8_share_5 : decode cX8_share 5 = .ok (.ifCond .ne 7, 3) := by decide +kernel
theorem dX8_share_8 : decode cX8_share 8 = .ok (.iconst 1, 1) := by decide +kernel
theorem dX8_share_9 : decode cX8_share 9 = .ok (.goto 4, 3) := by decide +kernel
theorem dX8_share_12 : decode cX8_share 12 = .ok (.iconst 0, 1) := by decide +kernel
theorem dX8_share_13 : decode cX8_share 13 = .ok (.iload_n 1, 1) := by decide +kernel
theorem dX8_share_14 : decode cX8_share 14 = .ok (.invokestatic 134, 3) := by decide +kernel
theorem dX8_share_17 : decode cX8_share 17 = .ok (.ifCond .ne 7, 3) := by decide +kernel
theorem dX8_share_20 : decode cX8_share 20 = .ok (.iconst 1, 1) := by decide +kernel
theorem dX8_share_21 : decode cX8_share 21 = .ok (.goto 4, 3) := by decide +kernel
theorem dX8_share_24 : decode cX8_share 24 = .ok (.iconst 0, 1) := by decide +kernel
theorem dX8_share_25 : decode cX8_share 25 = .ok (.invokevirtual 35, 3) := by decide +kernel
theorem dX8_share_28 : decode cX8_share 28 = .ok (.ifCond .eq 5, 3) := by decide +kernel
theorem dX8_share_31 : decode cX8_share 31 = .ok (.iconst 0, 1) := by decide +kernel
theorem dX8_share_32 : decode cX8_share 32 = .ok (.ireturn, 1) := by decide +kernel
theorem dX8_share_33 : decode cX8_share 33 = .ok (.aload_n 0, 1) := by decide +kernel
theorem dX8_share_34 : decode cX8_share 34 = .ok (.iload_n 1, 1) := by decide +kernel
theorem dX8_share_35 : decode cX8_share 35 = .ok (.invokevirtual 99, 3) := by decide +kernel
theorem dX8_share_38 : decode cX8_share 38 = .ok (.aload_n 0, 1) := by decide +kernel
theorem dX8_share_39 : decode cX8_share 39 = .ok (.aload_n 0, 1) := by decide +kernel
theorem dX8_share_40 : decode cX8_share 40 = .ok (.getfield 13, 3) := by decide +kernel
theorem dX8_share_43 : decode cX8_share 43 = .ok (.iload_n 2, 1) := by decide +kernel
theorem dX8_share_44 : decode cX8_share 44 = .ok (.bipush 7, 2) := by decide +kernel
theorem dX8_share_46 : decode cX8_share 46 = .ok (.imul, 1) := by decide +kernel
theorem dX8_share_47 : decode cX8_share 47 = .ok (.invokevirtual 45, 3) := by decide +kernel
theorem dX8_share_50 : decode cX8_share 50 = .ok (.istore_n 3, 1) := by decide +kernel
theorem dX8_share_51 : decode cX8_share 51 = .ok (.aload_n 0, 1) := by decide +kernel
theorem dX8_share_52 : decode cX8_share 52 = .ok (.iconst 0, 1) := by decide +kernel
theorem dX8_share_53 : decode cX8_share 53 = .ok (.invokevirtual 137, 3) := by decide +kernel
theorem dX8_share_56 : decode cX8_share 56 = .ok (.istore 4, 2) := by decide +kernel
theorem dX8_share_58 : decode cX8_share 58 = .ok (.iload 4, 2) := by decide +kernel
theorem dX8_share_60 : decode cX8_share 60 = .ok (.ifCond .lt 77, 3) := by decide +kernel
theorem dX8_share_63 : decode cX8_share 63 = .ok (.aload_n 0, 1) := by decide +kernel
theorem dX8_share_64 : decode cX8_share 64 = .ok (.iload 4, 2) := by decide +kernel
theorem dX8_share_66 : decode cX8_share 66 = .ok (.aload_n 0, 1) := by decide +kernel
theorem dX8_share_67 : decode cX8_share 67 = .ok (.getfield 17, 3) := by decide +kernel
theorem dX8_share_70 : decode cX8_share 70 = .ok (.invokevirtual 78, 3) := by decide +kernel
theorem dX8_share_73 : decode cX8_share 73 = .ok (.iconst 0, 1) := by decide +kernel
theorem dX8_share_74 : decode cX8_share 74 = .ok (.istore 5, 2) := by decide +kernel
theorem dX8_share_76 : decode cX8_share 76 = .ok (.iload 5, 2) := by decide +kernel
theorem dX8_share_78 : decode cX8_share 78 = .ok (.aload_n 0, 1) := by decide +kernel
theorem dX8_share_79 : decode cX8_share 79 = .ok (.getfield 7, 3) := by decide +kernel
theorem dX8_share_82 : decode cX8_share 82 = .ok (.if_icmp .ge 28, 3) := by decide +kernel
theorem dX8_share_85 : decode cX8_share 85 = .ok (.aload_n 0, 1) := by decide +kernel
theorem dX8_share_86 : decode cX8_share 86 = .ok (.getfield 20, 3) := by decide +kernel
theorem dX8_share_89 : decode cX8_share 89 = .ok (.iload 5, 2) := by decide +kernel
theorem dX8_share_91 : decode cX8_share 91 = .ok (.aload_n 0, 1) := by decide +kernel
theorem dX8_share_92 : decode cX8_share 92 = .ok (.iload_n 2, 1) := by decide +kernel
theorem dX8_share_93 : decode cX8_share 93 = .ok (.aload_n 0, 1) := by decide +kernel
theorem dX8_share_94 : decode cX8_share 94 = .ok (.getfield 17, 3) := by decide +kernel
theorem dX8_share_97 : decode cX8_share 97 = .ok (.iload 5, 2) := by decide +kernel
theorem dX8_share_99 : decode cX8_share 99 = .ok (.iaload, 1) := by decide +kernel
theorem dX8_share_100 : decode cX8_share 100 = .ok (.invokevirtual 82, 3) := by decide +kernel
theorem dX8_share_103 : decode cX8_share 103 = .ok (.iastore, 1) := by decide +kernel
theorem dX8_share_104 : decode cX8_share 104 = .ok (.iinc 5 1, 3) := by decide +kernel
theorem dX8_share_107 : decode cX8_share 107 = .ok (.goto (-31), 3) := by decide +kernel
theorem dX8_share_110 : decode cX8_share 110 = .ok (.iload_n 3, 1) := by decide +kernel
theorem dX8_share_111 : decode cX8_share 111 = .ok (.aload_n 0, 1) := by decide +kernel
theorem dX8_share_112 : decode cX8_share 112 = .ok (.aload_n 0, 1) := by decide +kernel
theorem dX8_share_113 : decode cX8_share 113 = .ok (.getfield 20, 3) := by decide +kernel
theorem dX8_share_116 : decode cX8_share 116 = .ok (.iconst 0, 1) := by decide +kernel
