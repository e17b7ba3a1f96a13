theorem dX6_list_17 : decode cX6_list 17 = .ok (.getfield 16, 3) := by decide +kernel
theorem dX6_list_20 : decode cX6_list 20 = .ok (.aload_n 0, 1) := by decide +kernel
theorem dX6_list_21 : decode cX6_list 21 = .ok (.getfield 9, 3) := by decide +kernel
theorem dX6_list_24 : decode cX6_list 24 = .ok (.iload_n 1, 1) := by decide +kernel
theorem dX6_list_25 : decode cX6_list 25 = .ok (.ldc 56, 2) := by decide +kernel
theorem dX6_list_27 : decode cX6_list 27 = .ok (.aload_n 0, 1) := by decide +kernel
theorem dX6_list_28 : decode cX6_list 28 = .ok (.getfield 41, 3) := by decide +kernel
theorem dX6_list_31 : decode cX6_list 31 = .ok (.invokevirtual 134, 3) := by decide +kernel
theorem dX6_list_34 : decode cX6_list 34 = .ok (.new 147, 3) := by decide +kernel
theorem dX6_list_37 : decode cX6_list 37 = .ok (.dup, 1) := by decide +kernel
theorem dX6_list_38 : decode cX6_list 38 = .ok (.invokespecial 149, 3) := by decide +kernel
theorem dX6_list_41 : decode cX6_list 41 = .ok (.astore_n 3, 1) := by decide +kernel
theorem dX6_list_42 : decode cX6_list 42 = .ok (.iload_n 2, 1) := by decide +kernel
theorem dX6_list_43 : decode cX6_list 43 = .ok (.istore 4, 2) := by decide +kernel
theorem dX6_list_45 : decode cX6_list 45 = .ok (.iload 4, 2) := by decide +kernel
theorem dX6_list_47 : decode cX6_list 47 = .ok (.aload_n 0, 1) := by decide +kernel
theorem dX6_list_48 : decode cX6_list 48 = .ok (.getfield 16, 3) := by decide +kernel
theorem dX6_list_51 : decode cX6_list 51 = .ok (.invokevirtual 138, 3) := by decide +kernel
theorem dX6_list_54 : decode cX6_list 54 = .ok (.if_icmp .ge 40, 3) := by decide +kernel
theorem dX6_list_57 : decode cX6_list 57 = .ok (.iload 4, 2) := by decide +kernel
theorem dX6_list_59 : decode cX6_list 59 = .ok (.iload_n 2, 1) := by decide +kernel
theorem dX6_list_60 : decode cX6_list 60 = .ok (.isub, 1) := by decide +kernel
theorem dX6_list_61 : decode cX6_list 61 = .ok (.bipush 20, 2) := by decide +kernel
theorem dX6_list_63 : decode cX6_list 63 = .ok (.if_icmp .ge 31, 3) := by decide +kernel
theorem dX6_list_66 : decode cX6_list 66 = .ok (.aload_n 3, 1) := by decide +kernel
theorem dX6_list_67 : decode cX6_list 67 = .ok (.aload_n 0, 1) := by decide +kernel
theorem dX6_list_68 : decode cX6_list 68 = .ok (.getfield 16, 3) := by decide +kernel
theorem dX6_list_71 : decode cX6_list 71 = .ok (.iload 4, 2) := by decide +kernel
theorem dX6_list_73 : decode cX6_list 73 = .ok (.ldc 56, 2) := by decide +kernel
theorem dX6_list_75 : decode cX6_list 75 = .ok (.invokevirtual 141, 3) := by decide +kernel
theorem dX6_list_78 : decode cX6_list 78 = .ok (.aload_n 0, 1) := by decide +kernel
theorem dX6_list_79 : decode cX6_list 79 = .ok (.getfield 41, 3) := by decide +kernel
theorem dX6_list_82 : decode cX6_list 82 = .ok (.invokestatic 75, 3) := by decide +kernel
theorem dX6_list_85 : decode cX6_list 85 = .ok (.invokestatic 150, 3) := by decide +kernel
theorem dX6_list_88 : decode cX6_list 88 = .ok (.iinc 4 1, 3) := by decide +kernel
theorem dX6_list_91 : decode cX6_list 91 = .ok (.goto (-46), 3) := by decide +kernel
theorem dX6_list_94 : decode cX6_list 94 = .ok (.aload_n 3, 1) := by decide +kernel
theorem dX6_list_95 : decode cX6_list 95 = .ok (.invokevirtual 154, 3) := by decide +kernel
theorem dX6_list_98 : decode cX6_list 98 = .ok (.areturn, 1) := by decide +kernel
theorem dX6_comes_0 : decode cX6_comes 0 = .ok (.aload_n 0, 1) := by decide +kernel
theorem dX6_comes_1 : decode cX6_comes 1 = .ok (.iload_n 2, 1) := by decide +kernel
theorem dX6_comes_2 : decode cX6_comes 2 = .ok (.invokevirtual 86, 3) := by decide +kernel
theorem dX6_comes_5 : decode cX6_comes 5 = .ok (.iload_n 1, 1) := by decide +kernel
theorem dX6_comes_6 : decode cX6_comes 6 = .ok (.invokestatic 131, 3) := by decide +kernel
theorem dX6_comes_9 : decode cX6_comes 9 = .ok (.aload_n 0, 1) := by decide +kernel
theorem dX6_comes_10 : decode cX6_comes 10 = .ok (.getfield 30, 3) := by decide +kernel
theorem dX6_comes_13 : decode cX6_comes 13 = .ok (.aload_n 0, 1) := by decide +kernel
theorem dX6_comes_14 : decode cX6_comes 14 = .ok (.getfield 9, 3) := by decide +kernel
theorem dX6_comes_17 : decode cX6_comes 17 = .ok (.iload_n 1, 1) := by decide +kernel
theorem dX6_comes_18 : decode cX6_comes 18 = .ok (.aload_n 0, 1) := by decide +kernel
theorem dX6_comes_19 : decode cX6_comes 19 = .ok (.getfield 41, 3) := by decide +kernel
theorem dX6_comes_22 : decode cX6_comes 22 = .ok (.invokevirtual 187, 3) := by decide +kernel
theorem dX6_comes_25 : decode cX6_comes 25 = .ok (.aload_n 0, 1) := by decide +kernel
theorem dX6_comes_26 : decode cX6_comes 26 = .ok (.getfield 30, 3) := by decide +kernel
theorem dX6_comes_29 : decode cX6_comes 29 = .ok (.iload_n 2, 1) := by decide +kernel
theorem dX6_comes_30 : decode cX6_comes 30 = .ok (.invokevirtual 190, 3) := by decide +kernel
theorem dX6_comes_33 : decode cX6_comes 33 = .ok (.ireturn, 1) := by decide +kernel
theorem dX6_pieces_0 : decode cX6_pieces 0 = .ok (.iload_n 1, 1) := by decide +kernel
theorem dX6_pieces_1 : decode cX6_pieces 1 = .ok (.invokestatic 131, 3) := by decide +kernel
theorem dX6_pieces_4 : decode cX6_pieces 4 = .ok (.aload_n 0, 1) := by decide +kernel
theorem dX6_pieces_5 : decode cX6_pieces 5 = .ok (.getfield 30, 3) := by decide +kernel
theorem dX6_pieces_8 : decode cX6_pieces 8 = .ok (.aload_n 0, 1) := by decide +kernel
theorem dX6_pieces_9 : decode cX6_pieces 9 = .ok (.getfield 9, 3) := by decide +kernel
theorem dX6_pieces_12 : decode cX6_pieces 12 = .ok (.iload_n 1, 1) := by decide +kernel
theorem dX6_pieces_13 : decode cX6_pieces 13 = .ok (.aload_n 0, 1) := by decide +kernel
theorem dX6_pieces_14 : decode cX6_pieces 14 = .ok (.getfield 41, 3) := by decide +kernel
theorem dX6_pieces_17 : decode cX6_pieces 17 = .ok (.invokevirtual 187, 3) := by decide +kernel
theorem dX6_pieces_20 : decode cX6_pieces 20 = .ok (.aload_n 0, 1) := by decide +kernel
theorem dX6_pieces_21 : decode cX6_pieces 21 = .ok (.getfield 30, 3) := by decide +kernel
theorem dX6_pieces_24 : decode cX6_pieces 24 = .ok (.invokevirtual 193, 3) := by decide +kernel
theorem dX6_pieces_27 : decode cX6_pieces 27 = .ok (.ireturn, 1) := by decide +kernel
theorem dX6_withOrder_0 : decode cX6_withOrder 0 = .ok (.iload_n 1, 1) := by decide +kernel
theorem dX6_withOrder_1 : decode cX6_withOrder 1 = .ok (.invokestatic 131, 3) := by decide +kernel
theorem dX6_withOrder_4 : decode cX6_withOrder 4 = .ok (.iload_n 2, 1) := by decide +kernel
theorem dX6_withOrder_5 : decode cX6_withOrder 5 = .ok (.iconst 1, 1) := by decide +kernel
theorem dX6_withOrder_6 : decode cX6_withOrder 6 = .ok (.bipush 12, 2) := by decide +kernel
theorem dX6_withOrder_8 : decode cX6_withOrder 8 = .ok (.invokestatic 63, 3) := by decide +kernel
theorem dX6_withOrder_11 : decode cX6_withOrder 11 = .ok (.aload_n 0, 1) := by decide +kernel
theorem dX6_withOrder_12 : decode cX6_withOrder 12 = .ok (.getfield 23, 3) := by decide +kernel
theorem dX6_withOrder_15 : decode cX6_withOrder 15 = .ok (.aload_n 0, 1) := by decide +kernel
theorem dX6_withOrder_16 : decode cX6_withOrder 16 = .ok (.getfield 9, 3) := by decide +kernel
theorem dX6_withOrder_19 : decode cX6_withOrder 19 = .ok (.iload_n 1, 1) := by decide +kernel
theorem dX6_withOrder_20 : decode cX6_withOrder 20 = .ok (.aload_n 0, 1) := by decide +kernel
theorem dX6_withOrder_21 : decode cX6_withOrder 21 = .ok (.getfield 41, 3) := by decide +kernel
theorem dX6_withOrder_24 : decode cX6_withOrder 24 = .ok (.invokevirtual 177, 3) := by decide +kernel
theorem dX6_withOrder_27 : decode cX6_withOrder 27 = .ok (.aload_n 0, 1) := by decide +kernel
theorem dX6_withOrder_28 : decode cX6_withOrder 28 = .ok (.getfield 23, 3) := by decide +kernel
theorem dX6_withOrder_31 : decode cX6_withOrder 31 = .ok (.iload_n 2, 1) := by decide +kernel
theorem dX6_withOrder_32 : decode cX6_withOrder 32 = .ok (.invokevirtual 196, 3) := by decide +kernel
theorem dX6_withOrder_35 : decode cX6_withOrder 35 = .ok (.ireturn, 1) := by decide +kernel
theorem dX6_even_0 : decode cX6_even 0 = .ok (.iload_n 1, 1) := by decide +kernel
theorem dX6_even_1 : decode cX6_even 1 = .ok (.invokestatic 131, 3) := by decide +kernel
theorem dX6_even_4 : decode cX6_even 4 = .ok (.aload_n 0, 1) := by decide +kernel
theorem dX6_even_5 : decode cX6_even 5 = .ok (.getfield 23, 3) := by decide +kernel
theorem dX6_even_8 : decode cX6_even 8 = .ok (.aload_n 0, 1) := by decide +kernel
theorem dX6_even_9 : decode cX6_even 9 = .ok (.getfield 9, 3) := by decide +kernel
theorem dX6_even_12 : decode cX6_even 12 = .ok (.iload_n 1, 1) := by decide +kernel
theorem dX6_even_13 : decode cX6_even 13 = .ok (.aload_n 0, 1) := by decide +kernel
theorem dX6_even_14 : decode cX6_even 14 = .ok (.getfield 41, 3) := by decide +kernel
theorem dX6_even_17 : decode cX6_even 17 = .ok (.invokevirtual 177, 3) := by decide +kernel
theorem dX6_even_20 : decode cX6_even 20 = .ok (.aload_n 0, 1) := by decide +kernel
theorem dX6_even_21 : decode cX6_even 21 = .ok (.getfield 23, 3) := by decide +kernel
theorem dX6_even_24 : decode cX6_even 24 = .ok (.invokevirtual 199, 3) := by decide +kernel
theorem dX6_even_27 : decode cX6_even 27 = .ok (.ireturn, 1) := by decide +kernel
theorem dX6_colourings_0 : decode cX6_colourings 0 = .ok (.iload_n 1, 1) := by decide +kernel
theorem dX6_colourings_1 : decode cX6_colourings 1 = .ok (.invokestatic 131, 3) := by decide +kernel
theorem dX6_colourings_4 : decode cX6_colourings 4 = .ok (.iload_n 2, 1) := by decide +kernel
theorem dX6_colourings_5 : decode cX6_colourings 5 = .ok (.iconst 1, 1) := by decide +kernel
theorem dX6_colourings_6 : decode cX6_colourings 6 = .ok (.iconst 3, 1) := by decide +kernel
theorem dX6_colourings_7 : decode cX6_colourings 7 = .ok (.invokestatic 63, 3) := by decide +kernel
theorem dX6_colourings_10 : decode cX6_colourings 10 = .ok (.iload_n 3, 1) := by decide +kernel
theorem dX6_colourings_11 : decode cX6_colourings 11 = .ok (.iconst 0, 1) := by decide +kernel
theorem dX6_colourings_12 : decode cX6_colourings 12 = .ok (.iconst 1, 1) := by decide +kernel
theorem dX6_colourings_13 : decode cX6_colourings 13 = .ok (.invokestatic 63, 3) := by decide +kernel
theorem dX6_colourings_16 : decode cX6_colourings 16 = .ok (.iload_n 3, 1) := by decide +kernel
theorem dX6_colourings_17 : decode cX6_colourings 17 = .ok (.ifCond .ne 28, 3) := by decide +kernel
theorem dX6_colourings_20 : decode cX6_colourings 20 = .ok (.aload_n 0, 1) := by decide +kernel
theorem dX6_colourings_21 : decode cX6_colourings 21 = .ok (.getfield 23, 3) := by decide +kernel
theorem dX6_colourings_24 : decode cX6_colourings 24 = .ok (.aload_n 0, 1) := by decide +kernel
theorem dX6_colourings_25 : decode cX6_colourings 25 = .ok (.getfield 9, 3) := by decide +kernel
theorem dX6_colourings_28 : decode cX6_colourings 28 = .ok (.iload_n 1, 1) := by decide +kernel
theorem dX6_colourings_29 : decode cX6_colourings 29 = .ok (.aload_n 0, 1) := by decide +kernel
theorem dX6_colourings_30 : decode cX6_colourings 30 = .ok (.getfield 41, 3) := by decide +kernel
theorem dX6_colourings_33 : decode cX6_colourings 33 = .ok (.invokevirtual 177, 3) := by decide +kernel
theorem dX6_colourings_36 : decode cX6_colourings 36 = .ok (.aload_n 0, 1) := by decide +kernel
theorem dX6_colourings_37 : decode cX6_colourings 37 = .ok (.getfield 23, 3) := by decide +kernel
theorem dX6_colourings_40 : decode cX6_colourings 40 = .ok (.iload_n 2, 1) := by decide +kernel
theorem dX6_colourings_41 : decode cX6_colourings 41 = .ok (.invokevirtual 202, 3) := by decide +kernel
theorem dX6_colourings_44 : decode cX6_colourings 44 = .ok (.ireturn, 1) := by decide +kernel
theorem dX6_colourings_45 : decode cX6_colourings 45 = .ok (.aload_n 0, 1) := by decide +kernel
theorem dX6_colourings_46 : decode cX6_colourings 46 = .ok (.getfield 37, 3) := by decide +kernel
theorem dX6_colourings_49 : decode cX6_colourings 49 = .ok (.aload_n 0, 1) := by decide +kernel
theorem dX6_colourings_50 : decode cX6_colourings 50 = .ok (.getfield 9, 3) := by decide +kernel
theorem dX6_colourings_53 : decode cX6_colourings 53 = .ok (.iload_n 1, 1) := by decide +kernel
theorem dX6_colourings_54 : decode cX6_colourings 54 = .ok (.iload_n 2, 1) := by decide +kernel
theorem dX6_colourings_55 : decode cX6_colourings 55 = .ok (.aload_n 0, 1) := by decide +kernel
theorem dX6_colourings_56 : decode cX6_colourings 56 = .ok (.getfield 41, 3) := by decide +kernel
theorem dX6_colourings_59 : decode cX6_colourings 59 = .ok (.invokevirtual 205, 3) := by decide +kernel
theorem dX6_colourings_62 : decode cX6_colourings 62 = .ok (.ireturn, 1) := by decide +kernel
theorem dX6_isPart_0 : decode cX6_isPart 0 = .ok (.iload_n 1, 1) := by decide +kernel
theorem dX6_isPart_1 : decode cX6_isPart 1 = .ok (.invokestatic 131, 3) := by decide +kernel
theorem dX6_isPart_4 : decode cX6_isPart 4 = .ok (.iload_n 2, 1) := by decide +kernel
theorem dX6_isPart_5 : decode cX6_isPart 5 = .ok (.invokestatic 131, 3) := by decide +kernel
theorem dX6_isPart_8 : decode cX6_isPart 8 = .ok (.aload_n 0, 1) := by decide +kernel
theorem dX6_isPart_9 : decode cX6_isPart 9 = .ok (.getfield 16, 3) := by decide +kernel
theorem dX6_isPart_12 : decode cX6_isPart 12 = .ok (.aload_n 0, 1) := by decide +kernel
theorem dX6_isPart_13 : decode cX6_isPart 13 = .ok (.getfield 9, 3) := by decide +kernel
theorem dX6_isPart_16 : decode cX6_isPart 16 = .ok (.iload_n 2, 1) := by decide +kernel
theorem dX6_isPart_17 : decode cX6_isPart 17 = .ok (.ldc 56, 2) := by decide +kernel
theorem dX6_isPart_19 : decode cX6_isPart 19 = .ok (.aload_n 0, 1) := by decide +kernel
theorem dX6_isPart_20 : decode cX6_isPart 20 = .ok (.getfield 41, 3) := by decide +kernel
theorem dX6_isPart_23 : decode cX6_isPart 23 = .ok (.invokevirtual 134, 3) := by decide +kernel
theorem dX6_isPart_26 : decode cX6_isPart 26 = .ok (.aload_n 0, 1) := by decide +kernel
theorem dX6_isPart_27 : decode cX6_isPart 27 = .ok (.getfield 16, 3) := by decide +kernel
theorem dX6_isPart_30 : decode cX6_isPart 30 = .ok (.aload_n 0, 1) := by decide +kernel
theorem dX6_isPart_31 : decode cX6_isPart 31 = .ok (.getfield 9, 3) := by decide +kernel
theorem dX6_isPart_34 : decode cX6_isPart 34 = .ok (.iload_n 1, 1) := by decide +kernel
theorem dX6_isPart_35 : decode cX6_isPart 35 = .ok (.invokevirtual 209, 3) := by decide +kernel
theorem dX6_isPart_38 : decode cX6_isPart 38 = .ok (.ireturn, 1) := by decide +kernel
theorem dX6_shares_0 : decode cX6_shares 0 = .ok (.iload_n 1, 1) := by decide +kernel
theorem dX6_shares_1 : decode cX6_shares 1 = .ok (.invokestatic 131, 3) := by decide +kernel
theorem dX6_shares_4 : decode cX6_shares 4 = .ok (.iload_n 2, 1) := by decide +kernel
theorem dX6_shares_5 : decode cX6_shares 5 = .ok (.invokestatic 131, 3) := by decide +kernel
theorem dX6_shares_8 : decode cX6_shares 8 = .ok (.aload_n 0, 1) := by decide +kernel
theorem dX6_shares_9 : decode cX6_shares 9 = .ok (.getfield 16, 3) := by decide +kernel
theorem dX6_shares_12 : decode cX6_shares 12 = .ok (.aload_n 0, 1) := by decide +kernel
theorem dX6_shares_13 : decode cX6_shares 13 = .ok (.getfield 9, 3) := by decide +kernel
theorem dX6_shares_16 : decode cX6_shares 16 = .ok (.iload_n 2, 1) := by decide +kernel
theorem dX6_shares_17 : decode cX6_shares 17 = .ok (.ldc 56, 2) := by decide +kernel
theorem dX6_shares_19 : decode cX6_shares 19 = .ok (.aload_n 0, 1) := by decide +kernel
theorem dX6_shares_20 : decode cX6_shares 20 = .ok (.getfield 41, 3) := by decide +kernel
theorem dX6_shares_23 : decode cX6_shares 23 = .ok (.invokevirtual 134, 3) := by decide +kernel
theorem dX6_shares_26 : decode cX6_shares 26 = .ok (.aload_n 0, 1) := by decide +kernel
theorem dX6_shares_27 : decode cX6_shares 27 = .ok (.getfield 16, 3) := by decide +kernel
theorem dX6_shares_30 : decode cX6_shares 30 = .ok (.aload_n 0, 1) := by decide +kernel
theorem dX6_shares_31 : decode cX6_shares 31 = .ok (.getfield 9, 3) := by decide +kernel
theorem dX6_shares_34 : decode cX6_shares 34 = .ok (.iload_n 1, 1) := by decide +kernel
theorem dX6_shares_35 : decode cX6_shares 35 = .ok (.invokevirtual 209, 3) := by decide +kernel
theorem dX6_shares_38 : decode cX6_shares 38 = .ok (.ifCond .ne 6, 3) := by decide +kernel
theorem dX6_shares_41 : decode cX6_shares 41 = .ok (.bipush (-9), 2) := by decide +kernel
theorem dX6_shares_43 : decode cX6_shares 43 = .ok (.ireturn, 1) := by decide +kernel
theorem dX6_shares_44 : decode cX6_shares 44 = .ok (.aload_n 0, 1) := by decide +kernel
theorem dX6_shares_45 : decode cX6_shares 45 = .ok (.getfield 16, 3) := by decide +kernel
theorem dX6_shares_48 : decode cX6_shares 48 = .ok (.invokevirtual 138, 3) := by decide +kernel
theorem dX6_shares_51 : decode cX6_shares 51 = .ok (.istore_n 3, 1) := by decide +kernel
theorem dX6_shares_52 : decode cX6_shares 52 = .ok (.aload_n 0, 1) := by decide +kernel
theorem dX6_shares_53 : decode cX6_shares 53 = .ok (.getfield 16, 3) := by decide +kernel
theorem dX6_shares_56 : decode cX6_shares 56 = .ok (.aload_n 0, 1) := by decide +kernel
theorem dX6_shares_57 : decode cX6_shares 57 = .ok (.getfield 9, 3) := by decide +kernel
theorem dX6_shares_60 : decode cX6_shares 60 = .ok (.iload_n 1, 1) := by decide +kernel
theorem dX6_shares_61 : decode cX6_shares 61 = .ok (.ldc 56, 2) := by decide +kernel
theorem dX6_shares_63 : decode cX6_shares 63 = .ok (.aload_n 0, 1) := by decide +kernel
theorem dX6_shares_64 : decode cX6_shares 64 = .ok (.getfield 41, 3) := by decide +kernel
theorem dX6_shares_67 : decode cX6_shares 67 = .ok (.invokevirtual 134, 3) := by decide +kernel
theorem dX6_shares_70 : decode cX6_shares 70 = .ok (.iload_n 3, 1) := by decide +kernel
theorem dX6_shares_71 : decode cX6_shares 71 = .ok (.aload_n 0, 1) := by decide +kernel
theorem dX6_shares_72 : decode cX6_shares 72 = .ok (.getfield 16, 3) := by decide +kernel
theorem dX6_shares_75 : decode cX6_shares 75 = .ok (.invokevirtual 138, 3) := by decide +kernel
theorem dX6_shares_78 : decode cX6_shares 78 = .ok (.invokestatic 213, 3) := by decide +kernel
theorem dX6_shares_81 : decode cX6_shares 81 = .ok (.ireturn, 1) := by decide +kernel
theorem dX6_share_0 : decode cX6_share 0 = .ok (.iload_n 2, 1) := by decide +kernel
theorem dX6_share_1 : decode cX6_share 1 = .ok (.invokestatic 67, 3) := by decide +kernel
theorem dX6_share_4 : decode cX6_share 4 = .ok (.iload_n 1, 1) := by decide +kernel
theorem dX6_share_5 : decode cX6_share 5 = .ok (.invokestatic 131, 3) := by decide +kernel
theorem dX6_share_8 : decode cX6_share 8 = .ok (.aload_n 0, 1) := by decide +kernel
theorem dX6_share_9 : decode cX6_share 9 = .ok (.getfield 16, 3) := by decide +kernel
theorem dX6_share_12 : decode cX6_share 12 = .ok (.aload_n 0, 1) := by decide +kernel
theorem dX6_share_13 : decode cX6_share 13 = .ok (.getfield 9, 3) := by decide +kernel
theorem dX6_share_16 : decode cX6_share 16 = .ok (.iload_n 1, 1) := by decide +kernel
theorem dX6_share_17 : decode cX6_share 17 = .ok (.ldc 56, 2) := by decide +kernel
theorem dX6_share_19 : decode cX6_share 19 = .ok (.aload_n 0, 1) := by decide +kernel
theorem dX6_share_20 : decode cX6_share 20 = .ok (.getfield 41, 3) := by decide +kernel
theorem dX6_share_23 : decode cX6_share 23 = .ok (.invokevirtual 134, 3) := by decide +kernel
theorem dX6_share_26 : decode cX6_share 26 = .ok (.aload_n 0, 1) := by decide +kernel
theorem dX6_share_27 : decode cX6_share 27 = .ok (.getfield 16, 3) := by decide +kernel
theorem dX6_share_30 : decode cX6_share 30 = .ok (.iconst 0, 1) := by decide +kernel
theorem dX6_share_31 : decode cX6_share 31 = .ok (.aload_n 0, 1) := by decide +kernel
theorem dX6_share_32 : decode cX6_share 32 = .ok (.getfield 9, 3) := by decide +kernel
theorem dX6_share_35 : decode cX6_share 35 = .ok (.iload_n 2, 1) := by decide +kernel
theorem dX6_share_36 : decode cX6_share 36 = .ok (.iaload, 1) := by decide +kernel
theorem dX6_share_37 : decode cX6_share 37 = .ok (.invokevirtual 141, 3) := by decide +kernel
theorem dX6_share_40 : decode cX6_share 40 = .ok (.aload_n 0, 1) := by decide +kernel
theorem dX6_share_41 : decode cX6_share 41 = .ok (.getfield 41, 3) := by decide +kernel
theorem dX6_share_44 : decode cX6_share 44 = .ok (.invokestatic 75, 3) := by decide +kernel
theorem dX6_share_47 : decode cX6_share 47 = .ok (.ireturn, 1) := by decide +kernel
theorem dX6_together_0 : decode cX6_together 0 = .ok (.aload_n 0, 1) := by decide +kernel
theorem dX6_together_1 : decode cX6_together 1 = .ok (.iload_n 2, 1) := by decide +kernel
theorem dX6_together_2 : decode cX6_together 2 = .ok (.invokevirtual 86, 3) := by decide +kernel
theorem dX6_together_5 : decode cX6_together 5 = .ok (.aload_n 0, 1) := by decide +kernel
theorem dX6_together_6 : decode cX6_together 6 = .ok (.iload_n 3, 1) := by decide +kernel
theorem dX6_together_7 : decode cX6_together 7 = .ok (.invokevirtual 86, 3) := by decide +kernel
theorem dX6_together_10 : decode cX6_together 10 = .ok (.iload_n 1, 1) := by decide +kernel
theorem dX6_together_11 : decode cX6_together 11 = .ok (.invokestatic 131, 3) := by decide +kernel
theorem dX6_together_14 : decode cX6_together 14 = .ok (.aload_n 0, 1) := by decide +kernel
theorem dX6_together_15 : decode cX6_together 15 = .ok (.getfield 30, 3) := by decide +kernel
theorem dX6_together_18 : decode cX6_together 18 = .ok (.aload_n 0, 1) := by decide +kernel
theorem dX6_together_19 : decode cX6_together 19 = .ok (.getfield 9, 3) := by decide +kernel
theorem dX6_together_22 : decode cX6_together 22 = .ok (.iload_n 1, 1) := by decide +kernel
theorem dX6_together_23 : decode cX6_together 23 = .ok (.iload_n 2, 1) := by decide +kernel
theorem dX6_together_24 : decode cX6_together 24 = .ok (.iload_n 3, 1) := by decide +kernel
theorem dX6_together_25 : decode cX6_together 25 = .ok (.aload_n 0, 1) := by decide +kernel
theorem dX6_together_26 : decode cX6_together 26 = .ok (.getfield 41, 3) := by decide +kernel
theorem dX6_together_29 : decode cX6_together 29 = .ok (.invokevirtual 216, 3) := by decide +kernel
theorem dX6_together_32 : decode cX6_together 32 = .ok (.aload_n 0, 1) := by decide +kernel
theorem dX6_together_33 : decode cX6_together 33 = .ok (.getfield 30, 3) := by decide +kernel
theorem dX6_together_36 : decode cX6_together 36 = .ok (.iload_n 2, 1) := by decide +kernel
theorem dX6_together_37 : decode cX6_together 37 = .ok (.invokevirtual 190, 3) := by decide +kernel
theorem dX6_together_40 : decode cX6_together 40 = .ok (.ireturn, 1) := by decide +kernel
theorem dX6_blocks_0 : decode cX6_blocks 0 = .ok (.aload_n 0, 1) := by decide +kernel
theorem dX6_blocks_1 : decode cX6_blocks 1 = .ok (.iload_n 2, 1) := by decide +kernel
theorem dX6_blocks_2 : decode cX6_blocks 2 = .ok (.invokevirtual 86, 3) := by decide +kernel
theorem dX6_blocks_5 : decode cX6_blocks 5 = .ok (.aload_n 0, 1) := by decide +kernel
theorem dX6_blocks_6 : decode cX6_blocks 6 = .ok (.iload_n 3, 1) := by decide +kernel
theorem dX6_blocks_7 : decode cX6_blocks 7 = .ok (.invokevirtual 86, 3) := by decide +kernel
theorem dX6_blocks_10 : decode cX6_blocks 10 = .ok (.iload_n 1, 1) := by decide +kernel
theorem dX6_blocks_11 : decode cX6_blocks 11 = .ok (.invokestatic 131, 3) := by decide +kernel
theorem dX6_blocks_14 : decode cX6_blocks 14 = .ok (.aload_n 0, 1) := by decide +kernel
theorem dX6_blocks_15 : decode cX6_blocks 15 = .ok (.getfield 30, 3) := by decide +kernel
theorem dX6_blocks_18 : decode cX6_blocks 18 = .ok (.aload_n 0, 1) := by decide +kernel
theorem dX6_blocks_19 : decode cX6_blocks 19 = .ok (.getfield 9, 3) := by decide +kernel
theorem dX6_blocks_22 : decode cX6_blocks 22 = .ok (.iload_n 1, 1) := by decide +kernel
theorem dX6_blocks_23 : decode cX6_blocks 23 = .ok (.iload_n 2, 1) := by decide +kernel
theorem dX6_blocks_24 : decode cX6_blocks 24 = .ok (.iload_n 3, 1) := by decide +kernel
theorem dX6_blocks_25 : decode cX6_blocks 25 = .ok (.aload_n 0, 1) := by decide +kernel
theorem dX6_blocks_26 : decode cX6_blocks 26 = .ok (.getfield 41, 3) := by decide +kernel
theorem dX6_blocks_29 : decode cX6_blocks 29 = .ok (.invokevirtual 216, 3) := by decide +kernel
theorem dX6_blocks_32 : decode cX6_blocks 32 = .ok (.aload_n 0, 1) := by decide +kernel
theorem dX6_blocks_33 : decode cX6_blocks 33 = .ok (.getfield 30, 3) := by decide +kernel
theorem dX6_blocks_36 : decode cX6_blocks 36 = .ok (.invokevirtual 193, 3) := by decide +kernel
theorem dX6_blocks_39 : decode cX6_blocks 39 = .ok (.ireturn, 1) := by decide +kernel
theorem dX6_isTwofold_0 : decode cX6_isTwofold 0 = .ok (.iload_n 1, 1) := by decide +kernel
theorem dX6_isTwofold_1 : decode cX6_isTwofold 1 = .ok (.invokestatic 131, 3) := by decide +kernel
theorem dX6_isTwofold_4 : decode cX6_isTwofold 4 = .ok (.aload_n 0, 1) := by decide +kernel
theorem dX6_isTwofold_5 : decode cX6_isTwofold 5 = .ok (.getfield 16, 3) := by decide +kernel
theorem dX6_isTwofold_8 : decode cX6_isTwofold 8 = .ok (.aload_n 0, 1) := by decide +kernel
theorem dX6_isTwofold_9 : decode cX6_isTwofold 9 = .ok (.getfield 9, 3) := by decide +kernel
theorem dX6_isTwofold_12 : decode cX6_isTwofold 12 = .ok (.iload_n 1, 1) := by decide +kernel
theorem dX6_isTwofold_13 : decode cX6_isTwofold 13 = .ok (.ldc 56, 2) := by decide +kernel
theorem dX6_isTwofold_15 : decode cX6_isTwofold 15 = .ok (.aload_n 0, 1) := by decide +kernel
theorem dX6_isTwofold_16 : decode cX6_isTwofold 16 = .ok (.getfield 41, 3) := by decide +kernel
theorem dX6_isTwofold_19 : decode cX6_isTwofold 19 = .ok (.invokevirtual 134, 3) := by decide +kernel
theorem dX6_isTwofold_22 : decode cX6_isTwofold 22 = .ok (.aload_n 0, 1) := by decide +kernel
theorem dX6_isTwofold_23 : decode cX6_isTwofold 23 = .ok (.getfield 16, 3) := by decide +kernel
theorem dX6_isTwofold_26 : decode cX6_isTwofold 26 = .ok (.iconst 0, 1) := by decide +kernel
theorem dX6_isTwofold_27 : decode cX6_isTwofold 27 = .ok (.invokevirtual 170, 3) := by decide +kernel
theorem dX6_isTwofold_30 : decode cX6_isTwofold 30 = .ok (.invokestatic 220, 3) := by decide +kernel
theorem dX6_isTwofold_33 : decode cX6_isTwofold 33 = .ok (.aload_n 0, 1) := by decide +kernel
theorem dX6_isTwofold_34 : decode cX6_isTwofold 34 = .ok (.getfield 41, 3) := by decide +kernel
theorem dX6_isTwofold_37 : decode cX6_isTwofold 37 = .ok (.if_icmp .ne 27, 3) := by decide +kernel
theorem dX6_isTwofold_40 : decode cX6_isTwofold 40 = .ok (.aload_n 0, 1) := by decide +kernel
theorem dX6_isTwofold_41 : decode cX6_isTwofold 41 = .ok (.getfield 16, 3) := by decide +kernel
theorem dX6_isTwofold_44 : decode cX6_isTwofold 44 = .ok (.iconst 1, 1) := by decide +kernel
theorem dX6_isTwofold_45 : decode cX6_isTwofold 45 = .ok (.invokevirtual 170, 3) := by decide +kernel
theorem dX6_isTwofold_48 : decode cX6_isTwofold 48 = .ok (.invokestatic 220, 3) := by decide +kernel
theorem dX6_isTwofold_51 : decode cX6_isTwofold 51 = .ok (.aload_n 0, 1) := by decide +kernel
theorem dX6_isTwofold_52 : decode cX6_isTwofold 52 = .ok (.getfield 41, 3) := by decide +kernel
theorem dX6_isTwofold_55 : decode cX6_isTwofold 55 = .ok (.iconst 1, 1) := by decide +kernel
theorem dX6_isTwofold_56 : decode cX6_isTwofold 56 = .ok (.isub, 1) := by decide +kernel
theorem dX6_isTwofold_57 : decode cX6_isTwofold 57 = .ok (.if_icmp .ne 7, 3) := by decide +kernel
theorem dX6_isTwofold_60 : decode cX6_isTwofold 60 = .ok (.iconst 1, 1) := by decide +kernel
theorem dX6_isTwofold_61 : decode cX6_isTwofold 61 = .ok (.goto 4, 3) := by decide +kernel
theorem dX6_isTwofold_64 : decode cX6_isTwofold 64 = .ok (.iconst 0, 1) := by decide +kernel
theorem dX6_isTwofold_65 : decode cX6_isTwofold 65 = .ok (.ireturn, 1) := by decide +kernel
theorem dX6_enough_0 : decode cX6_enough 0 = .ok (.iload_n 1, 1) := by decide +kernel
theorem dX6_enough_1 : decode cX6_enough 1 = .ok (.invokestatic 131, 3) := by decide +kernel
theorem dX6_enough_4 : decode cX6_enough 4 = .ok (.aload_n 0, 1) := by decide +kernel
theorem dX6_enough_5 : decode cX6_enough 5 = .ok (.getfield 16, 3) := by decide +kernel
theorem dX6_enough_8 : decode cX6_enough 8 = .ok (.aload_n 0, 1) := by decide +kernel
theorem dX6_enough_9 : decode cX6_enough 9 = .ok (.getfield 9, 3) := by decide +kernel
theorem dX6_enough_12 : decode cX6_enough 12 = .ok (.iload_n 1, 1) := by decide +kernel
theorem dX6_enough_13 : decode cX6_enough 13 = .ok (.ldc 56, 2) := by decide +kernel
theorem dX6_enough_15 : decode cX6_enough 15 = .ok (.aload_n 0, 1) := by decide +kernel
theorem dX6_enough_16 : decode cX6_enough 16 = .ok (.getfield 41, 3) := by decide +kernel
theorem dX6_enough_19 : decode cX6_enough 19 = .ok (.invokevirtual 134, 3) := by decide +kernel
theorem dX6_enough_22 : decode cX6_enough 22 = .ok (.aload_n 0, 1) := by decide +kernel
theorem dX6_enough_23 : decode cX6_enough 23 = .ok (.getfield 16, 3) := by decide +kernel
theorem dX6_enough_26 : decode cX6_enough 26 = .ok (.invokevirtual 225, 3) := by decide +kernel
theorem dX6_enough_29 : decode cX6_enough 29 = .ok (.ireturn, 1) := by decide +kernel
theorem dX6_house_0 : decode cX6_house 0 = .ok (.iload_n 1, 1) := by decide +kernel
theorem dX6_house_1 : decode cX6_house 1 = .ok (.iconst 0, 1) := by decide +kernel
theorem dX6_house_2 : decode cX6_house 2 = .ok (.iconst 2, 1) := by decide +kernel
theorem dX6_house_3 : decode cX6_house 3 = .ok (.invokestatic 63, 3) := by decide +kernel
theorem dX6_house_6 : decode cX6_house 6 = .ok (.iload_n 1, 1) := by decide +kernel
theorem dX6_house_7 : decode cX6_house 7 = .ok (.ifCond .ne 8, 3) := by decide +kernel
theorem dX6_house_10 : decode cX6_house 10 = .ok (.aload_n 0, 1) := by decide +kernel
theorem dX6_house_11 : decode cX6_house 11 = .ok (.getfield 45, 3) := by decide +kernel
theorem dX6_house_14 : decode cX6_house 14 = .ok (.ireturn, 1) := by decide +kernel
theorem dX6_house_15 : decode cX6_house 15 = .ok (.iload_n 1, 1) := by decide +kernel
theorem dX6_house_16 : decode cX6_house 16 = .ok (.iconst 1, 1) := by decide +kernel
theorem dX6_house_17 : decode cX6_house 17 = .ok (.if_icmp .ne 10, 3) := by decide +kernel
theorem dX6_house_20 : decode cX6_house 20 = .ok (.aload_n 0, 1) := by decide +kernel
theorem dX6_house_21 : decode cX6_house 21 = .ok (.getfield 48, 3) := by decide +kernel
theorem dX6_house_24 : decode cX6_house 24 = .ok (.goto 7, 3) := by decide +kernel
theorem dX6_house_27 : decode cX6_house 27 = .ok (.aload_n 0, 1) := by decide +kernel
theorem dX6_house_28 : decode cX6_house 28 = .ok (.getfield 51, 3) := by decide +kernel
theorem dX6_house_31 : decode cX6_house 31 = .ok (.ireturn, 1) := by decide +kernel
theorem dX6_knock_0 : decode cX6_knock 0 = .ok (.aload_n 0, 1) := by decide +kernel
theorem dX6_knock_1 : decode cX6_knock 1 = .ok (.dup, 1) := by decide +kernel
theorem dX6_knock_2 : decode cX6_knock 2 = .ok (.getfield 51, 3) := by decide +kernel
theorem dX6_knock_5 : decode cX6_knock 5 = .ok (.iconst 1, 1) := by decide +kernel
theorem dX6_knock_6 : decode cX6_knock 6 = .ok (.iadd, 1) := by decide +kernel
theorem dX6_knock_7 : decode cX6_knock 7 = .ok (.putfield 51, 3) := by decide +kernel
theorem dX6_knock_10 : decode cX6_knock 10 = .ok (.aload_n 0, 1) := by decide +kernel
theorem dX6_knock_11 : decode cX6_knock 11 = .ok (.getfield 51, 3) := by decide +kernel
theorem dX6_knock_14 : decode cX6_knock 14 = .ok (.ireturn, 1) := by decide +kernel
theorem dX6_isSound_0 : decode cX6_isSound 0 = .ok (.aload_n 0, 1) := by decide +kernel
theorem dX6_isSound_1 : decode cX6_isSound 1 = .ok (.invokevirtual 228, 3) := by decide +kernel
theorem dX6_isSound_4 : decode cX6_isSound 4 = .ok (.aload_n 0, 1) := by decide +kernel
theorem dX6_isSound_5 : decode cX6_isSound 5 = .ok (.invokevirtual 231, 3) := by decide +kernel
theorem dX6_isSound_8 : decode cX6_isSound 8 = .ok (.ireturn, 1) := by decide +kernel
theorem dX6_digest_0 : decode cX6_digest 0 = .ok (.aload_n 0, 1) := by decide +kernel
theorem dX6_digest_1 : decode cX6_digest 1 = .ok (.invokevirtual 228, 3) := by decide +kernel
theorem dX6_digest_4 : decode cX6_digest 4 = .ok (.ldc2_w 235, 3) := by decide +kernel
theorem dX6_digest_7 : decode cX6_digest 7 = .ok (.aload_n 0, 1) := by decide +kernel
theorem dX6_digest_8 : decode cX6_digest 8 = .ok (.getfield 41, 3) := by decide +kernel
theorem dX6_digest_11 : decode cX6_digest 11 = .ok (.i2l, 1) := by decide +kernel
theorem dX6_digest_12 : decode cX6_digest 12 = .ok (.invokestatic 237, 3) := by decide +kernel
theorem dX6_digest_15 : decode cX6_digest 15 = .ok (.lstore_n 1, 1) := by decide +kernel
theorem dX6_digest_16 : decode cX6_digest 16 = .ok (.iconst 0, 1) := by decide +kernel
theorem dX6_digest_17 : decode cX6_digest 17 = .ok (.istore_n 3, 1) := by decide +kernel
theorem dX6_digest_18 : decode cX6_digest 18 = .ok (.iload_n 3, 1) := by decide +kernel
theorem dX6_digest_19 : decode cX6_digest 19 = .ok (.bipush 6, 2) := by decide +kernel
theorem dX6_digest_21 : decode cX6_digest 21 = .ok (.if_icmp .ge 67, 3) := by decide +kernel
theorem dX6_digest_24 : decode cX6_digest 24 = .ok (.lload_n 1, 1) := by decide +kernel
theorem dX6_digest_25 : decode cX6_digest 25 = .ok (.aload_n 0, 1) := by decide +kernel
theorem dX6_digest_26 : decode cX6_digest 26 = .ok (.iload_n 3, 1) := by decide +kernel
theorem dX6_digest_27 : decode cX6_digest 27 = .ok (.invokevirtual 241, 3) := by decide +kernel
theorem dX6_digest_30 : decode cX6_digest 30 = .ok (.i2l, 1) := by decide +kernel
theorem dX6_digest_31 : decode cX6_digest 31 = .ok (.invokestatic 237, 3) := by decide +kernel
theorem dX6_digest_34 : decode cX6_digest 34 = .ok (.lstore_n 1, 1) := by decide +kernel
theorem dX6_digest_35 : decode cX6_digest 35 = .ok (.lload_n 1, 1) := by decide +kernel
theorem dX6_digest_36 : decode cX6_digest 36 = .ok (.aload_n 0, 1) := by decide +kernel
theorem dX6_digest_37 : decode cX6_digest 37 = .ok (.iload_n 3, 1) := by decide +kernel
theorem dX6_digest_38 : decode cX6_digest 38 = .ok (.invokevirtual 244, 3) := by decide +kernel
theorem dX6_digest_41 : decode cX6_digest 41 = .ok (.i2l, 1) := by decide +kernel
theorem dX6_digest_42 : decode cX6_digest 42 = .ok (.invokestatic 237, 3) := by decide +kernel
theorem dX6_digest_45 : decode cX6_digest 45 = .ok (.lstore_n 1, 1) := by decide +kernel
theorem dX6_digest_46 : decode cX6_digest 46 = .ok (.lload_n 1, 1) := by decide +kernel
theorem dX6_digest_47 : decode cX6_digest 47 = .ok (.aload_n 0, 1) := by decide +kernel
theorem dX6_digest_48 : decode cX6_digest 48 = .ok (.iload_n 3, 1) := by decide +kernel
theorem dX6_digest_49 : decode cX6_digest 49 = .ok (.invokevirtual 247, 3) := by decide +kernel
theorem dX6_digest_52 : decode cX6_digest 52 = .ok (.i2l, 1) := by decide +kernel
theorem dX6_digest_53 : decode cX6_digest 53 = .ok (.invokestatic 237, 3) := by decide +kernel
theorem dX6_digest_56 : decode cX6_digest 56 = .ok (.lstore_n 1, 1) := by decide +kernel
theorem dX6_digest_57 : decode cX6_digest 57 = .ok (.lload_n 1, 1) := by decide +kernel
theorem dX6_digest_58 : decode cX6_digest 58 = .ok (.aload_n 0, 1) := by decide +kernel
theorem dX6_digest_59 : decode cX6_digest 59 = .ok (.iload_n 3, 1) := by decide +kernel
theorem dX6_digest_60 : decode cX6_digest 60 = .ok (.invokevirtual 250, 3) := by decide +kernel
theorem dX6_digest_63 : decode cX6_digest 63 = .ok (.i2l, 1) := by decide +kernel
theorem dX6_digest_64 : decode cX6_digest 64 = .ok (.invokestatic 237, 3) := by decide +kernel
theorem dX6_digest_67 : decode cX6_digest 67 = .ok (.lstore_n 1, 1) := by decide +kernel
theorem dX6_digest_68 : decode cX6_digest 68 = .ok (.lload_n 1, 1) := by decide +kernel
theorem dX6_digest_69 : decode cX6_digest 69 = .ok (.aload_n 0, 1) := by decide +kernel
theorem dX6_digest_70 : decode cX6_digest 70 = .ok (.iload_n 3, 1) := by decide +kernel
theorem dX6_digest_71 : decode cX6_digest 71 = .ok (.invokevirtual 253, 3) := by decide +kernel
theorem dX6_digest_74 : decode cX6_digest 74 = .ok (.invokevirtual 257, 3) := by decide +kernel
theorem dX6_digest_77 : decode cX6_digest 77 = .ok (.i2l, 1) := by decide +kernel
theorem dX6_digest_78 : decode cX6_digest 78 = .ok (.invokestatic 237, 3) := by decide +kernel
theorem dX6_digest_81 : decode cX6_digest 81 = .ok (.lstore_n 1, 1) := by decide +kernel
theorem dX6_digest_82 : decode cX6_digest 82 = .ok (.iinc 3 1, 3) := by decide +kernel
theorem dX6_digest_85 : decode cX6_digest 85 = .ok (.goto (-67), 3) := by decide +kernel
theorem dX6_digest_88 : decode cX6_digest 88 = .ok (.lload_n 1, 1) := by decide +kernel
theorem dX6_digest_89 : decode cX6_digest 89 = .ok (.aload_n 0, 1) := by decide +kernel
theorem dX6_digest_90 : decode cX6_digest 90 = .ok (.getfield 16, 3) := by decide +kernel
theorem dX6_digest_93 : decode cX6_digest 93 = .ok (.invokevirtual 138, 3) := by decide +kernel
theorem dX6_digest_96 : decode cX6_digest 96 = .ok (.i2l, 1) := by decide +kernel
theorem dX6_digest_97 : decode cX6_digest 97 = .ok (.invokestatic 237, 3) := by decide +kernel
theorem dX6_digest_100 : decode cX6_digest 100 = .ok (.lstore_n 1, 1) := by decide +kernel
theorem dX6_digest_101 : decode cX6_digest 101 = .ok (.lload_n 1, 1) := by decide +kernel
theorem dX6_digest_102 : decode cX6_digest 102 = .ok (.aload_n 0, 1) := by decide +kernel
theorem dX6_digest_103 : decode cX6_digest 103 = .ok (.bipush 63, 2) := by decide +kernel
theorem dX6_digest_105 : decode cX6_digest 105 = .ok (.invokevirtual 262, 3) := by decide +kernel
theorem dX6_digest_108 : decode cX6_digest 108 = .ok (.i2l, 1) := by decide +kernel
theorem dX6_digest_109 : decode cX6_digest 109 = .ok (.invokestatic 237, 3) := by decide +kernel
theorem dX6_digest_112 : decode cX6_digest 112 = .ok (.lstore_n 1, 1) := by decide +kernel
theorem dX6_digest_113 : decode cX6_digest 113 = .ok (.lload_n 1, 1) := by decide +kernel
theorem dX6_digest_114 : decode cX6_digest 114 = .ok (.aload_n 0, 1) := by decide +kernel
theorem dX6_digest_115 : decode cX6_digest 115 = .ok (.getfield 23, 3) := by decide +kernel
theorem dX6_digest_118 : decode cX6_digest 118 = .ok (.invokevirtual 199, 3) := by decide +kernel
theorem dX6_digest_121 : decode cX6_digest 121 = .ok (.i2l, 1) := by decide +kernel
theorem dX6_digest_122 : decode cX6_digest 122 = .ok (.invokestatic 237, 3) := by decide +kernel
theorem dX6_digest_125 : decode cX6_digest 125 = .ok (.lstore_n 1, 1) := by decide +kernel
theorem dX6_digest_126 : decode cX6_digest 126 = .ok (.lload_n 1, 1) := by decide +kernel
theorem dX6_digest_127 : decode cX6_digest 127 = .ok (.aload_n 0, 1) := by decide +kernel
theorem dX6_digest_128 : decode cX6_digest 128 = .ok (.getfield 16, 3) := by decide +kernel
theorem dX6_digest_131 : decode cX6_digest 131 = .ok (.invokevirtual 225, 3) := by decide +kernel
theorem dX6_digest_134 : decode cX6_digest 134 = .ok (.i2l, 1) := by decide +kernel
theorem dX6_digest_135 : decode cX6_digest 135 = .ok (.invokestatic 237, 3) := by decide +kernel
theorem dX6_digest_138 : decode cX6_digest 138 = .ok (.lstore_n 1, 1) := by decide +kernel
theorem dX6_digest_139 : decode cX6_digest 139 = .ok (.iconst 0, 1) := by decide +kernel
theorem dX6_digest_140 : decode cX6_digest 140 = .ok (.istore_n 3, 1) := by decide +kernel
theorem dX6_digest_141 : decode cX6_digest 141 = .ok (.iload_n 3, 1) := by decide +kernel
theorem dX6_digest_142 : decode cX6_digest 142 = .ok (.aload_n 0, 1) := by decide +kernel
theorem dX6_digest_143 : decode cX6_digest 143 = .ok (.getfield 41, 3) := by decide +kernel
theorem dX6_digest_146 : decode cX6_digest 146 = .ok (.if_icmp .ge 23, 3) := by decide +kernel
theorem dX6_digest_149 : decode cX6_digest 149 = .ok (.lload_n 1, 1) := by decide +kernel
theorem dX6_digest_150 : decode cX6_digest 150 = .ok (.aload_n 0, 1) := by decide +kernel
theorem dX6_digest_151 : decode cX6_digest 151 = .ok (.getfield 16, 3) := by decide +kernel
theorem dX6_digest_154 : decode cX6_digest 154 = .ok (.iload_n 3, 1) := by decide +kernel
theorem dX6_digest_155 : decode cX6_digest 155 = .ok (.invokevirtual 170, 3) := by decide +kernel
theorem dX6_digest_158 : decode cX6_digest 158 = .ok (.i2l, 1) := by decide +kernel
theorem dX6_digest_159 : decode cX6_digest 159 = .ok (.invokestatic 237, 3) := by decide +kernel
theorem dX6_digest_162 : decode cX6_digest 162 = .ok (.lstore_n 1, 1) := by decide +kernel
theorem dX6_digest_163 : decode cX6_digest 163 = .ok (.iinc 3 1, 3) := by decide +kernel
theorem dX6_digest_166 : decode cX6_digest 166 = .ok (.goto (-25), 3) := by decide +kernel
theorem dX6_digest_169 : decode cX6_digest 169 = .ok (.iconst 0, 1) := by decide +kernel
theorem dX6_digest_170 : decode cX6_digest 170 = .ok (.istore_n 3, 1) := by decide +kernel
theorem dX6_digest_171 : decode cX6_digest 171 = .ok (.iload_n 3, 1) := by decide +kernel
theorem dX6_digest_172 : decode cX6_digest 172 = .ok (.iconst 2, 1) := by decide +kernel
theorem dX6_digest_173 : decode cX6_digest 173 = .ok (.if_icmp .gt 20, 3) := by decide +kernel
theorem dX6_digest_176 : decode cX6_digest 176 = .ok (.lload_n 1, 1) := by decide +kernel
theorem dX6_digest_177 : decode cX6_digest 177 = .ok (.aload_n 0, 1) := by decide +kernel
theorem dX6_digest_178 : decode cX6_digest 178 = .ok (.iload_n 3, 1) := by decide +kernel
theorem dX6_digest_179 : decode cX6_digest 179 = .ok (.invokevirtual 265, 3) := by decide +kernel
theorem dX6_digest_182 : decode cX6_digest 182 = .ok (.i2l, 1) := by decide +kernel
theorem dX6_digest_183 : decode cX6_digest 183 = .ok (.invokestatic 237, 3) := by decide +kernel
theorem dX6_digest_186 : decode cX6_digest 186 = .ok (.lstore_n 1, 1) := by decide +kernel
theorem dX6_digest_187 : decode cX6_digest 187 = .ok (.iinc 3 1, 3) := by decide +kernel
theorem dX6_digest_190 : decode cX6_digest 190 = .ok (.goto (-19), 3) := by decide +kernel
theorem dX6_digest_193 : decode cX6_digest 193 = .ok (.lload_n 1, 1) := by decide +kernel
theorem dX6_digest_194 : decode cX6_digest 194 = .ok (.aload_n 0, 1) := by decide +kernel
theorem dX6_digest_195 : decode cX6_digest 195 = .ok (.invokevirtual 231, 3) := by decide +kernel
theorem dX6_digest_198 : decode cX6_digest 198 = .ok (.ifCond .eq 7, 3) := by decide +kernel
theorem dX6_digest_201 : decode cX6_digest 201 = .ok (.lconst 1, 1) := by decide +kernel
theorem dX6_digest_202 : decode cX6_digest 202 = .ok (.goto 4, 3) := by decide +kernel
theorem dX6_digest_205 : decode cX6_digest 205 = .ok (.lconst 0, 1) := by decide +kernel
theorem dX6_digest_206 : decode cX6_digest 206 = .ok (.invokestatic 237, 3) := by decide +kernel
theorem dX6_digest_209 : decode cX6_digest 209 = .ok (.lreturn, 1) := by decide +kernel
theorem dX6_keep_0 : decode cX6_keep 0 = .ok (.aload_n 0, 1) := by decide +kernel
theorem dX6_keep_1 : decode cX6_keep 1 = .ok (.getfield 9, 3) := by decide +kernel
theorem dX6_keep_4 : decode cX6_keep 4 = .ok (.iload_n 1, 1) := by decide +kernel
theorem dX6_keep_5 : decode cX6_keep 5 = .ok (.iload_n 2, 1) := by decide +kernel
theorem dX6_keep_6 : decode cX6_keep 6 = .ok (.iastore, 1) := by decide +kernel
theorem dX6_keep_7 : decode cX6_keep 7 = .ok (.aload_n 0, 1) := by decide +kernel
theorem dX6_keep_8 : decode cX6_keep 8 = .ok (.dup, 1) := by decide +kernel
theorem dX6_keep_9 : decode cX6_keep 9 = .ok (.getfield 45, 3) := by decide +kernel
theorem dX6_keep_12 : decode cX6_keep 12 = .ok (.iconst 1, 1) := by decide +kernel
theorem dX6_keep_13 : decode cX6_keep 13 = .ok (.iadd, 1) := by decide +kernel
theorem dX6_keep_14 : decode cX6_keep 14 = .ok (.putfield 45, 3) := by decide +kernel
theorem dX6_keep_17 : decode cX6_keep 17 = .ok (.return_, 1) := by decide +kernel
theorem dX6_keepForSign_0 : decode cX6_keepForSign 0 = .ok (.aload_n 0, 1) := by decide +kernel
theorem dX6_keepForSign_1 : decode cX6_keepForSign 1 = .ok (.iload_n 1, 1) := by decide +kernel
theorem dX6_keepForSign_2 : decode cX6_keepForSign 2 = .ok (.iload_n 2, 1) := by decide +kernel
theorem dX6_keepForSign_3 : decode cX6_keepForSign 3 = .ok (.invokevirtual 82, 3) := by decide +kernel
theorem dX6_keepForSign_6 : decode cX6_keepForSign 6 = .ok (.iload_n 2, 1) := by decide +kernel
theorem dX6_keepForSign_7 : decode cX6_keepForSign 7 = .ok (.aload_n 0, 1) := by decide +kernel
theorem dX6_keepForSign_8 : decode cX6_keepForSign 8 = .ok (.getfield 41, 3) := by decide +kernel
theorem dX6_keepForSign_11 : decode cX6_keepForSign 11 = .ok (.invokestatic 167, 3) := by decide +kernel
theorem dX6_keepForSign_14 : decode cX6_keepForSign 14 = .ok (.ireturn, 1) := by decide +kernel
theorem dX6_keepForNumber_0 : decode cX6_keepForNumber 0 = .ok (.aload_n 0, 1) := by decide +kernel
theorem dX6_keepForNumber_1 : decode cX6_keepForNumber 1 = .ok (.iload_n 1, 1) := by decide +kernel
theorem dX6_keepForNumber_2 : decode cX6_keepForNumber 2 = .ok (.iload_n 2, 1) := by decide +kernel
theorem dX6_keepForNumber_3 : decode cX6_keepForNumber 3 = .ok (.invokevirtual 82, 3) := by decide +kernel
theorem dX6_keepForNumber_6 : decode cX6_keepForNumber 6 = .ok (.iload_n 2, 1) := by decide +kernel
theorem dX6_keepForNumber_7 : decode cX6_keepForNumber 7 = .ok (.aload_n 0, 1) := by decide +kernel
theorem dX6_keepForNumber_8 : decode cX6_keepForNumber 8 = .ok (.getfield 41, 3) := by decide +kernel
theorem dX6_keepForNumber_11 : decode cX6_keepForNumber 11 = .ok (.invokestatic 75, 3) := by decide +kernel
theorem dX6_keepForNumber_14 : decode cX6_keepForNumber 14 = .ok (.ireturn, 1) := by decide +kernel
theorem dX6_cannot_0 : decode cX6_cannot 0 = .ok (.aload_n 0, 1) := by decide +kernel
theorem dX6_cannot_1 : decode cX6_cannot 1 = .ok (.dup, 1) := by decide +kernel
theorem dX6_cannot_2 : decode cX6_cannot 2 = .ok (.getfield 48, 3) := by decide +kernel
theorem dX6_cannot_5 : decode cX6_cannot 5 = .ok (.iconst 1, 1) := by decide +kernel
theorem dX6_cannot_6 : decode cX6_cannot 6 = .ok (.iadd, 1) := by decide +kernel
theorem dX6_cannot_7 : decode cX6_cannot 7 = .ok (.putfield 48, 3) := by decide +kernel
theorem dX6_cannot_10 : decode cX6_cannot 10 = .ok (.bipush (-9), 2) := by decide +kernel
theorem dX6_cannot_12 : decode cX6_cannot 12 = .ok (.ireturn, 1) := by decide +kernel
theorem dX6_raiseAll_0 : decode cX6_raiseAll 0 = .ok (.aload_n 0, 1) := by decide +kernel
theorem dX6_raiseAll_1 : decode cX6_raiseAll 1 = .ok (.getfield 16, 3) := by decide +kernel
theorem dX6_raiseAll_4 : decode cX6_raiseAll 4 = .ok (.aload_n 0, 1) := by decide +kernel
theorem dX6_raiseAll_5 : decode cX6_raiseAll 5 = .ok (.getfield 9, 3) := by decide +kernel
theorem dX6_raiseAll_8 : decode cX6_raiseAll 8 = .ok (.bipush 63, 2) := by decide +kernel
theorem dX6_raiseAll_10 : decode cX6_raiseAll 10 = .ok (.aload_n 0, 1) := by decide +kernel
theorem dX6_raiseAll_11 : decode cX6_raiseAll 11 = .ok (.getfield 9, 3) := by decide +kernel
theorem dX6_raiseAll_14 : decode cX6_raiseAll 14 = .ok (.iconst 0, 1) := by decide +kernel
theorem dX6_raiseAll_15 : decode cX6_raiseAll 15 = .ok (.iaload, 1) := by decide +kernel
theorem dX6_raiseAll_16 : decode cX6_raiseAll 16 = .ok (.aload_n 0, 1) := by decide +kernel
theorem dX6_raiseAll_17 : decode cX6_raiseAll 17 = .ok (.getfield 41, 3) := by decide +kernel
theorem dX6_raiseAll_20 : decode cX6_raiseAll 20 = .ok (.invokevirtual 134, 3) := by decide +kernel
theorem dX6_raiseAll_23 : decode cX6_raiseAll 23 = .ok (.aload_n 0, 1) := by decide +kernel
theorem dX6_raiseAll_24 : decode cX6_raiseAll 24 = .ok (.getfield 23, 3) := by decide +kernel
theorem dX6_raiseAll_27 : decode cX6_raiseAll 27 = .ok (.aload_n 0, 1) := by decide +kernel
theorem dX6_raiseAll_28 : decode cX6_raiseAll 28 = .ok (.getfield 9, 3) := by decide +kernel
theorem dX6_raiseAll_31 : decode cX6_raiseAll 31 = .ok (.bipush 63, 2) := by decide +kernel
theorem dX6_raiseAll_33 : decode cX6_raiseAll 33 = .ok (.aload_n 0, 1) := by decide +kernel
theorem dX6_raiseAll_34 : decode cX6_raiseAll 34 = .ok (.getfield 41, 3) := by decide +kernel
theorem dX6_raiseAll_37 : decode cX6_raiseAll 37 = .ok (.invokevirtual 177, 3) := by decide +kernel
theorem dX6_raiseAll_40 : decode cX6_raiseAll 40 = .ok (.return_, 1) := by decide +kernel
theorem dX6_allAgrees_0 : decode cX6_allAgrees 0 = .ok (.aload_n 0, 1) := by decide +kernel
theorem dX6_allAgrees_1 : decode cX6_allAgrees 1 = .ok (.invokevirtual 268, 3) := by decide +kernel
theorem dX6_allAgrees_4 : decode cX6_allAgrees 4 = .ok (.ifCond .eq 51, 3) := by decide +kernel
theorem dX6_allAgrees_7 : decode cX6_allAgrees 7 = .ok (.aload_n 0, 1) := by decide +kernel
theorem dX6_allAgrees_8 : decode cX6_allAgrees 8 = .ok (.invokevirtual 271, 3) := by decide +kernel
theorem dX6_allAgrees_11 : decode cX6_allAgrees 11 = .ok (.ifCond .eq 44, 3) := by decide +kernel
theorem dX6_allAgrees_14 : decode cX6_allAgrees 14 = .ok (.aload_n 0, 1) := by decide +kernel
theorem dX6_allAgrees_15 : decode cX6_allAgrees 15 = .ok (.invokevirtual 274, 3) := by decide +kernel
theorem dX6_allAgrees_18 : decode cX6_allAgrees 18 = .ok (.ifCond .eq 37, 3) := by decide +kernel
theorem dX6_allAgrees_21 : decode cX6_allAgrees 21 = .ok (.aload_n 0, 1) := by decide +kernel
theorem dX6_allAgrees_22 : decode cX6_allAgrees 22 = .ok (.getfield 16, 3) := by decide +kernel
theorem dX6_allAgrees_25 : decode cX6_allAgrees 25 = .ok (.aload_n 0, 1) := by decide +kernel
theorem dX6_allAgrees_26 : decode cX6_allAgrees 26 = .ok (.getfield 9, 3) := by decide +kernel
theorem dX6_allAgrees_29 : decode cX6_allAgrees 29 = .ok (.bipush 63, 2) := by decide +kernel
theorem dX6_allAgrees_31 : decode cX6_allAgrees 31 = .ok (.invokevirtual 209, 3) := by decide +kernel
theorem dX6_allAgrees_34 : decode cX6_allAgrees 34 = .ok (.ifCond .eq 21, 3) := by decide +kernel
theorem dX6_allAgrees_37 : decode cX6_allAgrees 37 = .ok (.aload_n 0, 1) := by decide +kernel
theorem dX6_allAgrees_38 : decode cX6_allAgrees 38 = .ok (.invokevirtual 277, 3) := by decide +kernel
theorem dX6_allAgrees_41 : decode cX6_allAgrees 41 = .ok (.ifCond .eq 14, 3) := by decide +kernel
theorem dX6_allAgrees_44 : decode cX6_allAgrees 44 = .ok (.aload_n 0, 1) := by decide +kernel
theorem dX6_allAgrees_45 : decode cX6_allAgrees 45 = .ok (.invokevirtual 280, 3) := by decide +kernel
theorem dX6_allAgrees_48 : decode cX6_allAgrees 48 = .ok (.ifCond .eq 7, 3) := by decide +kernel
theorem dX6_allAgrees_51 : decode cX6_allAgrees 51 = .ok (.iconst 1, 1) := by decide +kernel
theorem dX6_allAgrees_52 : decode cX6_allAgrees 52 = .ok (.goto 4, 3) := by decide +kernel
theorem dX6_allAgrees_55 : decode cX6_allAgrees 55 = .ok (.iconst 0, 1) := by decide +kernel
theorem dX6_allAgrees_56 : decode cX6_allAgrees 56 = .ok (.ireturn, 1) := by decide +kernel
theorem dX6_sizesAgree_0 : decode cX6_sizesAgree 0 = .ok (.aload_n 0, 1) := by decide +kernel
theorem dX6_sizesAgree_1 : decode cX6_sizesAgree 1 = .ok (.getfield 16, 3) := by decide +kernel
theorem dX6_sizesAgree_4 : decode cX6_sizesAgree 4 = .ok (.invokevirtual 138, 3) := by decide +kernel
theorem dX6_sizesAgree_7 : decode cX6_sizesAgree 7 = .ok (.aload_n 0, 1) := by decide +kernel
theorem dX6_sizesAgree_8 : decode cX6_sizesAgree 8 = .ok (.getfield 23, 3) := by decide +kernel
theorem dX6_sizesAgree_11 : decode cX6_sizesAgree 11 = .ok (.invokevirtual 283, 3) := by decide +kernel
theorem dX6_sizesAgree_14 : decode cX6_sizesAgree 14 = .ok (.if_icmp .ne 27, 3) := by decide +kernel
theorem dX6_sizesAgree_17 : decode cX6_sizesAgree 17 = .ok (.aload_n 0, 1) := by decide +kernel
theorem dX6_sizesAgree_18 : decode cX6_sizesAgree 18 = .ok (.getfield 16, 3) := by decide +kernel
theorem dX6_sizesAgree_21 : decode cX6_sizesAgree 21 = .ok (.invokevirtual 138, 3) := by decide +kernel
theorem dX6_sizesAgree_24 : decode cX6_sizesAgree 24 = .ok (.aload_n 0, 1) := by decide +kernel
theorem dX6_sizesAgree_25 : decode cX6_sizesAgree 25 = .ok (.getfield 41, 3) := by decide +kernel
theorem dX6_sizesAgree_28 : decode cX6_sizesAgree 28 = .ok (.invokestatic 71, 3) := by decide +kernel
theorem dX6_sizesAgree_31 : decode cX6_sizesAgree 31 = .ok (.invokestatic 284, 3) := by decide +kernel
theorem dX6_sizesAgree_34 : decode cX6_sizesAgree 34 = .ok (.ifCond .eq 7, 3) := by decide +kernel
theorem dX6_sizesAgree_37 : decode cX6_sizesAgree 37 = .ok (.iconst 1, 1) := by decide +kernel
theorem dX6_sizesAgree_38 : decode cX6_sizesAgree 38 = .ok (.goto 4, 3) := by decide +kernel
theorem dX6_sizesAgree_41 : decode cX6_sizesAgree 41 = .ok (.iconst 0, 1) := by decide +kernel
theorem dX6_sizesAgree_42 : decode cX6_sizesAgree 42 = .ok (.ireturn, 1) := by decide +kernel
theorem dX6_ranksAgree_0 : decode cX6_ranksAgree 0 = .ok (.aload_n 0, 1) := by decide +kernel
theorem dX6_ranksAgree_1 : decode cX6_ranksAgree 1 = .ok (.getfield 16, 3) := by decide +kernel
theorem dX6_ranksAgree_4 : decode cX6_ranksAgree 4 = .ok (.invokevirtual 138, 3) := by decide +kernel
theorem dX6_ranksAgree_7 : decode cX6_ranksAgree 7 = .ok (.istore_n 1, 1) := by decide +kernel
theorem dX6_ranksAgree_8 : decode cX6_ranksAgree 8 = .ok (.iconst 0, 1) := by decide +kernel
theorem dX6_ranksAgree_9 : decode cX6_ranksAgree 9 = .ok (.istore_n 2, 1) := by decide +kernel
theorem dX6_ranksAgree_10 : decode cX6_ranksAgree 10 = .ok (.iload_n 2, 1) := by decide +kernel
theorem dX6_ranksAgree_11 : decode cX6_ranksAgree 11 = .ok (.iload_n 1, 1) := by decide +kernel
theorem dX6_ranksAgree_12 : decode cX6_ranksAgree 12 = .ok (.if_icmp .ge 45, 3) := by decide +kernel
theorem dX6_ranksAgree_15 : decode cX6_ranksAgree 15 = .ok (.aload_n 0, 1) := by decide +kernel
theorem dX6_ranksAgree_16 : decode cX6_ranksAgree 16 = .ok (.getfield 16, 3) := by decide +kernel
theorem dX6_ranksAgree_19 : decode cX6_ranksAgree 19 = .ok (.iload_n 2, 1) := by decide +kernel
theorem dX6_ranksAgree_20 : decode cX6_ranksAgree 20 = .ok (.ldc 56, 2) := by decide +kernel
theorem dX6_ranksAgree_22 : decode cX6_ranksAgree 22 = .ok (.invokevirtual 141, 3) := by decide +kernel
theorem dX6_ranksAgree_25 : decode cX6_ranksAgree 25 = .ok (.istore_n 3, 1) := by decide +kernel
theorem dX6_ranksAgree_26 : decode cX6_ranksAgree 26 = .ok (.aload_n 0, 1) := by decide +kernel
theorem dX6_ranksAgree_27 : decode cX6_ranksAgree 27 = .ok (.getfield 16, 3) := by decide +kernel
theorem dX6_ranksAgree_30 : decode cX6_ranksAgree 30 = .ok (.iload_n 3, 1) := by decide +kernel
theorem dX6_ranksAgree_31 : decode cX6_ranksAgree 31 = .ok (.invokevirtual 184, 3) := by decide +kernel
theorem dX6_ranksAgree_34 : decode cX6_ranksAgree 34 = .ok (.iload_n 2, 1) := by decide +kernel
theorem dX6_ranksAgree_35 : decode cX6_ranksAgree 35 = .ok (.if_icmp .ne 14, 3) := by decide +kernel
theorem dX6_ranksAgree_38 : decode cX6_ranksAgree 38 = .ok (.iload_n 3, 1) := by decide +kernel
theorem dX6_ranksAgree_39 : decode cX6_ranksAgree 39 = .ok (.invokestatic 164, 3) := by decide +kernel
theorem dX6_ranksAgree_42 : decode cX6_ranksAgree 42 = .ok (.iload_n 1, 1) := by decide +kernel
theorem dX6_ranksAgree_43 : decode cX6_ranksAgree 43 = .ok (.invokestatic 284, 3) := by decide +kernel
theorem dX6_ranksAgree_46 : decode cX6_ranksAgree 46 = .ok (.ifCond .ne 5, 3) := by decide +kernel
theorem dX6_ranksAgree_49 : decode cX6_ranksAgree 49 = .ok (.iconst 0, 1) := by decide +kernel
theorem dX6_ranksAgree_50 : decode cX6_ranksAgree 50 = .ok (.ireturn, 1) := by decide +kernel
theorem dX6_ranksAgree_51 : decode cX6_ranksAgree 51 = .ok (.iinc 2 1, 3) := by decide +kernel
theorem dX6_ranksAgree_54 : decode cX6_ranksAgree 54 = .ok (.goto (-44), 3) := by decide +kernel
theorem dX6_ranksAgree_57 : decode cX6_ranksAgree 57 = .ok (.iconst 1, 1) := by decide +kernel
theorem dX6_ranksAgree_58 : decode cX6_ranksAgree 58 = .ok (.ireturn, 1) := by decide +kernel
theorem dX6_signsAgree_0 : decode cX6_signsAgree 0 = .ok (.aload_n 0, 1) := by decide +kernel
theorem dX6_signsAgree_1 : decode cX6_signsAgree 1 = .ok (.getfield 23, 3) := by decide +kernel
theorem dX6_signsAgree_4 : decode cX6_signsAgree 4 = .ok (.invokevirtual 199, 3) := by decide +kernel
theorem dX6_signsAgree_7 : decode cX6_signsAgree 7 = .ok (.istore_n 1, 1) := by decide +kernel
theorem dX6_signsAgree_8 : decode cX6_signsAgree 8 = .ok (.iload_n 1, 1) := by decide +kernel
theorem dX6_signsAgree_9 : decode cX6_signsAgree 9 = .ok (.aload_n 0, 1) := by decide +kernel
theorem dX6_signsAgree_10 : decode cX6_signsAgree 10 = .ok (.getfield 23, 3) := by decide +kernel
theorem dX6_signsAgree_13 : decode cX6_signsAgree 13 = .ok (.invokevirtual 283, 3) := by decide +kernel
theorem dX6_signsAgree_16 : decode cX6_signsAgree 16 = .ok (.if_icmp .eq 16, 3) := by decide +kernel
theorem dX6_signsAgree_19 : decode cX6_signsAgree 19 = .ok (.iconst 2, 1) := by decide +kernel
theorem dX6_signsAgree_20 : decode cX6_signsAgree 20 = .ok (.iload_n 1, 1) := by decide +kernel
theorem dX6_signsAgree_21 : decode cX6_signsAgree 21 = .ok (.imul, 1) := by decide +kernel
theorem dX6_signsAgree_22 : decode cX6_signsAgree 22 = .ok (.aload_n 0, 1) := by decide +kernel
theorem dX6_signsAgree_23 : decode cX6_signsAgree 23 = .ok (.getfield 23, 3) := by decide +kernel
theorem dX6_signsAgree_26 : decode cX6_signsAgree 26 = .ok (.invokevirtual 283, 3) := by decide +kernel
theorem dX6_signsAgree_29 : decode cX6_signsAgree 29 = .ok (.if_icmp .ne 7, 3) := by decide +kernel
theorem dX6_signsAgree_32 : decode cX6_signsAgree 32 = .ok (.iconst 1, 1) := by decide +kernel
theorem dX6_signsAgree_33 : decode cX6_signsAgree 33 = .ok (.goto 4, 3) := by decide +kernel
theorem dX6_signsAgree_36 : decode cX6_signsAgree 36 = .ok (.iconst 0, 1) := by decide +kernel
theorem dX6_signsAgree_37 : decode cX6_signsAgree 37 = .ok (.ireturn, 1) := by decide +kernel
theorem dX6_colouringsAgree_0 : decode cX6_colouringsAgree 0 = .ok (.aload_n 0, 1) := by decide +kernel
theorem dX6_colouringsAgree_1 : decode cX6_colouringsAgree 1 = .ok (.getfield 23, 3) := by decide +kernel
theorem dX6_colouringsAgree_4 : decode cX6_colouringsAgree 4 = .ok (.iconst 2, 1) := by decide +kernel
theorem dX6_colouringsAgree_5 : decode cX6_colouringsAgree 5 = .ok (.invokevirtual 202, 3) := by decide +kernel
theorem dX6_colouringsAgree_8 : decode cX6_colouringsAgree 8 = .ok (.aload_n 0, 1) := by decide +kernel
theorem dX6_colouringsAgree_9 : decode cX6_colouringsAgree 9 = .ok (.getfield 37, 3) := by decide +kernel
theorem dX6_colouringsAgree_12 : decode cX6_colouringsAgree 12 = .ok (.aload_n 0, 1) := by decide +kernel
theorem dX6_colouringsAgree_13 : decode cX6_colouringsAgree 13 = .ok (.getfield 9, 3) := by decide +kernel
theorem dX6_colouringsAgree_16 : decode cX6_colouringsAgree 16 = .ok (.bipush 63, 2) := by decide +kernel
theorem dX6_colouringsAgree_18 : decode cX6_colouringsAgree 18 = .ok (.iconst 2, 1) := by decide +kernel
theorem dX6_colouringsAgree_19 : decode cX6_colouringsAgree 19 = .ok (.aload_n 0, 1) := by decide +kernel
theorem dX6_colouringsAgree_20 : decode cX6_colouringsAgree 20 = .ok (.getfield 41, 3) := by decide +kernel
theorem dX6_colouringsAgree_23 : decode cX6_colouringsAgree 23 = .ok (.invokevirtual 205, 3) := by decide +kernel
theorem dX6_colouringsAgree_26 : decode cX6_colouringsAgree 26 = .ok (.if_icmp .ne 7, 3) := by decide +kernel
theorem dX6_colouringsAgree_29 : decode cX6_colouringsAgree 29 = .ok (.iconst 1, 1) := by decide +kernel
theorem dX6_colouringsAgree_30 : decode cX6_colouringsAgree 30 = .ok (.goto 4, 3) := by decide +kernel
theorem dX6_colouringsAgree_33 : decode cX6_colouringsAgree 33 = .ok (.iconst 0, 1) := by decide +kernel
theorem dX6_colouringsAgree_34 : decode cX6_colouringsAgree 34 = .ok (.ireturn, 1) := by decide +kernel
theorem dX6_enoughSuffices_0 : decode cX6_enoughSuffices 0 = .ok (.aload_n 0, 1) := by decide +kernel
theorem dX6_enoughSuffices_1 : decode cX6_enoughSuffices 1 = .ok (.getfield 16, 3) := by decide +kernel
theorem dX6_enoughSuffices_4 : decode cX6_enoughSuffices 4 = .ok (.invokevirtual 138, 3) := by decide +kernel
theorem dX6_enoughSuffices_7 : decode cX6_enoughSuffices 7 = .ok (.istore_n 1, 1) := by decide +kernel
theorem dX6_enoughSuffices_8 : decode cX6_enoughSuffices 8 = .ok (.aload_n 0, 1) := by decide +kernel
theorem dX6_enoughSuffices_9 : decode cX6_enoughSuffices 9 = .ok (.getfield 16, 3) := by decide +kernel
theorem dX6_enoughSuffices_12 : decode cX6_enoughSuffices 12 = .ok (.invokevirtual 225, 3) := by decide +kernel
theorem dX6_enoughSuffices_15 : decode cX6_enoughSuffices 15 = .ok (.istore_n 2, 1) := by decide +kernel
theorem dX6_enoughSuffices_16 : decode cX6_enoughSuffices 16 = .ok (.aload_n 0, 1) := by decide +kernel
theorem dX6_enoughSuffices_17 : decode cX6_enoughSuffices 17 = .ok (.getfield 16, 3) := by decide +kernel
theorem dX6_enoughSuffices_20 : decode cX6_enoughSuffices 20 = .ok (.aload_n 0, 1) := by decide +kernel
theorem dX6_enoughSuffices_21 : decode cX6_enoughSuffices 21 = .ok (.getfield 9, 3) := by decide +kernel
theorem dX6_enoughSuffices_24 : decode cX6_enoughSuffices 24 = .ok (.iload_n 2, 1) := by decide +kernel
theorem dX6_enoughSuffices_25 : decode cX6_enoughSuffices 25 = .ok (.aload_n 0, 1) := by decide +kernel
theorem dX6_enoughSuffices_26 : decode cX6_enoughSuffices 26 = .ok (.getfield 9, 3) := by decide +kernel
theorem dX6_enoughSuffices_29 : decode cX6_enoughSuffices 29 = .ok (.iconst 0, 1) := by decide +kernel
theorem dX6_enoughSuffices_30 : decode cX6_enoughSuffices 30 = .ok (.iaload, 1) := by decide +kernel
theorem dX6_enoughSuffices_31 : decode cX6_enoughSuffices 31 = .ok (.aload_n 0, 1) := by decide +kernel
theorem dX6_enoughSuffices_32 : decode cX6_enoughSuffices 32 = .ok (.getfield 41, 3) := by decide +kernel
theorem dX6_enoughSuffices_35 : decode cX6_enoughSuffices 35 = .ok (.invokevirtual 134, 3) := by decide +kernel
theorem dX6_enoughSuffices_38 : decode cX6_enoughSuffices 38 = .ok (.aload_n 0, 1) := by decide +kernel
theorem dX6_enoughSuffices_39 : decode cX6_enoughSuffices 39 = .ok (.getfield 16, 3) := by decide +kernel
theorem dX6_enoughSuffices_42 : decode cX6_enoughSuffices 42 = .ok (.invokevirtual 138, 3) := by decide +kernel
theorem dX6_enoughSuffices_45 : decode cX6_enoughSuffices 45 = .ok (.iload_n 1, 1) := by decide +kernel
theorem dX6_enoughSuffices_46 : decode cX6_enoughSuffices 46 = .ok (.if_icmp .ne 17, 3) := by decide +kernel
theorem dX6_enoughSuffices_49 : decode cX6_enoughSuffices 49 = .ok (.iload_n 1, 1) := by decide +kernel
theorem dX6_enoughSuffices_50 : decode cX6_enoughSuffices 50 = .ok (.iconst 1, 1) := by decide +kernel
theorem dX6_enoughSuffices_51 : decode cX6_enoughSuffices 51 = .ok (.iload_n 2, 1) := by decide +kernel
theorem dX6_enoughSuffices_52 : decode cX6_enoughSuffices 52 = .ok (.invokestatic 220, 3) := by decide +kernel
theorem dX6_enoughSuffices_55 : decode cX6_enoughSuffices 55 = .ok (.ishl, 1) := by decide +kernel
theorem dX6_enoughSuffices_56 : decode cX6_enoughSuffices 56 = .ok (.if_icmp .lt 7, 3) := by decide +kernel
theorem dX6_enoughSuffices_59 : decode cX6_enoughSuffices 59 = .ok (.iconst 1, 1) := by decide +kernel
theorem dX6_enoughSuffices_60 : decode cX6_enoughSuffices 60 = .ok (.goto 4, 3) := by decide +kernel
theorem dX6_enoughSuffices_63 : decode cX6_enoughSuffices 63 = .ok (.iconst 0, 1) := by decide +kernel
theorem dX6_enoughSuffices_64 : decode cX6_enoughSuffices 64 = .ok (.ireturn, 1) := by decide +kernel
theorem dX6_needCell_0 : decode cX6_needCell 0 = .ok (.iload_n 0, 1) := by decide +kernel
theorem dX6_needCell_1 : decode cX6_needCell 1 = .ok (.ifCond .lt 9, 3) := by decide +kernel
theorem dX6_needCell_4 : decode cX6_needCell 4 = .ok (.iload_n 0, 1) := by decide +kernel
theorem dX6_needCell_5 : decode cX6_needCell 5 = .ok (.bipush 6, 2) := by decide +kernel
theorem dX6_needCell_7 : decode cX6_needCell 7 = .ok (.if_icmp .lt 14, 3) := by decide +kernel
theorem dX6_needCell_10 : decode cX6_needCell 10 = .ok (.new 287, 3) := by decide +kernel
theorem dX6_needCell_13 : decode cX6_needCell 13 = .ok (.dup, 1) := by decide +kernel
theorem dX6_needCell_14 : decode cX6_needCell 14 = .ok (.ldc_w 289, 3) := by decide +kernel
theorem dX6_needCell_17 : decode cX6_needCell 17 = .ok (.invokespecial 291, 3) := by decide +kernel
theorem dX6_needCell_20 : decode cX6_needCell 20 = .ok (.athrow, 1) := by decide +kernel
theorem dX6_needCell_21 : decode cX6_needCell 21 = .ok (.return_, 1) := by decide +kernel
theorem dX6_needPoint_0 : decode cX6_needPoint 0 = .ok (.iload_n 1, 1) := by decide +kernel
theorem dX6_needPoint_1 : decode cX6_needPoint 1 = .ok (.ifCond .lt 11, 3) := by decide +kernel
theorem dX6_needPoint_4 : decode cX6_needPoint 4 = .ok (.iload_n 1, 1) := by decide +kernel
theorem dX6_needPoint_5 : decode cX6_needPoint 5 = .ok (.aload_n 0, 1) := by decide +kernel
theorem dX6_needPoint_6 : decode cX6_needPoint 6 = .ok (.getfield 41, 3) := by decide +kernel
theorem dX6_needPoint_9 : decode cX6_needPoint 9 = .ok (.if_icmp .lt 14, 3) := by decide +kernel
theorem dX6_needPoint_12 : decode cX6_needPoint 12 = .ok (.new 287, 3) := by decide +kernel
theorem dX6_needPoint_15 : decode cX6_needPoint 15 = .ok (.dup, 1) := by decide +kernel
theorem dX6_needPoint_16 : decode cX6_needPoint 16 = .ok (.ldc_w 294, 3) := by decide +kernel
theorem dX6_needPoint_19 : decode cX6_needPoint 19 = .ok (.invokespecial 291, 3) := by decide +kernel
theorem dX6_needPoint_22 : decode cX6_needPoint 22 = .ok (.athrow, 1) := by decide +kernel
theorem dX6_needPoint_23 : decode cX6_needPoint 23 = .ok (.return_, 1) := by decide +kernel
theorem dX6_needSet_0 : decode cX6_needSet 0 = .ok (.iload_n 0, 1) := by decide +kernel
theorem dX6_needSet_1 : decode cX6_needSet 1 = .ok (.iconst 0, 1) := by decide +kernel
theorem dX6_needSet_2 : decode cX6_needSet 2 = .ok (.bipush 63, 2) := by decide +kernel
theorem dX6_needSet_4 : decode cX6_needSet 4 = .ok (.invokestatic 63, 3) := by decide +kernel
theorem dX6_needSet_7 : decode cX6_needSet 7 = .ok (.return_, 1) := by decide +kernel
theorem dX6_needBetween_0 : decode cX6_needBetween 0 = .ok (.iload_n 0, 1) := by decide +kernel
theorem dX6_needBetween_1 : decode cX6_needBetween 1 = .ok (.iload_n 1, 1) := by decide +kernel
theorem dX6_needBetween_2 : decode cX6_needBetween 2 = .ok (.if_icmp .lt 12, 3) := by decide +kernel
theorem dX6_needBetween_5 : decode cX6_needBetween 5 = .ok (.iload_n 0, 1) := by decide +kernel
theorem dX6_needBetween_6 : decode cX6_needBetween 6 = .ok (.iload_n 2, 1) := by decide +kernel
theorem dX6_needBetween_7 : decode cX6_needBetween 7 = .ok (.if_icmp .gt 7, 3) := by decide +kernel
theorem dX6_needBetween_10 : decode cX6_needBetween 10 = .ok (.iconst 1, 1) := by decide +kernel
theorem dX6_needBetween_11 : decode cX6_needBetween 11 = .ok (.goto 4, 3) := by decide +kernel
theorem dX6_needBetween_14 : decode cX6_needBetween 14 = .ok (.iconst 0, 1) := by decide +kernel
theorem dX6_needBetween_15 : decode cX6_needBetween 15 = .ok (.invokestatic 99, 3) := by decide +kernel
theorem dX6_needBetween_18 : decode cX6_needBetween 18 = .ok (.return_, 1) := by decide +kernel
theorem dX6_need_0 : decode cX6_need 0 = .ok (.iload_n 0, 1) := by decide +kernel
theorem dX6_need_1 : decode cX6_need 1 = .ok (.ifCond .ne 14, 3) := by decide +kernel
theorem dX6_need_4 : decode cX6_need 4 = .ok (.new 296, 3) := by decide +kernel
theorem dX6_need_7 : decode cX6_need 7 = .ok (.dup, 1) := by decide +kernel
theorem dX6_need_8 : decode cX6_need 8 = .ok (.ldc_w 298, 3) := by decide +kernel
theorem dX6_need_11 : decode cX6_need 11 = .ok (.invokespecial 300, 3) := by decide +kernel
theorem dX6_need_14 : decode cX6_need 14 = .ok (.athrow, 1) := by decide +kernel
theorem dX6_need_15 : decode cX6_need 15 = .ok (.return_, 1) := by decide +kernel
theorem dX6_addWord_0 : decode cX6_addWord 0 = .ok (.aload_n 0, 1) := by decide +kernel
theorem dX6_addWord_1 : decode cX6_addWord 1 = .ok (.invokevirtual 301, 3) := by decide +kernel
theorem dX6_addWord_4 : decode cX6_addWord 4 = .ok (.ifCond .le 10, 3) := by decide +kernel
theorem dX6_addWord_7 : decode cX6_addWord 7 = .ok (.aload_n 0, 1) := by decide +kernel
theorem dX6_addWord_8 : decode cX6_addWord 8 = .ok (.bipush 32, 2) := by decide +kernel
theorem dX6_addWord_10 : decode cX6_addWord 10 = .ok (.invokevirtual 302, 3) := by decide +kernel
theorem dX6_addWord_13 : decode cX6_addWord 13 = .ok (.pop, 1) := by decide +kernel
theorem dX6_addWord_14 : decode cX6_addWord 14 = .ok (.aload_n 0, 1) := by decide +kernel
theorem dX6_addWord_15 : decode cX6_addWord 15 = .ok (.iload_n 1, 1) := by decide +kernel
theorem dX6_addWord_16 : decode cX6_addWord 16 = .ok (.invokevirtual 306, 3) := by decide +kernel
theorem dX6_addWord_19 : decode cX6_addWord 19 = .ok (.pop, 1) := by decide +kernel
theorem dX6_addWord_20 : decode cX6_addWord 20 = .ok (.return_, 1) := by decide +kernel
theorem dX6_mix_0 : decode cX6_mix 0 = .ok (.lload_n 0, 1) := by decide +kernel
theorem dX6_mix_1 : decode cX6_mix 1 = .ok (.ldc2_w 309, 3) := by decide +kernel
theorem dX6_mix_4 : decode cX6_mix 4 = .ok (.lmul, 1) := by decide +kernel
theorem dX6_mix_5 : decode cX6_mix 5 = .ok (.lload_n 2, 1) := by decide +kernel
theorem dX6_mix_6 : decode cX6_mix 6 = .ok (.ladd, 1) := by decide +kernel
theorem dX6_mix_7 : decode cX6_mix 7 = .ok (.lreturn, 1) := by decide +kernel
theorem dX6_quotient_0 : decode cX6_quotient 0 = .ok (.iload_n 1, 1) := by decide +kernel
theorem dX6_quotient_1 : decode cX6_quotient 1 = .ok (.iconst 1, 1) := by decide +kernel
theorem dX6_quotient_2 : decode cX6_quotient 2 = .ok (.if_icmp .ge 7, 3) := by decide +kernel
theorem dX6_quotient_5 : decode cX6_quotient 5 = .ok (.iconst 0, 1) := by decide +kernel
theorem dX6_quotient_6 : decode cX6_quotient 6 = .ok (.goto 6, 3) := by decide +kernel
theorem dX6_quotient_9 : decode cX6_quotient 9 = .ok (.iload_n 0, 1) := by decide +kernel
theorem dX6_quotient_10 : decode cX6_quotient 10 = .ok (.iload_n 1, 1) := by decide +kernel
theorem dX6_quotient_11 : decode cX6_quotient 11 = .ok (.idiv, 1) := by decide +kernel
theorem dX6_quotient_12 : decode cX6_quotient 12 = .ok (.ireturn, 1) := by decide +kernel
theorem dX6_remainder_0 : decode cX6_remainder 0 = .ok (.iload_n 1, 1) := by decide +kernel
theorem dX6_remainder_1 : decode cX6_remainder 1 = .ok (.iconst 1, 1) := by decide +kernel
theorem dX6_remainder_2 : decode cX6_remainder 2 = .ok (.if_icmp .ge 7, 3) := by decide +kernel
theorem dX6_remainder_5 : decode cX6_remainder 5 = .ok (.iconst 0, 1) := by decide +kernel
theorem dX6_remainder_6 : decode cX6_remainder 6 = .ok (.goto 8, 3) := by decide +kernel
theorem dX6_remainder_9 : decode cX6_remainder 9 = .ok (.iload_n 0, 1) := by decide +kernel
theorem dX6_remainder_10 : decode cX6_remainder 10 = .ok (.iload_n 1, 1) := by decide +kernel
theorem dX6_remainder_11 : decode cX6_remainder 11 = .ok (.invokestatic 311, 3) := by decide +kernel
theorem dX6_remainder_14 : decode cX6_remainder 14 = .ok (.ireturn, 1) := by decide +kernel
theorem dX6_divides_0 : decode cX6_divides 0 = .ok (.iload_n 0, 1) := by decide +kernel
theorem dX6_divides_1 : decode cX6_divides 1 = .ok (.iconst 1, 1) := by decide +kernel
theorem dX6_divides_2 : decode cX6_divides 2 = .ok (.if_icmp .lt 13, 3) := by decide +kernel
theorem dX6_divides_5 : decode cX6_divides 5 = .ok (.iload_n 1, 1) := by decide +kernel
theorem dX6_divides_6 : decode cX6_divides 6 = .ok (.iload_n 0, 1) := by decide +kernel
theorem dX6_divides_7 : decode cX6_divides 7 = .ok (.irem, 1) := by decide +kernel
theorem dX6_divides_8 : decode cX6_divides 8 = .ok (.ifCond .ne 7, 3) := by decide +kernel
theorem dX6_divides_11 : decode cX6_divides 11 = .ok (.iconst 1, 1) := by decide +kernel
theorem dX6_divides_12 : decode cX6_divides 12 = .ok (.goto 4, 3) := by decide +kernel
theorem dX6_divides_15 : decode cX6_divides 15 = .ok (.iconst 0, 1) := by decide +kernel
theorem dX6_divides_16 : decode cX6_divides 16 = .ok (.ireturn, 1) := by decide +kernel
theorem dX6_has_0 : decode cX6_has 0 = .ok (.iload_n 0, 1) := by decide +kernel
theorem dX6_has_1 : decode cX6_has 1 = .ok (.iload_n 1, 1) := by decide +kernel
theorem dX6_has_2 : decode cX6_has 2 = .ok (.ishr, 1) := by decide +kernel
theorem dX6_has_3 : decode cX6_has 3 = .ok (.iconst 1, 1) := by decide +kernel
theorem dX6_has_4 : decode cX6_has 4 = .ok (.iand, 1) := by decide +kernel
theorem dX6_has_5 : decode cX6_has 5 = .ok (.iconst 1, 1) := by decide +kernel
theorem dX6_has_6 : decode cX6_has 6 = .ok (.if_icmp .ne 7, 3) := by decide +kernel
theorem dX6_has_9 : decode cX6_has 9 = .ok (.iconst 1, 1) := by decide +kernel
theorem dX6_has_10 : decode cX6_has 10 = .ok (.goto 4, 3) := by decide +kernel
theorem dX6_has_13 : decode cX6_has 13 = .ok (.iconst 0, 1) := by decide +kernel
theorem dX6_has_14 : decode cX6_has 14 = .ok (.ireturn, 1) := by decide +kernel
theorem dX6_howManyBelow_0 : decode cX6_howManyBelow 0 = .ok (.iload_n 0, 1) := by decide +kernel
theorem dX6_howManyBelow_1 : decode cX6_howManyBelow 1 = .ok (.iconst 1, 1) := by decide +kernel
theorem dX6_howManyBelow_2 : decode cX6_howManyBelow 2 = .ok (.iload_n 1, 1) := by decide +kernel
theorem dX6_howManyBelow_3 : decode cX6_howManyBelow 3 = .ok (.ishl, 1) := by decide +kernel
theorem dX6_howManyBelow_4 : decode cX6_howManyBelow 4 = .ok (.iconst 1, 1) := by decide +kernel
theorem dX6_howManyBelow_5 : decode cX6_howManyBelow 5 = .ok (.isub, 1) := by decide +kernel
theorem dX6_howManyBelow_6 : decode cX6_howManyBelow 6 = .ok (.iand, 1) := by decide +kernel
theorem dX6_howManyBelow_7 : decode cX6_howManyBelow 7 = .ok (.invokestatic 220, 3) := by decide +kernel
theorem dX6_howManyBelow_10 : decode cX6_howManyBelow 10 = .ok (.ireturn, 1) := by decide +kernel
theorem dX7_init_0 : decode cX7_init 0 = .ok (.aload_n 0, 1) := by decide +kernel
theorem dX7_init_1 : decode cX7_init 1 = .ok (.invokespecial 1, 3) := by decide +kernel
theorem dX7_init_4 : decode cX7_init 4 = .ok (.return_, 1) := by decide +kernel
theorem dX8_init_0 : decode cX8_init 0 = .ok (.aload_n 0, 1) := by decide +kernel
theorem dX8_init_1 : decode cX8_init 1 = .ok (.invokespecial 1, 3) := by decide +kernel
theorem dX8_init_4 : decode cX8_init 4 = .ok (.aload_n 0, 1) := by decide +kernel
theorem dX8_init_5 : decode cX8_init 5 = .ok (.iconst 4, 1) := by decide +kernel
theorem dX8_init_6 : decode cX8_init 6 = .ok (.putfield 7, 3) := by decide +kernel
theorem dX8_init_9 : decode cX8_init 9 = .ok (.aload_n 0, 1) := by decide +kernel
theorem dX8_init_10 : decode cX8_init 10 = .ok (.bipush 42, 2) := by decide +kernel
theorem dX8_init_12 : decode cX8_init 12 = .ok (.newarray .int, 2) := by decide +kernel
theorem dX8_init_14 : decode cX8_init 14 = .ok (.putfield 13, 3) := by decide +kernel
theorem dX8_init_17 : decode cX8_init 17 = .ok (.aload_n 0, 1) := by decide +kernel
theorem dX8_init_18 : decode cX8_init 18 = .ok (.bipush 7, 2) := by decide +kernel
theorem dX8_init_20 : decode cX8_init 20 = .ok (.newarray .int, 2) := by decide +kernel
theorem dX8_init_22 : decode cX8_init 22 = .ok (.putfield 17, 3) := by decide +kernel
theorem dX8_init_25 : decode cX8_init 25 = .ok (.aload_n 0, 1) := by decide +kernel
theorem dX8_init_26 : decode cX8_init 26 = .ok (.bipush 7, 2) := by decide +kernel
theorem dX8_init_28 : decode cX8_init 28 = .ok (.newarray .int, 2) := by decide +kernel
theorem dX8_init_30 : decode cX8_init 30 = .ok (.putfield 20, 3) := by decide +kernel
theorem dX8_init_33 : decode cX8_init 33 = .ok (.aload_n 0, 1) := by decide +kernel
theorem dX8_init_34 : decode cX8_init 34 = .ok (.sipush 158, 3) := by decide +kernel
theorem dX8_init_37 : decode cX8_init 37 = .ok (.newarray .int, 2) := by decide +kernel
theorem dX8_init_39 : decode cX8_init 39 = .ok (.putfield 23, 3) := by decide +kernel
theorem dX8_init_42 : decode cX8_init 42 = .ok (.aload_n 0, 1) := by decide +kernel
theorem dX8_init_43 : decode cX8_init 43 = .ok (.iconst (-1), 1) := by decide +kernel
theorem dX8_init_44 : decode cX8_init 44 = .ok (.putfield 26, 3) := by decide +kernel
theorem dX8_init_47 : decode cX8_init 47 = .ok (.aload_n 0, 1) := by decide +kernel
theorem dX8_init_48 : decode cX8_init 48 = .ok (.invokevirtual 29, 3) := by decide +kernel
theorem dX8_init_51 : decode cX8_init 51 = .ok (.return_, 1) := by decide +kernel
theorem dX8_thrown_0 : decode cX8_thrown 0 = .ok (.aload_n 0, 1) := by decide +kernel
theorem dX8_thrown_1 : decode cX8_thrown 1 = .ok (.getfield 32, 3) := by decide +kernel
theorem dX8_thrown_4 : decode cX8_thrown 4 = .ok (.ireturn, 1) := by decide +kernel
theorem dX8_still_0 : decode cX8_still 0 = .ok (.iconst 0, 1) := by decide +kernel
theorem dX8_still_1 : decode cX8_still 1 = .ok (.istore_n 1, 1) := by decide +kernel
theorem dX8_still_2 : decode cX8_still 2 = .ok (.iload_n 1, 1) := by decide +kernel
theorem dX8_still_3 : decode cX8_still 3 = .ok (.bipush 6, 2) := by decide +kernel
theorem dX8_still_5 : decode cX8_still 5 = .ok (.if_icmp .ge 37, 3) := by decide +kernel
theorem dX8_still_8 : decode cX8_still 8 = .ok (.iconst 0, 1) := by decide +kernel
theorem dX8_still_9 : decode cX8_still 9 = .ok (.istore_n 2, 1) := by decide +kernel
theorem dX8_still_10 : decode cX8_still 10 = .ok (.iload_n 2, 1) := by decide +kernel
theorem dX8_still_11 : decode cX8_still 11 = .ok (.aload_n 0, 1) := by decide +kernel
theorem dX8_still_12 : decode cX8_still 12 = .ok (.getfield 7, 3) := by decide +kernel
theorem dX8_still_15 : decode cX8_still 15 = .ok (.if_icmp .ge 21, 3) := by decide +kernel
theorem dX8_still_18 : decode cX8_still 18 = .ok (.aload_n 0, 1) := by decide +kernel
theorem dX8_still_19 : decode cX8_still 19 = .ok (.getfield 13, 3) := by decide +kernel
theorem dX8_still_22 : decode cX8_still 22 = .ok (.iload_n 1, 1) := by decide +kernel
theorem dX8_still_23 : decode cX8_still 23 = .ok (.bipush 7, 2) := by decide +kernel
theorem dX8_still_25 : decode cX8_still 25 = .ok (.imul, 1) := by decide +kernel
theorem dX8_still_26 : decode cX8_still 26 = .ok (.iload_n 2, 1) := by decide +kernel
theorem dX8_still_27 : decode cX8_still 27 = .ok (.iadd, 1) := by decide +kernel
theorem dX8_still_28 : decode cX8_still 28 = .ok (.iload_n 2, 1) := by decide +kernel
theorem dX8_still_29 : decode cX8_still 29 = .ok (.iastore, 1) := by decide +kernel
theorem dX8_still_30 : decode cX8_still 30 = .ok (.iinc 2 1, 3) := by decide +kernel
theorem dX8_still_33 : decode cX8_still 33 = .ok (.goto (-23), 3) := by decide +kernel
theorem dX8_still_36 : decode cX8_still 36 = .ok (.iinc 1 1, 3) := by decide +kernel
theorem dX8_still_39 : decode cX8_still 39 = .ok (.goto (-37), 3) := by decide +kernel
theorem dX8_still_42 : decode cX8_still 42 = .ok (.aload_n 0, 1) := by decide +kernel
theorem dX8_still_43 : decode cX8_still 43 = .ok (.iconst (-1), 1) := by decide +kernel
theorem dX8_still_44 : decode cX8_still 44 = .ok (.putfield 26, 3) := by decide +kernel
theorem dX8_still_47 : decode cX8_still 47 = .ok (.return_, 1) := by decide +kernel
theorem dX8_isThrown_0 : decode cX8_isThrown 0 = .ok (.aload_n 0, 1) := by decide +kernel
theorem dX8_isThrown_1 : decode cX8_isThrown 1 = .ok (.iload_n 1, 1) := by decide +kernel
theorem dX8_isThrown_2 : decode cX8_isThrown 2 = .ok (.ifCond .eq 7, 3) := by decide +kernel
theorem dX8_isThrown_5 : decode cX8_isThrown 5 = .ok (.iconst 1, 1) := by decide +kernel
theorem dX8_isThrown_6 : decode cX8_isThrown 6 = .ok (.goto 12, 3) := by decide +kernel
theorem dX8_isThrown_9 : decode cX8_isThrown 9 = .ok (.iload_n 2, 1) := by decide +kernel
theorem dX8_isThrown_10 : decode cX8_isThrown 10 = .ok (.ifCond .eq 7, 3) := by decide +kernel
theorem dX8_isThrown_13 : decode cX8_isThrown 13 = .ok (.iconst 2, 1) := by decide +kernel
theorem dX8_isThrown_14 : decode cX8_isThrown 14 = .ok (.goto 4, 3) := by decide +kernel
theorem dX8_isThrown_17 : decode cX8_isThrown 17 = .ok (.iconst 0, 1) := by decide +kernel
theorem dX8_isThrown_18 : decode cX8_isThrown 18 = .ok (.putfield 32, 3) := by decide +kernel
theorem dX8_isThrown_21 : decode cX8_isThrown 21 = .ok (.aload_n 0, 1) := by decide +kernel
theorem dX8_isThrown_22 : decode cX8_isThrown 22 = .ok (.getfield 32, 3) := by decide +kernel
theorem dX8_isThrown_25 : decode cX8_isThrown 25 = .ok (.ifCond .le 7, 3) := by decide +kernel
theorem dX8_isThrown_28 : decode cX8_isThrown 28 = .ok (.iconst 1, 1) := by decide +kernel
theorem dX8_isThrown_29 : decode cX8_isThrown 29 = .ok (.goto 4, 3) := by decide +kernel
theorem dX8_isThrown_32 : decode cX8_isThrown 32 = .ok (.iconst 0, 1) := by decide +kernel
theorem dX8_isThrown_33 : decode cX8_isThrown 33 = .ok (.ireturn, 1) := by decide +kernel
theorem dX8_isThrown__0 : decode cX8_isThrown_ 0 = .ok (.aload_n 0, 1) := by decide +kernel
theorem dX8_isThrown__1 : decode cX8_isThrown_ 1 = .ok (.iload_n 1, 1) := by decide +kernel
theorem dX8_isThrown__2 : decode cX8_isThrown_ 2 = .ok (.iconst 0, 1) := by decide +kernel
theorem dX8_isThrown__3 : decode cX8_isThrown_ 3 = .ok (.invokevirtual 35, 3) := by decide +kernel
theorem dX8_isThrown__6 : decode cX8_isThrown_ 6 = .ok (.ireturn, 1) := by decide +kernel
theorem dX8_isCell_0 : decode cX8_isCell 0 = .ok (.iload_n 0, 1) := by decide +kernel
theorem dX8_isCell_1 : decode cX8_isCell 1 = .ok (.ifCond .lt 13, 3) := by decide +kernel
theorem dX8_isCell_4 : decode cX8_isCell 4 = .ok (.iload_n 0, 1) := by decide +kernel
theorem dX8_isCell_5 : decode cX8_isCell 5 = .ok (.bipush 6, 2) := by decide +kernel
theorem dX8_isCell_7 : decode cX8_isCell 7 = .ok (.if_icmp .ge 7, 3) := by decide +kernel
theorem dX8_isCell_10 : decode cX8_isCell 10 = .ok (.iconst 1, 1) := by decide +kernel
theorem dX8_isCell_11 : decode cX8_isCell 11 = .ok (.goto 4, 3) := by decide +kernel
theorem dX8_isCell_14 : decode cX8_isCell 14 = .ok (.iconst 0, 1) := by decide +kernel
theorem dX8_isCell_15 : decode cX8_isCell 15 = .ok (.ireturn, 1) := by decide +kernel
theorem dX8_isPoint_0 : decode cX8_isPoint 0 = .ok (.iload_n 1, 1) := by decide +kernel
theorem dX8_isPoint_1 : decode cX8_isPoint 1 = .ok (.ifCond .lt 15, 3) := by decide +kernel
theorem dX8_isPoint_4 : decode cX8_isPoint 4 = .ok (.iload_n 1, 1) := by decide +kernel
theorem dX8_isPoint_5 : decode cX8_isPoint 5 = .ok (.aload_n 0, 1) := by decide +kernel
theorem dX8_isPoint_6 : decode cX8_isPoint 6 = .ok (.getfield 7, 3) := by decide +kernel
theorem dX8_isPoint_9 : decode cX8_isPoint 9 = .ok (.if_icmp .ge 7, 3) := by decide +kernel
theorem dX8_isPoint_12 : decode cX8_isPoint 12 = .ok (.iconst 1, 1) := by decide +kernel
theorem dX8_isPoint_13 : decode cX8_isPoint 13 = .ok (.goto 4, 3) := by decide +kernel
theorem dX8_isPoint_16 : decode cX8_isPoint 16 = .ok (.iconst 0, 1) := by decide +kernel
theorem dX8_isPoint_17 : decode cX8_isPoint 17 = .ok (.ireturn, 1) := by decide +kernel
theorem dX8_isSet_0 : decode cX8_isSet 0 = .ok (.iload_n 0, 1) := by decide +kernel
theorem dX8_isSet_1 : decode cX8_isSet 1 = .ok (.ifCond .lt 13, 3) := by decide +kernel
theorem dX8_isSet_4 : decode cX8_isSet 4 = .ok (.iload_n 0, 1) := by decide +kernel
theorem dX8_isSet_5 : decode cX8_isSet 5 = .ok (.bipush 64, 2) := by decide +kernel
theorem dX8_isSet_7 : decode cX8_isSet 7 = .ok (.if_icmp .ge 7, 3) := by decide +kernel
theorem dX8_isSet_10 : decode cX8_isSet 10 = .ok (.iconst 1, 1) := by decide +kernel
theorem dX8_isSet_11 : decode cX8_isSet 11 = .ok (.goto 4, 3) := by decide +kernel
theorem dX8_isSet_14 : decode cX8_isSet 14 = .ok (.iconst 0, 1) := by decide +kernel
theorem dX8_isSet_15 : decode cX8_isSet 15 = .ok (.ireturn, 1) := by decide +kernel
theorem dX8_told_0 : decode cX8_told 0 = .ok (.aload_n 0, 1) := by decide +kernel
theorem dX8_told_1 : decode cX8_told 1 = .ok (.dup, 1) := by decide +kernel
theorem dX8_told_2 : decode cX8_told 2 = .ok (.getfield 39, 3) := by decide +kernel
theorem dX8_told_5 : decode cX8_told 5 = .ok (.iconst 1, 1) := by decide +kernel
theorem dX8_told_6 : decode cX8_told 6 = .ok (.iadd, 1) := by decide +kernel
theorem dX8_told_7 : decode cX8_told 7 = .ok (.putfield 39, 3) := by decide +kernel
theorem dX8_told_10 : decode cX8_told 10 = .ok (.iload_n 1, 1) := by decide +kernel
theorem dX8_told_11 : decode cX8_told 11 = .ok (.ireturn, 1) := by decide +kernel
theorem dX8_no_0 : decode cX8_no 0 = .ok (.aload_n 0, 1) := by decide +kernel
theorem dX8_no_1 : decode cX8_no 1 = .ok (.dup, 1) := by decide +kernel
theorem dX8_no_2 : decode cX8_no 2 = .ok (.getfield 42, 3) := by decide +kernel
theorem dX8_no_5 : decode cX8_no 5 = .ok (.iconst 1, 1) := by decide +kernel
theorem dX8_no_6 : decode cX8_no 6 = .ok (.iadd, 1) := by decide +kernel
theorem dX8_no_7 : decode cX8_no 7 = .ok (.putfield 42, 3) := by decide +kernel
theorem dX8_no_10 : decode cX8_no 10 = .ok (.bipush (-9), 2) := by decide +kernel
theorem dX8_no_12 : decode cX8_no 12 = .ok (.ireturn, 1) := by decide +kernel
theorem dX8_all_0 : decode cX8_all 0 = .ok (.iconst 1, 1) := by decide +kernel
theorem dX8_all_1 : decode cX8_all 1 = .ok (.istore_n 1, 1) := by decide +kernel
theorem dX8_all_2 : decode cX8_all 2 = .ok (.iconst 2, 1) := by decide +kernel
theorem dX8_all_3 : decode cX8_all 3 = .ok (.istore_n 2, 1) := by decide +kernel
theorem dX8_all_4 : decode cX8_all 4 = .ok (.iload_n 2, 1) := by decide +kernel
theorem dX8_all_5 : decode cX8_all 5 = .ok (.aload_n 0, 1) := by decide +kernel
theorem dX8_all_6 : decode cX8_all 6 = .ok (.getfield 7, 3) := by decide +kernel
theorem dX8_all_9 : decode cX8_all 9 = .ok (.if_icmp .gt 13, 3) := by decide +kernel
theorem dX8_all_12 : decode cX8_all 12 = .ok (.iload_n 1, 1) := by decide +kernel
theorem dX8_all_13 : decode cX8_all 13 = .ok (.iload_n 2, 1) := by decide +kernel
theorem dX8_all_14 : decode cX8_all 14 = .ok (.imul, 1) := by decide +kernel
theorem dX8_all_15 : decode cX8_all 15 = .ok (.istore_n 1, 1) := by decide +kernel
theorem dX8_all_16 : decode cX8_all 16 = .ok (.iinc 2 1, 3) := by decide +kernel
theorem dX8_all_19 : decode cX8_all 19 = .ok (.goto (-15), 3) := by decide +kernel
theorem dX8_all_22 : decode cX8_all 22 = .ok (.iload_n 1, 1) := by decide +kernel
theorem dX8_all_23 : decode cX8_all 23 = .ok (.ireturn, 1) := by decide +kernel
theorem dX8_at_0 : decode cX8_at 0 = .ok (.aload_n 0, 1) := by decide +kernel
theorem dX8_at_1 : decode cX8_at 1 = .ok (.getfield 13, 3) := by decide +kernel
theorem dX8_at_4 : decode cX8_at 4 = .ok (.iload_n 1, 1) := by decide +kernel
theorem dX8_at_5 : decode cX8_at 5 = .ok (.bipush 7, 2) := by decide +kernel
theorem dX8_at_7 : decode cX8_at 7 = .ok (.imul, 1) := by decide +kernel
theorem dX8_at_8 : decode cX8_at 8 = .ok (.iload_n 2, 1) := by decide +kernel
theorem dX8_at_9 : decode cX8_at 9 = .ok (.iadd, 1) := by decide +kernel
theorem dX8_at_10 : decode cX8_at 10 = .ok (.iaload, 1) := by decide +kernel
theorem dX8_at_11 : decode cX8_at 11 = .ok (.ireturn, 1) := by decide +kernel
theorem dX8_numberOf_0 : decode cX8_numberOf 0 = .ok (.iconst 0, 1) := by decide +kernel
theorem dX8_numberOf_1 : decode cX8_numberOf 1 = .ok (.istore_n 3, 1) := by decide +kernel
theorem dX8_numberOf_2 : decode cX8_numberOf 2 = .ok (.iconst 0, 1) := by decide +kernel
theorem dX8_numberOf_3 : decode cX8_numberOf 3 = .ok (.istore 4, 2) := by decide +kernel
theorem dX8_numberOf_5 : decode cX8_numberOf 5 = .ok (.iload 4, 2) := by decide +kernel
theorem dX8_numberOf_7 : decode cX8_numberOf 7 = .ok (.aload_n 0, 1) := by decide +kernel
theorem dX8_numberOf_8 : decode cX8_numberOf 8 = .ok (.getfield 7, 3) := by decide +kernel
theorem dX8_numberOf_11 : decode cX8_numberOf 11 = .ok (.if_icmp .ge 71, 3) := by decide +kernel
theorem dX8_numberOf_14 : decode cX8_numberOf 14 = .ok (.iconst 0, 1) := by decide +kernel
theorem dX8_numberOf_15 : decode cX8_numberOf 15 = .ok (.istore 5, 2) := by decide +kernel
theorem dX8_numberOf_17 : decode cX8_numberOf 17 = .ok (.iload 4, 2) := by decide +kernel
theorem dX8_numberOf_19 : decode cX8_numberOf 19 = .ok (.iconst 1, 1) := by decide +kernel
theorem dX8_numberOf_20 : decode cX8_numberOf 20 = .ok (.iadd, 1) := by decide +kernel
theorem dX8_numberOf_21 : decode cX8_numberOf 21 = .ok (.istore 6, 2) := by decide +kernel
theorem dX8_numberOf_23 : decode cX8_numberOf 23 = .ok (.iload 6, 2) := by decide +kernel
theorem dX8_numberOf_25 : decode cX8_numberOf 25 = .ok (.aload_n 0, 1) := by decide +kernel
theorem dX8_numberOf_26 : decode cX8_numberOf 26 = .ok (.getfield 7, 3) := by decide +kernel
theorem dX8_numberOf_29 : decode cX8_numberOf 29 = .ok (.if_icmp .ge 34, 3) := by decide +kernel
theorem dX8_numberOf_32 : decode cX8_numberOf 32 = .ok (.iload 5, 2) := by decide +kernel
theorem dX8_numberOf_34 : decode cX8_numberOf 34 = .ok (.aload_n 1, 1) := by decide +kernel
theorem dX8_numberOf_35 : decode cX8_numberOf 35 = .ok (.iload_n 2, 1) := by decide +kernel
theorem dX8_numberOf_36 : decode cX8_numberOf 36 = .ok (.iload 6, 2) := by decide +kernel
theorem dX8_numberOf_38 : decode cX8_numberOf 38 = .ok (.iadd, 1) := by decide +kernel
theorem dX8_numberOf_39 : decode cX8_numberOf 39 = .ok (.iaload, 1) := by decide +kernel
theorem dX8_numberOf_40 : decode cX8_numberOf 40 = .ok (.aload_n 1, 1) := by decide +kernel
theorem dX8_numberOf_41 : decode cX8_numberOf 41 = .ok (.iload_n 2, 1) := by decide +kernel
theorem dX8_numberOf_42 : decode cX8_numberOf 42 = .ok (.iload 4, 2) := by decide +kernel
theorem dX8_numberOf_44 : decode cX8_numberOf 44 = .ok (.iadd, 1) := by decide +kernel
theorem dX8_numberOf_45 : decode cX8_numberOf 45 = .ok (.iaload, 1) := by decide +kernel
theorem dX8_numberOf_46 : decode cX8_numberOf 46 = .ok (.if_icmp .ge 7, 3) := by decide +kernel
theorem dX8_numberOf_49 : decode cX8_numberOf 49 = .ok (.iconst 1, 1) := by decide +kernel
theorem dX8_numberOf_50 : decode cX8_numberOf 50 = .ok (.goto 4, 3) := by decide +kernel
theorem dX8_numberOf_53 : decode cX8_numberOf 53 = .ok (.iconst 0, 1) := by decide +kernel
theorem dX8_numberOf_54 : decode cX8_numberOf 54 = .ok (.iadd, 1) := by decide +kernel
theorem dX8_numberOf_55 : decode cX8_numberOf 55 = .ok (.istore 5, 2) := by decide +kernel
theorem dX8_numberOf_57 : decode cX8_numberOf 57 = .ok (.iinc 6 1, 3) := by decide +kernel
theorem dX8_numberOf_60 : decode cX8_numberOf 60 = .ok (.goto (-37), 3) := by decide +kernel
theorem dX8_numberOf_63 : decode cX8_numberOf 63 = .ok (.iload_n 3, 1) := by decide +kernel
theorem dX8_numberOf_64 : decode cX8_numberOf 64 = .ok (.aload_n 0, 1) := by decide +kernel
theorem dX8_numberOf_65 : decode cX8_numberOf 65 = .ok (.getfield 7, 3) := by decide +kernel
theorem dX8_numberOf_68 : decode cX8_numberOf 68 = .ok (.iload 4, 2) := by decide +kernel
theorem dX8_numberOf_70 : decode cX8_numberOf 70 = .ok (.isub, 1) := by decide +kernel
theorem dX8_numberOf_71 : decode cX8_numberOf 71 = .ok (.imul, 1) := by decide +kernel
theorem dX8_numberOf_72 : decode cX8_numberOf 72 = .ok (.iload 5, 2) := by decide +kernel
theorem dX8_numberOf_74 : decode cX8_numberOf 74 = .ok (.iadd, 1) := by decide +kernel
theorem dX8_numberOf_75 : decode cX8_numberOf 75 = .ok (.istore_n 3, 1) := by decide +kernel
theorem dX8_numberOf_76 : decode cX8_numberOf 76 = .ok (.iinc 4 1, 3) := by decide +kernel
theorem dX8_numberOf_79 : decode cX8_numberOf 79 = .ok (.goto (-74), 3) := by decide +kernel
theorem dX8_numberOf_82 : decode cX8_numberOf 82 = .ok (.iload_n 3, 1) := by decide +kernel
theorem dX8_numberOf_83 : decode cX8_numberOf 83 = .ok (.ireturn, 1) := by decide +kernel
theorem dX8_rowOf_0 : decode cX8_rowOf 0 = .ok (.iload_n 1, 1) := by decide +kernel
theorem dX8_rowOf_1 : decode cX8_rowOf 1 = .ok (.istore_n 3, 1) := by decide +kernel
theorem dX8_rowOf_2 : decode cX8_rowOf 2 = .ok (.aload_n 0, 1) := by decide +kernel
theorem dX8_rowOf_3 : decode cX8_rowOf 3 = .ok (.getfield 7, 3) := by decide +kernel
theorem dX8_rowOf_6 : decode cX8_rowOf 6 = .ok (.iconst 1, 1) := by decide +kernel
theorem dX8_rowOf_7 : decode cX8_rowOf 7 = .ok (.isub, 1) := by decide +kernel
theorem dX8_rowOf_8 : decode cX8_rowOf 8 = .ok (.istore 4, 2) := by decide +kernel
theorem dX8_rowOf_10 : decode cX8_rowOf 10 = .ok (.iload 4, 2) := by decide +kernel
theorem dX8_rowOf_12 : decode cX8_rowOf 12 = .ok (.ifCond .lt 32, 3) := by decide +kernel
theorem dX8_rowOf_15 : decode cX8_rowOf 15 = .ok (.aload_n 2, 1) := by decide +kernel
theorem dX8_rowOf_16 : decode cX8_rowOf 16 = .ok (.iload 4, 2) := by decide +kernel
theorem dX8_rowOf_18 : decode cX8_rowOf 18 = .ok (.iload_n 3, 1) := by decide +kernel
theorem dX8_rowOf_19 : decode cX8_rowOf 19 = .ok (.aload_n 0, 1) := by decide +kernel
theorem dX8_rowOf_20 : decode cX8_rowOf 20 = .ok (.getfield 7, 3) := by decide +kernel
theorem dX8_rowOf_23 : decode cX8_rowOf 23 = .ok (.iload 4, 2) := by decide +kernel
theorem dX8_rowOf_25 : decode cX8_rowOf 25 = .ok (.isub, 1) := by decide +kernel
theorem dX8_rowOf_26 : decode cX8_rowOf 26 = .ok (.irem, 1) := by decide +kernel
theorem dX8_rowOf_27 : decode cX8_rowOf 27 = .ok (.iastore, 1) := by decide +kernel
theorem dX8_rowOf_28 : decode cX8_rowOf 28 = .ok (.iload_n 3, 1) := by decide +kernel
theorem dX8_rowOf_29 : decode cX8_rowOf 29 = .ok (.aload_n 0, 1) := by decide +kernel
theorem dX8_rowOf_30 : decode cX8_rowOf 30 = .ok (.getfield 7, 3) := by decide +kernel
theorem dX8_rowOf_33 : decode cX8_rowOf 33 = .ok (.iload 4, 2) := by decide +kernel
theorem dX8_rowOf_35 : decode cX8_rowOf 35 = .ok (.isub, 1) := by decide +kernel
theorem dX8_rowOf_36 : decode cX8_rowOf 36 = .ok (.idiv, 1) := by decide +kernel
theorem dX8_rowOf_37 : decode cX8_rowOf 37 = .ok (.istore_n 3, 1) := by decide +kernel
theorem dX8_rowOf_38 : decode cX8_rowOf 38 = .ok (.iinc 4 (-1), 3) := by decide +kernel
theorem dX8_rowOf_41 : decode cX8_rowOf 41 = .ok (.goto (-31), 3) := by decide +kernel
theorem dX8_rowOf_44 : decode cX8_rowOf 44 = .ok (.aload_n 0, 1) := by decide +kernel
theorem dX8_rowOf_45 : decode cX8_rowOf 45 = .ok (.getfield 7, 3) := by decide +kernel
theorem dX8_rowOf_48 : decode cX8_rowOf 48 = .ok (.iconst 2, 1) := by decide +kernel
theorem dX8_rowOf_49 : decode cX8_rowOf 49 = .ok (.isub, 1) := by decide +kernel
theorem dX8_rowOf_50 : decode cX8_rowOf 50 = .ok (.istore 4, 2) := by decide +kernel
theorem dX8_rowOf_52 : decode cX8_rowOf 52 = .ok (.iload 4, 2) := by decide +kernel
theorem dX8_rowOf_54 : decode cX8_rowOf 54 = .ok (.ifCond .lt 49, 3) := by decide +kernel
theorem dX8_rowOf_57 : decode cX8_rowOf 57 = .ok (.iload 4, 2) := by decide +kernel
theorem dX8_rowOf_59 : decode cX8_rowOf 59 = .ok (.iconst 1, 1) := by decide +kernel
theorem dX8_rowOf_60 : decode cX8_rowOf 60 = .ok (.iadd, 1) := by decide +kernel
theorem dX8_rowOf_61 : decode cX8_rowOf 61 = .ok (.istore 5, 2) := by decide +kernel
theorem dX8_rowOf_63 : decode cX8_rowOf 63 = .ok (.iload 5, 2) := by decide +kernel
theorem dX8_rowOf_65 : decode cX8_rowOf 65 = .ok (.aload_n 0, 1) := by decide +kernel
theorem dX8_rowOf_66 : decode cX8_rowOf 66 = .ok (.getfield 7, 3) := by decide +kernel
theorem dX8_rowOf_69 : decode cX8_rowOf 69 = .ok (.if_icmp .ge 28, 3) := by decide +kernel
theorem dX8_rowOf_72 : decode cX8_rowOf 72 = .ok (.aload_n 2, 1) := by decide +kernel
theorem dX8_rowOf_73 : decode cX8_rowOf 73 = .ok (.iload 5, 2) := by decide +kernel
theorem dX8_rowOf_75 : decode cX8_rowOf 75 = .ok (.iaload, 1) := by decide +kernel
theorem dX8_rowOf_76 : decode cX8_rowOf 76 = .ok (.aload_n 2, 1) := by decide +kernel
theorem dX8_rowOf_77 : decode cX8_rowOf 77 = .ok (.iload 4, 2) := by decide +kernel
theorem dX8_rowOf_79 : decode cX8_rowOf 79 = .ok (.iaload, 1) := by decide +kernel
theorem dX8_rowOf_80 : decode cX8_rowOf 80 = .ok (.if_icmp .lt 11, 3) := by decide +kernel
theorem dX8_rowOf_83 : decode cX8_rowOf 83 = .ok (.aload_n 2, 1) := by decide +kernel
theorem dX8_rowOf_84 : decode cX8_rowOf 84 = .ok (.iload 5, 2) := by decide +kernel
theorem dX8_rowOf_86 : decode cX8_rowOf 86 = .ok (.dup2, 1) := by decide +kernel
theorem dX8_rowOf_87 : decode cX8_rowOf 87 = .ok (.iaload, 1) := by decide +kernel
theorem dX8_rowOf_88 : decode cX8_rowOf 88 = .ok (.iconst 1, 1) := by decide +kernel
theorem dX8_rowOf_89 : decode cX8_rowOf 89 = .ok (.iadd, 1) := by decide +kernel
theorem dX8_rowOf_90 : decode cX8_rowOf 90 = .ok (.iastore, 1) := by decide +kernel
theorem dX8_rowOf_91 : decode cX8_rowOf 91 = .ok (.iinc 5 1, 3) := by decide +kernel
theorem dX8_rowOf_94 : decode cX8_rowOf 94 = .ok (.goto (-31), 3) := by decide +kernel
theorem dX8_rowOf_97 : decode cX8_rowOf 97 = .ok (.iinc 4 (-1), 3) := by decide +kernel
theorem dX8_rowOf_100 : decode cX8_rowOf 100 = .ok (.goto (-48), 3) := by decide +kernel
theorem dX8_rowOf_103 : decode cX8_rowOf 103 = .ok (.return_, 1) := by decide +kernel
theorem dX8_get_0 : decode cX8_get 0 = .ok (.iconst 0, 1) := by decide +kernel
theorem dX8_get_1 : decode cX8_get 1 = .ok (.istore_n 3, 1) := by decide +kernel
theorem dX8_get_2 : decode cX8_get 2 = .ok (.iload_n 3, 1) := by decide +kernel
theorem dX8_get_3 : decode cX8_get 3 = .ok (.aload_n 0, 1) := by decide +kernel
theorem dX8_get_4 : decode cX8_get 4 = .ok (.getfield 7, 3) := by decide +kernel
theorem dX8_get_7 : decode cX8_get 7 = .ok (.if_icmp .ge 23, 3) := by decide +kernel
theorem dX8_get_10 : decode cX8_get 10 = .ok (.aload_n 0, 1) := by decide +kernel
theorem dX8_get_11 : decode cX8_get 11 = .ok (.getfield 13, 3) := by decide +kernel
theorem dX8_get_14 : decode cX8_get 14 = .ok (.iload_n 1, 1) := by decide +kernel
theorem dX8_get_15 : decode cX8_get 15 = .ok (.bipush 7, 2) := by decide +kernel
theorem dX8_get_17 : decode cX8_get 17 = .ok (.imul, 1) := by decide +kernel
theorem dX8_get_18 : decode cX8_get 18 = .ok (.iload_n 3, 1) := by decide +kernel
theorem dX8_get_19 : decode cX8_get 19 = .ok (.iadd, 1) := by decide +kernel
theorem dX8_get_20 : decode cX8_get 20 = .ok (.aload_n 2, 1) := by decide +kernel
theorem dX8_get_21 : decode cX8_get 21 = .ok (.iload_n 3, 1) := by decide +kernel
theorem dX8_get_22 : decode cX8_get 22 = .ok (.iaload, 1) := by decide +kernel
theorem dX8_get_23 : decode cX8_get 23 = .ok (.iastore, 1) := by decide +kernel
theorem dX8_get_24 : decode cX8_get 24 = .ok (.iinc 3 1, 3) := by decide +kernel
theorem dX8_get_27 : decode cX8_get 27 = .ok (.goto (-25), 3) := by decide +kernel
theorem dX8_get_30 : decode cX8_get 30 = .ok (.aload_n 0, 1) := by decide +kernel
theorem dX8_get_31 : decode cX8_get 31 = .ok (.iconst (-1), 1) := by decide +kernel
theorem dX8_get_32 : decode cX8_get 32 = .ok (.putfield 26, 3) := by decide +kernel
theorem dX8_get_35 : decode cX8_get 35 = .ok (.aload_n 0, 1) := by decide +kernel
theorem dX8_get_36 : decode cX8_get 36 = .ok (.aload_n 0, 1) := by decide +kernel
theorem dX8_get_37 : decode cX8_get 37 = .ok (.aload_n 2, 1) := by decide +kernel
theorem dX8_get_38 : decode cX8_get 38 = .ok (.iconst 0, 1) := by decide +kernel
theorem dX8_get_39 : decode cX8_get 39 = .ok (.invokevirtual 45, 3) := by decide +kernel
theorem dX8_get_42 : decode cX8_get 42 = .ok (.invokevirtual 49, 3) := by decide +kernel
theorem dX8_get_45 : decode cX8_get 45 = .ok (.ireturn, 1) := by decide +kernel
theorem dX8_signOf_0 : decode cX8_signOf 0 = .ok (.iconst 1, 1) := by decide +kernel
theorem dX8_signOf_1 : decode cX8_signOf 1 = .ok (.istore_n 3, 1) := by decide +kernel
theorem dX8_signOf_2 : decode cX8_signOf 2 = .ok (.iconst 0, 1) := by decide +kernel
theorem dX8_signOf_3 : decode cX8_signOf 3 = .ok (.istore 4, 2) := by decide +kernel
theorem dX8_signOf_5 : decode cX8_signOf 5 = .ok (.iload 4, 2) := by decide +kernel
theorem dX8_signOf_7 : decode cX8_signOf 7 = .ok (.aload_n 0, 1) := by decide +kernel
theorem dX8_signOf_8 : decode cX8_signOf 8 = .ok (.getfield 7, 3) := by decide +kernel
theorem dX8_signOf_11 : decode cX8_signOf 11 = .ok (.if_icmp .ge 43, 3) := by decide +kernel
theorem dX8_signOf_14 : decode cX8_signOf 14 = .ok (.iconst 0, 1) := by decide +kernel
theorem dX8_signOf_15 : decode cX8_signOf 15 = .ok (.istore 5, 2) := by decide +kernel
theorem dX8_signOf_17 : decode cX8_signOf 17 = .ok (.iload 5, 2) := by decide +kernel
theorem dX8_signOf_19 : decode cX8_signOf 19 = .ok (.iload 4, 2) := by decide +kernel
theorem dX8_signOf_21 : decode cX8_signOf 21 = .ok (.if_icmp .ge 27, 3) := by decide +kernel
theorem dX8_signOf_24 : decode cX8_signOf 24 = .ok (.aload_n 1, 1) := by decide +kernel
theorem dX8_signOf_25 : decode cX8_signOf 25 = .ok (.iload_n 2, 1) := by decide +kernel
theorem dX8_signOf_26 : decode cX8_signOf 26 = .ok (.iload 5, 2) := by decide +kernel
theorem dX8_signOf_28 : decode cX8_signOf 28 = .ok (.iadd, 1) := by decide +kernel
theorem dX8_signOf_29 : decode cX8_signOf 29 = .ok (.iaload, 1) := by decide +kernel
theorem dX8_signOf_30 : decode cX8_signOf 30 = .ok (.aload_n 1, 1) := by decide +kernel
theorem dX8_signOf_31 : decode cX8_signOf 31 = .ok (.iload_n 2, 1) := by decide +kernel
theorem dX8_signOf_32 : decode cX8_signOf 32 = .ok (.iload 4, 2) := by decide +kernel
theorem dX8_signOf_34 : decode cX8_signOf 34 = .ok (.iadd, 1) := by decide +kernel
theorem dX8_signOf_35 : decode cX8_signOf 35 = .ok (.iaload, 1) := by decide +kernel
theorem dX8_signOf_36 : decode cX8_signOf 36 = .ok (.if_icmp .le 6, 3) := by decide +kernel
theorem dX8_signOf_39 : decode cX8_signOf 39 = .ok (.iload_n 3, 1) := by decide +kernel
theorem dX8_signOf_40 : decode cX8_signOf 40 = .ok (.ineg, 1) := by decide +kernel
theorem dX8_signOf_41 : decode cX8_signOf 41 = .ok (.istore_n 3, 1) := by decide +kernel
theorem dX8_signOf_42 : decode cX8_signOf 42 = .ok (.iinc 5 1, 3) := by decide +kernel
theorem dX8_signOf_45 : decode cX8_signOf 45 = .ok (.goto (-28), 3) := by decide +kernel
theorem dX8_signOf_48 : decode cX8_signOf 48 = .ok (.iinc 4 1, 3) := by decide +kernel
theorem dX8_signOf_51 : decode cX8_signOf 51 = .ok (.goto (-46), 3) := by decide +kernel
theorem dX8_signOf_54 : decode cX8_signOf 54 = .ok (.iload_n 3, 1) := by decide +kernel
theorem dX8_signOf_55 : decode cX8_signOf 55 = .ok (.ireturn, 1) := by decide +kernel
theorem dX8_ringFrom_0 : decode cX8_ringFrom 0 = .ok (.iconst 1, 1) := by decide +kernel
theorem dX8_ringFrom_1 : decode cX8_ringFrom 1 = .ok (.istore 4, 2) := by decide +kernel
theorem dX8_ringFrom_3 : decode cX8_ringFrom 3 = .ok (.aload_n 1, 1) := by decide +kernel
theorem dX8_ringFrom_4 : decode cX8_ringFrom 4 = .ok (.iload_n 2, 1) := by decide +kernel
theorem dX8_ringFrom_5 : decode cX8_ringFrom 5 = .ok (.iload_n 3, 1) := by decide +kernel
theorem dX8_ringFrom_6 : decode cX8_ringFrom 6 = .ok (.iadd, 1) := by decide +kernel
theorem dX8_ringFrom_7 : decode cX8_ringFrom 7 = .ok (.iaload, 1) := by decide +kernel
theorem dX8_ringFrom_8 : decode cX8_ringFrom 8 = .ok (.istore 5, 2) := by decide +kernel
theorem dX8_ringFrom_10 : decode cX8_ringFrom 10 = .ok (.iload 5, 2) := by decide +kernel
theorem dX8_ringFrom_12 : decode cX8_ringFrom 12 = .ok (.iload_n 3, 1) := by decide +kernel
theorem dX8_ringFrom_13 : decode cX8_ringFrom 13 = .ok (.if_icmp .eq 17, 3) := by decide +kernel
theorem dX8_ringFrom_16 : decode cX8_ringFrom 16 = .ok (.iinc 4 1, 3) := by decide +kernel
theorem dX8_ringFrom_19 : decode cX8_ringFrom 19 = .ok (.aload_n 1, 1) := by decide +kernel
theorem dX8_ringFrom_20 : decode cX8_ringFrom 20 = .ok (.iload_n 2, 1) := by decide +kernel
theorem dX8_ringFrom_21 : decode cX8_ringFrom 21 = .ok (.iload 5, 2) := by decide +kernel
theorem dX8_ringFrom_23 : decode cX8_ringFrom 23 = .ok (.iadd, 1) := by decide +kernel
theorem dX8_ringFrom_24 : decode cX8_ringFrom 24 = .ok (.iaload, 1) := by decide +kernel
theorem dX8_ringFrom_25 : decode cX8_ringFrom 25 = .ok (.istore 5, 2) := by decide +kernel
theorem dX8_ringFrom_27 : decode cX8_ringFrom 27 = .ok (.goto (-17), 3) := by decide +kernel
theorem dX8_ringFrom_30 : decode cX8_ringFrom 30 = .ok (.iload 4, 2) := by decide +kernel
theorem dX8_ringFrom_32 : decode cX8_ringFrom 32 = .ok (.ireturn, 1) := by decide +kernel
theorem dX8_isFirst_0 : decode cX8_isFirst 0 = .ok (.aload_n 1, 1) := by decide +kernel
theorem dX8_isFirst_1 : decode cX8_isFirst 1 = .ok (.iload_n 2, 1) := by decide +kernel
theorem dX8_isFirst_2 : decode cX8_isFirst 2 = .ok (.iload_n 3, 1) := by decide +kernel
theorem dX8_isFirst_3 : decode cX8_isFirst 3 = .ok (.iadd, 1) := by decide +kernel
theorem dX8_isFirst_4 : decode cX8_isFirst 4 = .ok (.iaload, 1) := by decide +kernel
theorem dX8_isFirst_5 : decode cX8_isFirst 5 = .ok (.istore 4, 2) := by decide +kernel
theorem dX8_isFirst_7 : decode cX8_isFirst 7 = .ok (.iload 4, 2) := by decide +kernel
theorem dX8_isFirst_9 : decode cX8_isFirst 9 = .ok (.iload_n 3, 1) := by decide +kernel
theorem dX8_isFirst_10 : decode cX8_isFirst 10 = .ok (.if_icmp .eq 22, 3) := by decide +kernel
theorem dX8_isFirst_13 : decode cX8_isFirst 13 = .ok (.iload 4, 2) := by decide +kernel
theorem dX8_isFirst_15 : decode cX8_isFirst 15 = .ok (.iload_n 3, 1) := by decide +kernel
theorem dX8_isFirst_16 : decode cX8_isFirst 16 = .ok (.if_icmp .ge 5, 3) := by decide +kernel
theorem dX8_isFirst_19 : decode cX8_isFirst 19 = .ok (.iconst 0, 1) := by decide +kernel
theorem dX8_isFirst_20 : decode cX8_isFirst 20 = .ok (.ireturn, 1) := by decide +kernel
theorem dX8_isFirst_21 : decode cX8_isFirst 21 = .ok (.aload_n 1, 1) := by decide +kernel
theorem dX8_isFirst_22 : decode cX8_isFirst 22 = .ok (.iload_n 2, 1) := by decide +kernel
theorem dX8_isFirst_23 : decode cX8_isFirst 23 = .ok (.iload 4, 2) := by decide +kernel
theorem dX8_isFirst_25 : decode cX8_isFirst 25 = .ok (.iadd, 1) := by decide +kernel
theorem dX8_isFirst_26 : decode cX8_isFirst 26 = .ok (.iaload, 1) := by decide +kernel
theorem dX8_isFirst_27 : decode cX8_isFirst 27 = .ok (.istore 4, 2) := by decide +kernel
theorem dX8_isFirst_29 : decode cX8_isFirst 29 = .ok (.goto (-22), 3) := by decide +kernel
theorem dX8_isFirst_32 : decode cX8_isFirst 32 = .ok (.iconst 1, 1) := by decide +kernel
theorem dX8_isFirst_33 : decode cX8_isFirst 33 = .ok (.ireturn, 1) := by decide +kernel
theorem dX8_ringsOf_0 : decode cX8_ringsOf 0 = .ok (.iconst 0, 1) := by decide +kernel
theorem dX8_ringsOf_1 : decode cX8_ringsOf 1 = .ok (.istore_n 3, 1) := by decide +kernel
theorem dX8_ringsOf_2 : decode cX8_ringsOf 2 = .ok (.iconst 0, 1) := by decide +kernel
theorem dX8_ringsOf_3 : decode cX8_ringsOf 3 = .ok (.istore 4, 2) := by decide +kernel
theorem dX8_ringsOf_5 : decode cX8_ringsOf 5 = .ok (.iload 4, 2) := by decide +kernel
theorem dX8_ringsOf_7 : decode cX8_ringsOf 7 = .ok (.aload_n 0, 1) := by decide +kernel
theorem dX8_ringsOf_8 : decode cX8_ringsOf 8 = .ok (.getfield 7, 3) := by decide +kernel
theorem dX8_ringsOf_11 : decode cX8_ringsOf 11 = .ok (.if_icmp .ge 28, 3) := by decide +kernel
theorem dX8_ringsOf_14 : decode cX8_ringsOf 14 = .ok (.iload_n 3, 1) := by decide +kernel
theorem dX8_ringsOf_15 : decode cX8_ringsOf 15 = .ok (.aload_n 0, 1) := by decide +kernel
theorem dX8_ringsOf_16 : decode cX8_ringsOf 16 = .ok (.aload_n 1, 1) := by decide +kernel
theorem dX8_ringsOf_17 : decode cX8_ringsOf 17 = .ok (.iload_n 2, 1) := by decide +kernel
theorem dX8_ringsOf_18 : decode cX8_ringsOf 18 = .ok (.iload 4, 2) := by decide +kernel
theorem dX8_ringsOf_20 : decode cX8_ringsOf 20 = .ok (.invokevirtual 53, 3) := by decide +kernel
theorem dX8_ringsOf_23 : decode cX8_ringsOf 23 = .ok (.ifCond .eq 7, 3) := by decide +kernel
theorem dX8_ringsOf_26 : decode cX8_ringsOf 26 = .ok (.iconst 1, 1) := by decide +kernel
theorem dX8_ringsOf_27 : decode cX8_ringsOf 27 = .ok (.goto 4, 3) := by decide +kernel
theorem dX8_ringsOf_30 : decode cX8_ringsOf 30 = .ok (.iconst 0, 1) := by decide +kernel
theorem dX8_ringsOf_31 : decode cX8_ringsOf 31 = .ok (.iadd, 1) := by decide +kernel
theorem dX8_ringsOf_32 : decode cX8_ringsOf 32 = .ok (.istore_n 3, 1) := by decide +kernel
theorem dX8_ringsOf_33 : decode cX8_ringsOf 33 = .ok (.iinc 4 1, 3) := by decide +kernel
theorem dX8_ringsOf_36 : decode cX8_ringsOf 36 = .ok (.goto (-31), 3) := by decide +kernel
theorem dX8_ringsOf_39 : decode cX8_ringsOf 39 = .ok (.iload_n 3, 1) := by decide +kernel
theorem dX8_ringsOf_40 : decode cX8_ringsOf 40 = .ok (.ireturn, 1) := by decide +kernel
theorem dX8_gcd_0 : decode cX8_gcd 0 = .ok (.iload_n 1, 1) := by decide +kernel
theorem dX8_gcd_1 : decode cX8_gcd 1 = .ok (.ifCond .ne 7, 3) := by decide +kernel
theorem dX8_gcd_4 : decode cX8_gcd 4 = .ok (.iload_n 0, 1) := by decide +kernel
theorem dX8_gcd_5 : decode cX8_gcd 5 = .ok (.goto 10, 3) := by decide +kernel
theorem dX8_gcd_8 : decode cX8_gcd 8 = .ok (.iload_n 1, 1) := by decide +kernel
theorem dX8_gcd_9 : decode cX8_gcd 9 = .ok (.iload_n 0, 1) := by decide +kernel
theorem dX8_gcd_10 : decode cX8_gcd 10 = .ok (.iload_n 1, 1) := by decide +kernel
theorem dX8_gcd_11 : decode cX8_gcd 11 = .ok (.irem, 1) := by decide +kernel
theorem dX8_gcd_12 : decode cX8_gcd 12 = .ok (.invokestatic 57, 3) := by decide +kernel
theorem dX8_gcd_15 : decode cX8_gcd 15 = .ok (.ireturn, 1) := by decide +kernel
theorem dX8_orderOf_0 : decode cX8_orderOf 0 = .ok (.iconst 1, 1) := by decide +kernel
theorem dX8_orderOf_1 : decode cX8_orderOf 1 = .ok (.istore_n 3, 1) := by decide +kernel
theorem dX8_orderOf_2 : decode cX8_orderOf 2 = .ok (.iconst 0, 1) := by decide +kernel
theorem dX8_orderOf_3 : decode cX8_orderOf 3 = .ok (.istore 4, 2) := by decide +kernel
theorem dX8_orderOf_5 : decode cX8_orderOf 5 = .ok (.iload 4, 2) := by decide +kernel
