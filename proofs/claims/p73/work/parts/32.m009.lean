theorem dX12_alike_0 : decode cX12_alike 0 = .ok (.aload_n 0, 1) := by decide +kernel
theorem dX12_alike_1 : decode cX12_alike 1 = .ok (.iconst 0, 1) := by decide +kernel
theorem dX12_alike_2 : decode cX12_alike 2 = .ok (.putfield 77, 3) := by decide +kernel
theorem dX12_alike_5 : decode cX12_alike 5 = .ok (.aload_n 0, 1) := by decide +kernel
theorem dX12_alike_6 : decode cX12_alike 6 = .ok (.iload_n 1, 1) := by decide +kernel
theorem dX12_alike_7 : decode cX12_alike 7 = .ok (.invokevirtual 265, 3) := by decide +kernel
theorem dX12_alike_10 : decode cX12_alike 10 = .ok (.ifCond .eq 23, 3) := by decide +kernel
theorem dX12_alike_13 : decode cX12_alike 13 = .ok (.aload_n 0, 1) := by decide +kernel
theorem dX12_alike_14 : decode cX12_alike 14 = .ok (.iload_n 2, 1) := by decide +kernel
theorem dX12_alike_15 : decode cX12_alike 15 = .ok (.invokevirtual 265, 3) := by decide +kernel
theorem dX12_alike_18 : decode cX12_alike 18 = .ok (.ifCond .eq 15, 3) := by decide +kernel
theorem dX12_alike_21 : decode cX12_alike 21 = .ok (.iload_n 3, 1) := by decide +kernel
theorem dX12_alike_22 : decode cX12_alike 22 = .ok (.i2l, 1) := by decide +kernel
theorem dX12_alike_23 : decode cX12_alike 23 = .ok (.lconst 1, 1) := by decide +kernel
theorem dX12_alike_24 : decode cX12_alike 24 = .ok (.ldc2_w 373, 3) := by decide +kernel
theorem dX12_alike_27 : decode cX12_alike 27 = .ok (.invokestatic 82, 3) := by decide +kernel
theorem dX12_alike_30 : decode cX12_alike 30 = .ok (.ifCond .ne 6, 3) := by decide +kernel
theorem dX12_alike_33 : decode cX12_alike 33 = .ok (.bipush (-2), 2) := by decide +kernel
theorem dX12_alike_35 : decode cX12_alike 35 = .ok (.ireturn, 1) := by decide +kernel
theorem dX12_alike_36 : decode cX12_alike 36 = .ok (.aload_n 0, 1) := by decide +kernel
theorem dX12_alike_37 : decode cX12_alike 37 = .ok (.invokevirtual 326, 3) := by decide +kernel
theorem dX12_alike_40 : decode cX12_alike 40 = .ok (.iconst 0, 1) := by decide +kernel
theorem dX12_alike_41 : decode cX12_alike 41 = .ok (.istore 4, 2) := by decide +kernel
theorem dX12_alike_43 : decode cX12_alike 43 = .ok (.iconst 0, 1) := by decide +kernel
theorem dX12_alike_44 : decode cX12_alike 44 = .ok (.istore 5, 2) := by decide +kernel
theorem dX12_alike_46 : decode cX12_alike 46 = .ok (.iload 5, 2) := by decide +kernel
theorem dX12_alike_48 : decode cX12_alike 48 = .ok (.iload_n 3, 1) := by decide +kernel
theorem dX12_alike_49 : decode cX12_alike 49 = .ok (.if_icmp .ge 32, 3) := by decide +kernel
theorem dX12_alike_52 : decode cX12_alike 52 = .ok (.iload 4, 2) := by decide +kernel
theorem dX12_alike_54 : decode cX12_alike 54 = .ok (.aload_n 0, 1) := by decide +kernel
theorem dX12_alike_55 : decode cX12_alike 55 = .ok (.iload_n 1, 1) := by decide +kernel
theorem dX12_alike_56 : decode cX12_alike 56 = .ok (.iload 5, 2) := by decide +kernel
theorem dX12_alike_58 : decode cX12_alike 58 = .ok (.iload_n 2, 1) := by decide +kernel
theorem dX12_alike_59 : decode cX12_alike 59 = .ok (.iload 5, 2) := by decide +kernel
theorem dX12_alike_61 : decode cX12_alike 61 = .ok (.invokevirtual 366, 3) := by decide +kernel
theorem dX12_alike_64 : decode cX12_alike 64 = .ok (.ifCond .eq 7, 3) := by decide +kernel
theorem dX12_alike_67 : decode cX12_alike 67 = .ok (.iconst 1, 1) := by decide +kernel
theorem dX12_alike_68 : decode cX12_alike 68 = .ok (.goto 4, 3) := by decide +kernel
theorem dX12_alike_71 : decode cX12_alike 71 = .ok (.iconst 0, 1) := by decide +kernel
theorem dX12_alike_72 : decode cX12_alike 72 = .ok (.iadd, 1) := by decide +kernel
theorem dX12_alike_73 : decode cX12_alike 73 = .ok (.istore 4, 2) := by decide +kernel
theorem dX12_alike_75 : decode cX12_alike 75 = .ok (.iinc 5 1, 3) := by decide +kernel
theorem dX12_alike_78 : decode cX12_alike 78 = .ok (.goto (-32), 3) := by decide +kernel
theorem dX12_alike_81 : decode cX12_alike 81 = .ok (.iload 4, 2) := by decide +kernel
theorem dX12_alike_83 : decode cX12_alike 83 = .ok (.ireturn, 1) := by decide +kernel
theorem dX12_ask_0 : decode cX12_ask 0 = .ok (.aload_n 0, 1) := by decide +kernel
theorem dX12_ask_1 : decode cX12_ask 1 = .ok (.iconst 0, 1) := by decide +kernel
theorem dX12_ask_2 : decode cX12_ask 2 = .ok (.putfield 77, 3) := by decide +kernel
theorem dX12_ask_5 : decode cX12_ask 5 = .ok (.aload_n 0, 1) := by decide +kernel
theorem dX12_ask_6 : decode cX12_ask 6 = .ok (.iload_n 1, 1) := by decide +kernel
theorem dX12_ask_7 : decode cX12_ask 7 = .ok (.aload_n 0, 1) := by decide +kernel
theorem dX12_ask_8 : decode cX12_ask 8 = .ok (.iload_n 2, 1) := by decide +kernel
theorem dX12_ask_9 : decode cX12_ask 9 = .ok (.invokevirtual 265, 3) := by decide +kernel
theorem dX12_ask_12 : decode cX12_ask 12 = .ok (.invokevirtual 393, 3) := by decide +kernel
theorem dX12_ask_15 : decode cX12_ask 15 = .ok (.istore_n 3, 1) := by decide +kernel
theorem dX12_ask_16 : decode cX12_ask 16 = .ok (.iload_n 3, 1) := by decide +kernel
theorem dX12_ask_17 : decode cX12_ask 17 = .ok (.ifCond .eq 5, 3) := by decide +kernel
theorem dX12_ask_20 : decode cX12_ask 20 = .ok (.iload_n 3, 1) := by decide +kernel
theorem dX12_ask_21 : decode cX12_ask 21 = .ok (.ireturn, 1) := by decide +kernel
theorem dX12_ask_22 : decode cX12_ask 22 = .ok (.aload_n 0, 1) := by decide +kernel
theorem dX12_ask_23 : decode cX12_ask 23 = .ok (.iload_n 1, 1) := by decide +kernel
theorem dX12_ask_24 : decode cX12_ask 24 = .ok (.iload_n 2, 1) := by decide +kernel
theorem dX12_ask_25 : decode cX12_ask 25 = .ok (.invokevirtual 397, 3) := by decide +kernel
theorem dX12_ask_28 : decode cX12_ask 28 = .ok (.aload_n 0, 1) := by decide +kernel
theorem dX12_ask_29 : decode cX12_ask 29 = .ok (.getfield 384, 3) := by decide +kernel
theorem dX12_ask_32 : decode cX12_ask 32 = .ok (.ireturn, 1) := by decide +kernel
theorem dX12_date_0 : decode cX12_date 0 = .ok (.aload_n 0, 1) := by decide +kernel
theorem dX12_date_1 : decode cX12_date 1 = .ok (.iconst 0, 1) := by decide +kernel
theorem dX12_date_2 : decode cX12_date 2 = .ok (.putfield 77, 3) := by decide +kernel
theorem dX12_date_5 : decode cX12_date 5 = .ok (.aload_n 0, 1) := by decide +kernel
theorem dX12_date_6 : decode cX12_date 6 = .ok (.iload_n 1, 1) := by decide +kernel
theorem dX12_date_7 : decode cX12_date 7 = .ok (.aload_n 0, 1) := by decide +kernel
theorem dX12_date_8 : decode cX12_date 8 = .ok (.iload_n 2, 1) := by decide +kernel
theorem dX12_date_9 : decode cX12_date 9 = .ok (.iload_n 3, 1) := by decide +kernel
theorem dX12_date_10 : decode cX12_date 10 = .ok (.invokevirtual 323, 3) := by decide +kernel
theorem dX12_date_13 : decode cX12_date 13 = .ok (.invokevirtual 393, 3) := by decide +kernel
theorem dX12_date_16 : decode cX12_date 16 = .ok (.istore 4, 2) := by decide +kernel
theorem dX12_date_18 : decode cX12_date 18 = .ok (.iload 4, 2) := by decide +kernel
theorem dX12_date_20 : decode cX12_date 20 = .ok (.ifCond .eq 6, 3) := by decide +kernel
theorem dX12_date_23 : decode cX12_date 23 = .ok (.iload 4, 2) := by decide +kernel
theorem dX12_date_25 : decode cX12_date 25 = .ok (.ireturn, 1) := by decide +kernel
theorem dX12_date_26 : decode cX12_date 26 = .ok (.aload_n 0, 1) := by decide +kernel
theorem dX12_date_27 : decode cX12_date 27 = .ok (.invokevirtual 326, 3) := by decide +kernel
theorem dX12_date_30 : decode cX12_date 30 = .ok (.iconst 0, 1) := by decide +kernel
theorem dX12_date_31 : decode cX12_date 31 = .ok (.istore 5, 2) := by decide +kernel
theorem dX12_date_33 : decode cX12_date 33 = .ok (.iload 5, 2) := by decide +kernel
theorem dX12_date_35 : decode cX12_date 35 = .ok (.aload_n 0, 1) := by decide +kernel
theorem dX12_date_36 : decode cX12_date 36 = .ok (.getfield 62, 3) := by decide +kernel
theorem dX12_date_39 : decode cX12_date 39 = .ok (.iload_n 2, 1) := by decide +kernel
theorem dX12_date_40 : decode cX12_date 40 = .ok (.iaload, 1) := by decide +kernel
theorem dX12_date_41 : decode cX12_date 41 = .ok (.if_icmp .ge 27, 3) := by decide +kernel
theorem dX12_date_44 : decode cX12_date 44 = .ok (.aload_n 0, 1) := by decide +kernel
theorem dX12_date_45 : decode cX12_date 45 = .ok (.iload_n 1, 1) := by decide +kernel
theorem dX12_date_46 : decode cX12_date 46 = .ok (.iload_n 2, 1) := by decide +kernel
theorem dX12_date_47 : decode cX12_date 47 = .ok (.iload_n 3, 1) := by decide +kernel
theorem dX12_date_48 : decode cX12_date 48 = .ok (.iload 5, 2) := by decide +kernel
theorem dX12_date_50 : decode cX12_date 50 = .ok (.iadd, 1) := by decide +kernel
theorem dX12_date_51 : decode cX12_date 51 = .ok (.invokevirtual 378, 3) := by decide +kernel
theorem dX12_date_54 : decode cX12_date 54 = .ok (.ifCond .eq 8, 3) := by decide +kernel
theorem dX12_date_57 : decode cX12_date 57 = .ok (.iload_n 3, 1) := by decide +kernel
theorem dX12_date_58 : decode cX12_date 58 = .ok (.iload 5, 2) := by decide +kernel
theorem dX12_date_60 : decode cX12_date 60 = .ok (.iadd, 1) := by decide +kernel
theorem dX12_date_61 : decode cX12_date 61 = .ok (.ireturn, 1) := by decide +kernel
theorem dX12_date_62 : decode cX12_date 62 = .ok (.iinc 5 1, 3) := by decide +kernel
theorem dX12_date_65 : decode cX12_date 65 = .ok (.goto (-32), 3) := by decide +kernel
theorem dX12_date_68 : decode cX12_date 68 = .ok (.iconst (-1), 1) := by decide +kernel
theorem dX12_date_69 : decode cX12_date 69 = .ok (.ireturn, 1) := by decide +kernel
theorem dX12_differ_0 : decode cX12_differ 0 = .ok (.aload_n 0, 1) := by decide +kernel
theorem dX12_differ_1 : decode cX12_differ 1 = .ok (.iconst 0, 1) := by decide +kernel
theorem dX12_differ_2 : decode cX12_differ 2 = .ok (.putfield 77, 3) := by decide +kernel
theorem dX12_differ_5 : decode cX12_differ 5 = .ok (.aload_n 0, 1) := by decide +kernel
theorem dX12_differ_6 : decode cX12_differ 6 = .ok (.iload_n 1, 1) := by decide +kernel
theorem dX12_differ_7 : decode cX12_differ 7 = .ok (.invokevirtual 265, 3) := by decide +kernel
theorem dX12_differ_10 : decode cX12_differ 10 = .ok (.ifCond .eq 20, 3) := by decide +kernel
theorem dX12_differ_13 : decode cX12_differ 13 = .ok (.aload_n 0, 1) := by decide +kernel
theorem dX12_differ_14 : decode cX12_differ 14 = .ok (.iload_n 2, 1) := by decide +kernel
theorem dX12_differ_15 : decode cX12_differ 15 = .ok (.invokevirtual 265, 3) := by decide +kernel
theorem dX12_differ_18 : decode cX12_differ 18 = .ok (.ifCond .eq 12, 3) := by decide +kernel
theorem dX12_differ_21 : decode cX12_differ 21 = .ok (.aload_n 0, 1) := by decide +kernel
theorem dX12_differ_22 : decode cX12_differ 22 = .ok (.iload_n 1, 1) := by decide +kernel
theorem dX12_differ_23 : decode cX12_differ 23 = .ok (.iload_n 2, 1) := by decide +kernel
theorem dX12_differ_24 : decode cX12_differ 24 = .ok (.invokevirtual 370, 3) := by decide +kernel
theorem dX12_differ_27 : decode cX12_differ 27 = .ok (.goto 5, 3) := by decide +kernel
theorem dX12_differ_30 : decode cX12_differ 30 = .ok (.bipush (-2), 2) := by decide +kernel
theorem dX12_differ_32 : decode cX12_differ 32 = .ok (.ireturn, 1) := by decide +kernel
theorem dX12_differOf_0 : decode cX12_differOf 0 = .ok (.aload_n 0, 1) := by decide +kernel
theorem dX12_differOf_1 : decode cX12_differOf 1 = .ok (.invokevirtual 326, 3) := by decide +kernel
theorem dX12_differOf_4 : decode cX12_differOf 4 = .ok (.iconst 0, 1) := by decide +kernel
theorem dX12_differOf_5 : decode cX12_differOf 5 = .ok (.istore_n 3, 1) := by decide +kernel
theorem dX12_differOf_6 : decode cX12_differOf 6 = .ok (.iload_n 3, 1) := by decide +kernel
theorem dX12_differOf_7 : decode cX12_differOf 7 = .ok (.aload_n 0, 1) := by decide +kernel
theorem dX12_differOf_8 : decode cX12_differOf 8 = .ok (.getfield 62, 3) := by decide +kernel
theorem dX12_differOf_11 : decode cX12_differOf 11 = .ok (.iload_n 1, 1) := by decide +kernel
theorem dX12_differOf_12 : decode cX12_differOf 12 = .ok (.iaload, 1) := by decide +kernel
theorem dX12_differOf_13 : decode cX12_differOf 13 = .ok (.aload_n 0, 1) := by decide +kernel
theorem dX12_differOf_14 : decode cX12_differOf 14 = .ok (.getfield 62, 3) := by decide +kernel
theorem dX12_differOf_17 : decode cX12_differOf 17 = .ok (.iload_n 2, 1) := by decide +kernel
theorem dX12_differOf_18 : decode cX12_differOf 18 = .ok (.iaload, 1) := by decide +kernel
theorem dX12_differOf_19 : decode cX12_differOf 19 = .ok (.imul, 1) := by decide +kernel
theorem dX12_differOf_20 : decode cX12_differOf 20 = .ok (.if_icmp .ge 22, 3) := by decide +kernel
theorem dX12_differOf_23 : decode cX12_differOf 23 = .ok (.aload_n 0, 1) := by decide +kernel
theorem dX12_differOf_24 : decode cX12_differOf 24 = .ok (.iload_n 1, 1) := by decide +kernel
theorem dX12_differOf_25 : decode cX12_differOf 25 = .ok (.iload_n 3, 1) := by decide +kernel
theorem dX12_differOf_26 : decode cX12_differOf 26 = .ok (.iload_n 2, 1) := by decide +kernel
theorem dX12_differOf_27 : decode cX12_differOf 27 = .ok (.iload_n 3, 1) := by decide +kernel
theorem dX12_differOf_28 : decode cX12_differOf 28 = .ok (.invokevirtual 366, 3) := by decide +kernel
theorem dX12_differOf_31 : decode cX12_differOf 31 = .ok (.ifCond .ne 5, 3) := by decide +kernel
theorem dX12_differOf_34 : decode cX12_differOf 34 = .ok (.iload_n 3, 1) := by decide +kernel
theorem dX12_differOf_35 : decode cX12_differOf 35 = .ok (.ireturn, 1) := by decide +kernel
theorem dX12_differOf_36 : decode cX12_differOf 36 = .ok (.iinc 3 1, 3) := by decide +kernel
theorem dX12_differOf_39 : decode cX12_differOf 39 = .ok (.goto (-33), 3) := by decide +kernel
theorem dX12_differOf_42 : decode cX12_differOf 42 = .ok (.iconst (-1), 1) := by decide +kernel
theorem dX12_differOf_43 : decode cX12_differOf 43 = .ok (.ireturn, 1) := by decide +kernel
theorem dX12_differs_0 : decode cX12_differs 0 = .ok (.aload_n 0, 1) := by decide +kernel
theorem dX12_differs_1 : decode cX12_differs 1 = .ok (.iconst 0, 1) := by decide +kernel
theorem dX12_differs_2 : decode cX12_differs 2 = .ok (.putfield 77, 3) := by decide +kernel
theorem dX12_differs_5 : decode cX12_differs 5 = .ok (.aload_n 0, 1) := by decide +kernel
theorem dX12_differs_6 : decode cX12_differs 6 = .ok (.iload_n 1, 1) := by decide +kernel
theorem dX12_differs_7 : decode cX12_differs 7 = .ok (.invokevirtual 265, 3) := by decide +kernel
theorem dX12_differs_10 : decode cX12_differs 10 = .ok (.ifCond .eq 11, 3) := by decide +kernel
theorem dX12_differs_13 : decode cX12_differs 13 = .ok (.aload_n 0, 1) := by decide +kernel
theorem dX12_differs_14 : decode cX12_differs 14 = .ok (.iload_n 2, 1) := by decide +kernel
theorem dX12_differs_15 : decode cX12_differs 15 = .ok (.invokevirtual 265, 3) := by decide +kernel
theorem dX12_differs_18 : decode cX12_differs 18 = .ok (.ifCond .ne 6, 3) := by decide +kernel
theorem dX12_differs_21 : decode cX12_differs 21 = .ok (.bipush (-2), 2) := by decide +kernel
theorem dX12_differs_23 : decode cX12_differs 23 = .ok (.ireturn, 1) := by decide +kernel
theorem dX12_differs_24 : decode cX12_differs 24 = .ok (.aload_n 0, 1) := by decide +kernel
theorem dX12_differs_25 : decode cX12_differs 25 = .ok (.iload_n 1, 1) := by decide +kernel
theorem dX12_differs_26 : decode cX12_differs 26 = .ok (.iload_n 2, 1) := by decide +kernel
theorem dX12_differs_27 : decode cX12_differs 27 = .ok (.invokevirtual 370, 3) := by decide +kernel
theorem dX12_differs_30 : decode cX12_differs 30 = .ok (.istore_n 3, 1) := by decide +kernel
theorem dX12_differs_31 : decode cX12_differs 31 = .ok (.iconst 0, 1) := by decide +kernel
theorem dX12_differs_32 : decode cX12_differs 32 = .ok (.istore 4, 2) := by decide +kernel
theorem dX12_differs_34 : decode cX12_differs 34 = .ok (.iload 4, 2) := by decide +kernel
theorem dX12_differs_36 : decode cX12_differs 36 = .ok (.aload_n 0, 1) := by decide +kernel
theorem dX12_differs_37 : decode cX12_differs 37 = .ok (.invokevirtual 257, 3) := by decide +kernel
theorem dX12_differs_40 : decode cX12_differs 40 = .ok (.if_icmp .ge 36, 3) := by decide +kernel
theorem dX12_differs_43 : decode cX12_differs 43 = .ok (.iload_n 3, 1) := by decide +kernel
theorem dX12_differs_44 : decode cX12_differs 44 = .ok (.iconst (-1), 1) := by decide +kernel
theorem dX12_differs_45 : decode cX12_differs 45 = .ok (.if_icmp .eq 31, 3) := by decide +kernel
theorem dX12_differs_48 : decode cX12_differs 48 = .ok (.aload_n 0, 1) := by decide +kernel
theorem dX12_differs_49 : decode cX12_differs 49 = .ok (.iload_n 1, 1) := by decide +kernel
theorem dX12_differs_50 : decode cX12_differs 50 = .ok (.iload_n 3, 1) := by decide +kernel
theorem dX12_differs_51 : decode cX12_differs 51 = .ok (.iload 4, 2) := by decide +kernel
theorem dX12_differs_53 : decode cX12_differs 53 = .ok (.invokevirtual 289, 3) := by decide +kernel
theorem dX12_differs_56 : decode cX12_differs 56 = .ok (.aload_n 0, 1) := by decide +kernel
theorem dX12_differs_57 : decode cX12_differs 57 = .ok (.iload_n 2, 1) := by decide +kernel
theorem dX12_differs_58 : decode cX12_differs 58 = .ok (.iload_n 3, 1) := by decide +kernel
theorem dX12_differs_59 : decode cX12_differs 59 = .ok (.iload 4, 2) := by decide +kernel
theorem dX12_differs_61 : decode cX12_differs 61 = .ok (.invokevirtual 289, 3) := by decide +kernel
theorem dX12_differs_64 : decode cX12_differs 64 = .ok (.if_icmp .eq 6, 3) := by decide +kernel
theorem dX12_differs_67 : decode cX12_differs 67 = .ok (.iload 4, 2) := by decide +kernel
theorem dX12_differs_69 : decode cX12_differs 69 = .ok (.ireturn, 1) := by decide +kernel
theorem dX12_differs_70 : decode cX12_differs 70 = .ok (.iinc 4 1, 3) := by decide +kernel
theorem dX12_differs_73 : decode cX12_differs 73 = .ok (.goto (-39), 3) := by decide +kernel
theorem dX12_differs_76 : decode cX12_differs 76 = .ok (.iconst (-1), 1) := by decide +kernel
theorem dX12_differs_77 : decode cX12_differs 77 = .ok (.ireturn, 1) := by decide +kernel
theorem dX12_isSlot_0 : decode cX12_isSlot 0 = .ok (.iload_n 0, 1) := by decide +kernel
theorem dX12_isSlot_1 : decode cX12_isSlot 1 = .ok (.i2l, 1) := by decide +kernel
theorem dX12_isSlot_2 : decode cX12_isSlot 2 = .ok (.lconst 0, 1) := by decide +kernel
theorem dX12_isSlot_3 : decode cX12_isSlot 3 = .ok (.ldc2_w 80, 3) := by decide +kernel
theorem dX12_isSlot_6 : decode cX12_isSlot 6 = .ok (.invokestatic 82, 3) := by decide +kernel
theorem dX12_isSlot_9 : decode cX12_isSlot 9 = .ok (.ireturn, 1) := by decide +kernel
theorem dX12_isSo_0 : decode cX12_isSo 0 = .ok (.iconst 0, 1) := by decide +kernel
theorem dX12_isSo_1 : decode cX12_isSo 1 = .ok (.istore 4, 2) := by decide +kernel
theorem dX12_isSo_3 : decode cX12_isSo 3 = .ok (.iload 4, 2) := by decide +kernel
theorem dX12_isSo_5 : decode cX12_isSo 5 = .ok (.aload_n 0, 1) := by decide +kernel
theorem dX12_isSo_6 : decode cX12_isSo 6 = .ok (.getfield 13, 3) := by decide +kernel
theorem dX12_isSo_9 : decode cX12_isSo 9 = .ok (.iload_n 1, 1) := by decide +kernel
theorem dX12_isSo_10 : decode cX12_isSo 10 = .ok (.iaload, 1) := by decide +kernel
theorem dX12_isSo_11 : decode cX12_isSo 11 = .ok (.if_icmp .ge 49, 3) := by decide +kernel
theorem dX12_isSo_14 : decode cX12_isSo 14 = .ok (.aload_n 0, 1) := by decide +kernel
theorem dX12_isSo_15 : decode cX12_isSo 15 = .ok (.iload_n 2, 1) := by decide +kernel
theorem dX12_isSo_16 : decode cX12_isSo 16 = .ok (.iload_n 3, 1) := by decide +kernel
theorem dX12_isSo_17 : decode cX12_isSo 17 = .ok (.aload_n 0, 1) := by decide +kernel
theorem dX12_isSo_18 : decode cX12_isSo 18 = .ok (.getfield 16, 3) := by decide +kernel
theorem dX12_isSo_21 : decode cX12_isSo 21 = .ok (.bipush 60, 2) := by decide +kernel
theorem dX12_isSo_23 : decode cX12_isSo 23 = .ok (.iload_n 1, 1) := by decide +kernel
theorem dX12_isSo_24 : decode cX12_isSo 24 = .ok (.imul, 1) := by decide +kernel
theorem dX12_isSo_25 : decode cX12_isSo 25 = .ok (.iload 4, 2) := by decide +kernel
theorem dX12_isSo_27 : decode cX12_isSo 27 = .ok (.iadd, 1) := by decide +kernel
theorem dX12_isSo_28 : decode cX12_isSo 28 = .ok (.laload, 1) := by decide +kernel
theorem dX12_isSo_29 : decode cX12_isSo 29 = .ok (.l2i, 1) := by decide +kernel
theorem dX12_isSo_30 : decode cX12_isSo 30 = .ok (.invokevirtual 338, 3) := by decide +kernel
theorem dX12_isSo_33 : decode cX12_isSo 33 = .ok (.i2l, 1) := by decide +kernel
theorem dX12_isSo_34 : decode cX12_isSo 34 = .ok (.aload_n 0, 1) := by decide +kernel
theorem dX12_isSo_35 : decode cX12_isSo 35 = .ok (.getfield 16, 3) := by decide +kernel
theorem dX12_isSo_38 : decode cX12_isSo 38 = .ok (.bipush 60, 2) := by decide +kernel
theorem dX12_isSo_40 : decode cX12_isSo 40 = .ok (.iload_n 1, 1) := by decide +kernel
theorem dX12_isSo_41 : decode cX12_isSo 41 = .ok (.imul, 1) := by decide +kernel
theorem dX12_isSo_42 : decode cX12_isSo 42 = .ok (.iload 4, 2) := by decide +kernel
theorem dX12_isSo_44 : decode cX12_isSo 44 = .ok (.iadd, 1) := by decide +kernel
theorem dX12_isSo_45 : decode cX12_isSo 45 = .ok (.iconst 1, 1) := by decide +kernel
theorem dX12_isSo_46 : decode cX12_isSo 46 = .ok (.iadd, 1) := by decide +kernel
theorem dX12_isSo_47 : decode cX12_isSo 47 = .ok (.laload, 1) := by decide +kernel
theorem dX12_isSo_48 : decode cX12_isSo 48 = .ok (.lcmp, 1) := by decide +kernel
theorem dX12_isSo_49 : decode cX12_isSo 49 = .ok (.ifCond .eq 5, 3) := by decide +kernel
theorem dX12_isSo_52 : decode cX12_isSo 52 = .ok (.iconst 0, 1) := by decide +kernel
theorem dX12_isSo_53 : decode cX12_isSo 53 = .ok (.ireturn, 1) := by decide +kernel
theorem dX12_isSo_54 : decode cX12_isSo 54 = .ok (.iinc 4 2, 3) := by decide +kernel
theorem dX12_isSo_57 : decode cX12_isSo 57 = .ok (.goto (-54), 3) := by decide +kernel
theorem dX12_isSo_60 : decode cX12_isSo 60 = .ok (.iconst 1, 1) := by decide +kernel
theorem dX12_isSo_61 : decode cX12_isSo 61 = .ok (.ireturn, 1) := by decide +kernel
theorem dX12_laysAsk_0 : decode cX12_laysAsk 0 = .ok (.aload_n 0, 1) := by decide +kernel
theorem dX12_laysAsk_1 : decode cX12_laysAsk 1 = .ok (.iload_n 1, 1) := by decide +kernel
theorem dX12_laysAsk_2 : decode cX12_laysAsk 2 = .ok (.iload_n 2, 1) := by decide +kernel
theorem dX12_laysAsk_3 : decode cX12_laysAsk 3 = .ok (.invokevirtual 381, 3) := by decide +kernel
theorem dX12_laysAsk_6 : decode cX12_laysAsk 6 = .ok (.aload_n 0, 1) := by decide +kernel
theorem dX12_laysAsk_7 : decode cX12_laysAsk 7 = .ok (.iconst (-1), 1) := by decide +kernel
theorem dX12_laysAsk_8 : decode cX12_laysAsk 8 = .ok (.putfield 384, 3) := by decide +kernel
theorem dX12_laysAsk_11 : decode cX12_laysAsk 11 = .ok (.aload_n 0, 1) := by decide +kernel
theorem dX12_laysAsk_12 : decode cX12_laysAsk 12 = .ok (.aload_n 0, 1) := by decide +kernel
theorem dX12_laysAsk_13 : decode cX12_laysAsk 13 = .ok (.getfield 375, 3) := by decide +kernel
theorem dX12_laysAsk_16 : decode cX12_laysAsk 16 = .ok (.putfield 387, 3) := by decide +kernel
theorem dX12_laysAsk_19 : decode cX12_laysAsk 19 = .ok (.iconst 0, 1) := by decide +kernel
theorem dX12_laysAsk_20 : decode cX12_laysAsk 20 = .ok (.istore_n 3, 1) := by decide +kernel
theorem dX12_laysAsk_21 : decode cX12_laysAsk 21 = .ok (.iload_n 3, 1) := by decide +kernel
theorem dX12_laysAsk_22 : decode cX12_laysAsk 22 = .ok (.aload_n 0, 1) := by decide +kernel
theorem dX12_laysAsk_23 : decode cX12_laysAsk 23 = .ok (.invokevirtual 260, 3) := by decide +kernel
theorem dX12_laysAsk_26 : decode cX12_laysAsk 26 = .ok (.if_icmp .ge 40, 3) := by decide +kernel
theorem dX12_laysAsk_29 : decode cX12_laysAsk 29 = .ok (.aload_n 0, 1) := by decide +kernel
theorem dX12_laysAsk_30 : decode cX12_laysAsk 30 = .ok (.iload_n 2, 1) := by decide +kernel
theorem dX12_laysAsk_31 : decode cX12_laysAsk 31 = .ok (.iload_n 3, 1) := by decide +kernel
theorem dX12_laysAsk_32 : decode cX12_laysAsk 32 = .ok (.invokevirtual 390, 3) := by decide +kernel
theorem dX12_laysAsk_35 : decode cX12_laysAsk 35 = .ok (.istore 4, 2) := by decide +kernel
theorem dX12_laysAsk_37 : decode cX12_laysAsk 37 = .ok (.iload 4, 2) := by decide +kernel
theorem dX12_laysAsk_39 : decode cX12_laysAsk 39 = .ok (.aload_n 0, 1) := by decide +kernel
theorem dX12_laysAsk_40 : decode cX12_laysAsk 40 = .ok (.getfield 387, 3) := by decide +kernel
theorem dX12_laysAsk_43 : decode cX12_laysAsk 43 = .ok (.if_icmp .lt 6, 3) := by decide +kernel
theorem dX12_laysAsk_46 : decode cX12_laysAsk 46 = .ok (.goto 14, 3) := by decide +kernel
theorem dX12_laysAsk_49 : decode cX12_laysAsk 49 = .ok (.aload_n 0, 1) := by decide +kernel
theorem dX12_laysAsk_50 : decode cX12_laysAsk 50 = .ok (.iload_n 3, 1) := by decide +kernel
theorem dX12_laysAsk_51 : decode cX12_laysAsk 51 = .ok (.putfield 384, 3) := by decide +kernel
theorem dX12_laysAsk_54 : decode cX12_laysAsk 54 = .ok (.aload_n 0, 1) := by decide +kernel
theorem dX12_laysAsk_55 : decode cX12_laysAsk 55 = .ok (.iload 4, 2) := by decide +kernel
theorem dX12_laysAsk_57 : decode cX12_laysAsk 57 = .ok (.putfield 387, 3) := by decide +kernel
theorem dX12_laysAsk_60 : decode cX12_laysAsk 60 = .ok (.iinc 3 1, 3) := by decide +kernel
theorem dX12_laysAsk_63 : decode cX12_laysAsk 63 = .ok (.goto (-42), 3) := by decide +kernel
theorem dX12_laysAsk_66 : decode cX12_laysAsk 66 = .ok (.return_, 1) := by decide +kernel
theorem dX12_laysTorn_0 : decode cX12_laysTorn 0 = .ok (.aload_n 0, 1) := by decide +kernel
theorem dX12_laysTorn_1 : decode cX12_laysTorn 1 = .ok (.invokevirtual 326, 3) := by decide +kernel
theorem dX12_laysTorn_4 : decode cX12_laysTorn 4 = .ok (.aload_n 0, 1) := by decide +kernel
theorem dX12_laysTorn_5 : decode cX12_laysTorn 5 = .ok (.iconst 0, 1) := by decide +kernel
theorem dX12_laysTorn_6 : decode cX12_laysTorn 6 = .ok (.putfield 375, 3) := by decide +kernel
theorem dX12_laysTorn_9 : decode cX12_laysTorn 9 = .ok (.iconst 0, 1) := by decide +kernel
theorem dX12_laysTorn_10 : decode cX12_laysTorn 10 = .ok (.istore_n 3, 1) := by decide +kernel
theorem dX12_laysTorn_11 : decode cX12_laysTorn 11 = .ok (.iload_n 3, 1) := by decide +kernel
theorem dX12_laysTorn_12 : decode cX12_laysTorn 12 = .ok (.aload_n 0, 1) := by decide +kernel
theorem dX12_laysTorn_13 : decode cX12_laysTorn 13 = .ok (.getfield 65, 3) := by decide +kernel
theorem dX12_laysTorn_16 : decode cX12_laysTorn 16 = .ok (.iload_n 2, 1) := by decide +kernel
theorem dX12_laysTorn_17 : decode cX12_laysTorn 17 = .ok (.iaload, 1) := by decide +kernel
theorem dX12_laysTorn_18 : decode cX12_laysTorn 18 = .ok (.if_icmp .ge 45, 3) := by decide +kernel
theorem dX12_laysTorn_21 : decode cX12_laysTorn 21 = .ok (.aload_n 0, 1) := by decide +kernel
theorem dX12_laysTorn_22 : decode cX12_laysTorn 22 = .ok (.getfield 71, 3) := by decide +kernel
theorem dX12_laysTorn_25 : decode cX12_laysTorn 25 = .ok (.iload_n 3, 1) := by decide +kernel
theorem dX12_laysTorn_26 : decode cX12_laysTorn 26 = .ok (.aload_n 0, 1) := by decide +kernel
theorem dX12_laysTorn_27 : decode cX12_laysTorn 27 = .ok (.iload_n 1, 1) := by decide +kernel
theorem dX12_laysTorn_28 : decode cX12_laysTorn 28 = .ok (.iload_n 2, 1) := by decide +kernel
theorem dX12_laysTorn_29 : decode cX12_laysTorn 29 = .ok (.iload_n 3, 1) := by decide +kernel
theorem dX12_laysTorn_30 : decode cX12_laysTorn 30 = .ok (.invokevirtual 378, 3) := by decide +kernel
theorem dX12_laysTorn_33 : decode cX12_laysTorn 33 = .ok (.bastore, 1) := by decide +kernel
theorem dX12_laysTorn_34 : decode cX12_laysTorn 34 = .ok (.aload_n 0, 1) := by decide +kernel
theorem dX12_laysTorn_35 : decode cX12_laysTorn 35 = .ok (.dup, 1) := by decide +kernel
theorem dX12_laysTorn_36 : decode cX12_laysTorn 36 = .ok (.getfield 375, 3) := by decide +kernel
theorem dX12_laysTorn_39 : decode cX12_laysTorn 39 = .ok (.aload_n 0, 1) := by decide +kernel
theorem dX12_laysTorn_40 : decode cX12_laysTorn 40 = .ok (.getfield 71, 3) := by decide +kernel
theorem dX12_laysTorn_43 : decode cX12_laysTorn 43 = .ok (.iload_n 3, 1) := by decide +kernel
theorem dX12_laysTorn_44 : decode cX12_laysTorn 44 = .ok (.baload, 1) := by decide +kernel
theorem dX12_laysTorn_45 : decode cX12_laysTorn 45 = .ok (.ifCond .eq 7, 3) := by decide +kernel
theorem dX12_laysTorn_48 : decode cX12_laysTorn 48 = .ok (.iconst 1, 1) := by decide +kernel
theorem dX12_laysTorn_49 : decode cX12_laysTorn 49 = .ok (.goto 4, 3) := by decide +kernel
theorem dX12_laysTorn_52 : decode cX12_laysTorn 52 = .ok (.iconst 0, 1) := by decide +kernel
theorem dX12_laysTorn_53 : decode cX12_laysTorn 53 = .ok (.iadd, 1) := by decide +kernel
theorem dX12_laysTorn_54 : decode cX12_laysTorn 54 = .ok (.putfield 375, 3) := by decide +kernel
theorem dX12_laysTorn_57 : decode cX12_laysTorn 57 = .ok (.iinc 3 1, 3) := by decide +kernel
theorem dX12_laysTorn_60 : decode cX12_laysTorn 60 = .ok (.goto (-49), 3) := by decide +kernel
theorem dX12_laysTorn_63 : decode cX12_laysTorn 63 = .ok (.return_, 1) := by decide +kernel
theorem dX12_leaves_0 : decode cX12_leaves 0 = .ok (.aload_n 0, 1) := by decide +kernel
theorem dX12_leaves_1 : decode cX12_leaves 1 = .ok (.iconst 0, 1) := by decide +kernel
theorem dX12_leaves_2 : decode cX12_leaves 2 = .ok (.putfield 77, 3) := by decide +kernel
theorem dX12_leaves_5 : decode cX12_leaves 5 = .ok (.aload_n 0, 1) := by decide +kernel
theorem dX12_leaves_6 : decode cX12_leaves 6 = .ok (.iload_n 1, 1) := by decide +kernel
theorem dX12_leaves_7 : decode cX12_leaves 7 = .ok (.aload_n 0, 1) := by decide +kernel
theorem dX12_leaves_8 : decode cX12_leaves 8 = .ok (.iload_n 2, 1) := by decide +kernel
theorem dX12_leaves_9 : decode cX12_leaves 9 = .ok (.invokevirtual 265, 3) := by decide +kernel
theorem dX12_leaves_12 : decode cX12_leaves 12 = .ok (.invokevirtual 393, 3) := by decide +kernel
theorem dX12_leaves_15 : decode cX12_leaves 15 = .ok (.istore_n 3, 1) := by decide +kernel
theorem dX12_leaves_16 : decode cX12_leaves 16 = .ok (.iload_n 3, 1) := by decide +kernel
theorem dX12_leaves_17 : decode cX12_leaves 17 = .ok (.ifCond .eq 5, 3) := by decide +kernel
theorem dX12_leaves_20 : decode cX12_leaves 20 = .ok (.iload_n 3, 1) := by decide +kernel
theorem dX12_leaves_21 : decode cX12_leaves 21 = .ok (.ireturn, 1) := by decide +kernel
theorem dX12_leaves_22 : decode cX12_leaves 22 = .ok (.aload_n 0, 1) := by decide +kernel
theorem dX12_leaves_23 : decode cX12_leaves 23 = .ok (.iload_n 1, 1) := by decide +kernel
theorem dX12_leaves_24 : decode cX12_leaves 24 = .ok (.iload_n 2, 1) := by decide +kernel
theorem dX12_leaves_25 : decode cX12_leaves 25 = .ok (.invokevirtual 397, 3) := by decide +kernel
theorem dX12_leaves_28 : decode cX12_leaves 28 = .ok (.aload_n 0, 1) := by decide +kernel
theorem dX12_leaves_29 : decode cX12_leaves 29 = .ok (.getfield 387, 3) := by decide +kernel
theorem dX12_leaves_32 : decode cX12_leaves 32 = .ok (.ireturn, 1) := by decide +kernel
theorem dX12_torn_0 : decode cX12_torn 0 = .ok (.aload_n 0, 1) := by decide +kernel
theorem dX12_torn_1 : decode cX12_torn 1 = .ok (.iconst 0, 1) := by decide +kernel
theorem dX12_torn_2 : decode cX12_torn 2 = .ok (.putfield 77, 3) := by decide +kernel
theorem dX12_torn_5 : decode cX12_torn 5 = .ok (.aload_n 0, 1) := by decide +kernel
theorem dX12_torn_6 : decode cX12_torn 6 = .ok (.iload_n 1, 1) := by decide +kernel
theorem dX12_torn_7 : decode cX12_torn 7 = .ok (.aload_n 0, 1) := by decide +kernel
theorem dX12_torn_8 : decode cX12_torn 8 = .ok (.iload_n 2, 1) := by decide +kernel
theorem dX12_torn_9 : decode cX12_torn 9 = .ok (.invokevirtual 265, 3) := by decide +kernel
theorem dX12_torn_12 : decode cX12_torn 12 = .ok (.invokevirtual 393, 3) := by decide +kernel
theorem dX12_torn_15 : decode cX12_torn 15 = .ok (.istore_n 3, 1) := by decide +kernel
theorem dX12_torn_16 : decode cX12_torn 16 = .ok (.iload_n 3, 1) := by decide +kernel
theorem dX12_torn_17 : decode cX12_torn 17 = .ok (.ifCond .eq 5, 3) := by decide +kernel
theorem dX12_torn_20 : decode cX12_torn 20 = .ok (.iload_n 3, 1) := by decide +kernel
theorem dX12_torn_21 : decode cX12_torn 21 = .ok (.ireturn, 1) := by decide +kernel
theorem dX12_torn_22 : decode cX12_torn 22 = .ok (.aload_n 0, 1) := by decide +kernel
theorem dX12_torn_23 : decode cX12_torn 23 = .ok (.iload_n 1, 1) := by decide +kernel
theorem dX12_torn_24 : decode cX12_torn 24 = .ok (.iload_n 2, 1) := by decide +kernel
theorem dX12_torn_25 : decode cX12_torn 25 = .ok (.invokevirtual 381, 3) := by decide +kernel
theorem dX12_torn_28 : decode cX12_torn 28 = .ok (.aload_n 0, 1) := by decide +kernel
theorem dX12_torn_29 : decode cX12_torn 29 = .ok (.getfield 375, 3) := by decide +kernel
theorem dX12_torn_32 : decode cX12_torn 32 = .ok (.ireturn, 1) := by decide +kernel
theorem dX12_whyNot_0 : decode cX12_whyNot 0 = .ok (.iload_n 1, 1) := by decide +kernel
theorem dX12_whyNot_1 : decode cX12_whyNot 1 = .ok (.invokestatic 86, 3) := by decide +kernel
theorem dX12_whyNot_4 : decode cX12_whyNot 4 = .ok (.ifCond .eq 7, 3) := by decide +kernel
theorem dX12_whyNot_7 : decode cX12_whyNot 7 = .ok (.iload_n 2, 1) := by decide +kernel
theorem dX12_whyNot_8 : decode cX12_whyNot 8 = .ok (.ifCond .ne 6, 3) := by decide +kernel
theorem dX12_whyNot_11 : decode cX12_whyNot 11 = .ok (.bipush (-2), 2) := by decide +kernel
theorem dX12_whyNot_13 : decode cX12_whyNot 13 = .ok (.ireturn, 1) := by decide +kernel
theorem dX12_whyNot_14 : decode cX12_whyNot 14 = .ok (.aload_n 0, 1) := by decide +kernel
theorem dX12_whyNot_15 : decode cX12_whyNot 15 = .ok (.getfield 7, 3) := by decide +kernel
theorem dX12_whyNot_18 : decode cX12_whyNot 18 = .ok (.iload_n 1, 1) := by decide +kernel
theorem dX12_whyNot_19 : decode cX12_whyNot 19 = .ok (.iaload, 1) := by decide +kernel
theorem dX12_whyNot_20 : decode cX12_whyNot 20 = .ok (.iconst (-1), 1) := by decide +kernel
theorem dX12_whyNot_21 : decode cX12_whyNot 21 = .ok (.if_icmp .ne 6, 3) := by decide +kernel
theorem dX12_whyNot_24 : decode cX12_whyNot 24 = .ok (.bipush (-6), 2) := by decide +kernel
theorem dX12_whyNot_26 : decode cX12_whyNot 26 = .ok (.ireturn, 1) := by decide +kernel
theorem dX12_whyNot_27 : decode cX12_whyNot 27 = .ok (.aload_n 0, 1) := by decide +kernel
theorem dX12_whyNot_28 : decode cX12_whyNot 28 = .ok (.getfield 13, 3) := by decide +kernel
theorem dX12_whyNot_31 : decode cX12_whyNot 31 = .ok (.iload_n 1, 1) := by decide +kernel
theorem dX12_whyNot_32 : decode cX12_whyNot 32 = .ok (.iaload, 1) := by decide +kernel
theorem dX12_whyNot_33 : decode cX12_whyNot 33 = .ok (.iconst 2, 1) := by decide +kernel
theorem dX12_whyNot_34 : decode cX12_whyNot 34 = .ok (.irem, 1) := by decide +kernel
theorem dX12_whyNot_35 : decode cX12_whyNot 35 = .ok (.ifCond .eq 6, 3) := by decide +kernel
theorem dX12_whyNot_38 : decode cX12_whyNot 38 = .ok (.bipush (-2), 2) := by decide +kernel
theorem dX12_whyNot_40 : decode cX12_whyNot 40 = .ok (.ireturn, 1) := by decide +kernel
theorem dX12_whyNot_41 : decode cX12_whyNot 41 = .ok (.iconst 0, 1) := by decide +kernel
theorem dX12_whyNot_42 : decode cX12_whyNot 42 = .ok (.istore_n 3, 1) := by decide +kernel
theorem dX12_whyNot_43 : decode cX12_whyNot 43 = .ok (.iload_n 3, 1) := by decide +kernel
theorem dX12_whyNot_44 : decode cX12_whyNot 44 = .ok (.aload_n 0, 1) := by decide +kernel
theorem dX12_whyNot_45 : decode cX12_whyNot 45 = .ok (.getfield 13, 3) := by decide +kernel
theorem dX12_whyNot_48 : decode cX12_whyNot 48 = .ok (.iload_n 1, 1) := by decide +kernel
theorem dX12_whyNot_49 : decode cX12_whyNot 49 = .ok (.iaload, 1) := by decide +kernel
theorem dX12_whyNot_50 : decode cX12_whyNot 50 = .ok (.if_icmp .ge 49, 3) := by decide +kernel
theorem dX12_whyNot_53 : decode cX12_whyNot 53 = .ok (.aload_n 0, 1) := by decide +kernel
theorem dX12_whyNot_54 : decode cX12_whyNot 54 = .ok (.aload_n 0, 1) := by decide +kernel
theorem dX12_whyNot_55 : decode cX12_whyNot 55 = .ok (.getfield 16, 3) := by decide +kernel
theorem dX12_whyNot_58 : decode cX12_whyNot 58 = .ok (.bipush 60, 2) := by decide +kernel
theorem dX12_whyNot_60 : decode cX12_whyNot 60 = .ok (.iload_n 1, 1) := by decide +kernel
theorem dX12_whyNot_61 : decode cX12_whyNot 61 = .ok (.imul, 1) := by decide +kernel
theorem dX12_whyNot_62 : decode cX12_whyNot 62 = .ok (.iload_n 3, 1) := by decide +kernel
theorem dX12_whyNot_63 : decode cX12_whyNot 63 = .ok (.iadd, 1) := by decide +kernel
theorem dX12_whyNot_64 : decode cX12_whyNot 64 = .ok (.laload, 1) := by decide +kernel
theorem dX12_whyNot_65 : decode cX12_whyNot 65 = .ok (.invokevirtual 317, 3) := by decide +kernel
theorem dX12_whyNot_68 : decode cX12_whyNot 68 = .ok (.ifCond .eq 22, 3) := by decide +kernel
theorem dX12_whyNot_71 : decode cX12_whyNot 71 = .ok (.aload_n 0, 1) := by decide +kernel
theorem dX12_whyNot_72 : decode cX12_whyNot 72 = .ok (.getfield 16, 3) := by decide +kernel
theorem dX12_whyNot_75 : decode cX12_whyNot 75 = .ok (.bipush 60, 2) := by decide +kernel
theorem dX12_whyNot_77 : decode cX12_whyNot 77 = .ok (.iload_n 1, 1) := by decide +kernel
theorem dX12_whyNot_78 : decode cX12_whyNot 78 = .ok (.imul, 1) := by decide +kernel
theorem dX12_whyNot_79 : decode cX12_whyNot 79 = .ok (.iload_n 3, 1) := by decide +kernel
theorem dX12_whyNot_80 : decode cX12_whyNot 80 = .ok (.iadd, 1) := by decide +kernel
theorem dX12_whyNot_81 : decode cX12_whyNot 81 = .ok (.iconst 1, 1) := by decide +kernel
theorem dX12_whyNot_82 : decode cX12_whyNot 82 = .ok (.iadd, 1) := by decide +kernel
theorem dX12_whyNot_83 : decode cX12_whyNot 83 = .ok (.laload, 1) := by decide +kernel
theorem dX12_whyNot_84 : decode cX12_whyNot 84 = .ok (.invokestatic 341, 3) := by decide +kernel
theorem dX12_whyNot_87 : decode cX12_whyNot 87 = .ok (.ifCond .ne 6, 3) := by decide +kernel
theorem dX12_whyNot_90 : decode cX12_whyNot 90 = .ok (.bipush (-2), 2) := by decide +kernel
theorem dX12_whyNot_92 : decode cX12_whyNot 92 = .ok (.ireturn, 1) := by decide +kernel
theorem dX12_whyNot_93 : decode cX12_whyNot 93 = .ok (.iinc 3 2, 3) := by decide +kernel
theorem dX12_whyNot_96 : decode cX12_whyNot 96 = .ok (.goto (-53), 3) := by decide +kernel
theorem dX12_whyNot_99 : decode cX12_whyNot 99 = .ok (.iconst 0, 1) := by decide +kernel
theorem dX12_whyNot_100 : decode cX12_whyNot 100 = .ok (.ireturn, 1) := by decide +kernel
theorem dX12_worstBy_0 : decode cX12_worstBy 0 = .ok (.iconst 0, 1) := by decide +kernel
theorem dX12_worstBy_1 : decode cX12_worstBy 1 = .ok (.istore_n 3, 1) := by decide +kernel
theorem dX12_worstBy_2 : decode cX12_worstBy 2 = .ok (.iconst 0, 1) := by decide +kernel
theorem dX12_worstBy_3 : decode cX12_worstBy 3 = .ok (.istore 4, 2) := by decide +kernel
theorem dX12_worstBy_5 : decode cX12_worstBy 5 = .ok (.iload 4, 2) := by decide +kernel
theorem dX12_worstBy_7 : decode cX12_worstBy 7 = .ok (.aload_n 0, 1) := by decide +kernel
theorem dX12_worstBy_8 : decode cX12_worstBy 8 = .ok (.getfield 65, 3) := by decide +kernel
theorem dX12_worstBy_11 : decode cX12_worstBy 11 = .ok (.iload_n 1, 1) := by decide +kernel
theorem dX12_worstBy_12 : decode cX12_worstBy 12 = .ok (.iaload, 1) := by decide +kernel
theorem dX12_worstBy_13 : decode cX12_worstBy 13 = .ok (.if_icmp .ge 101, 3) := by decide +kernel
theorem dX12_worstBy_16 : decode cX12_worstBy 16 = .ok (.aload_n 0, 1) := by decide +kernel
theorem dX12_worstBy_17 : decode cX12_worstBy 17 = .ok (.getfield 71, 3) := by decide +kernel
theorem dX12_worstBy_20 : decode cX12_worstBy 20 = .ok (.iload 4, 2) := by decide +kernel
theorem dX12_worstBy_22 : decode cX12_worstBy 22 = .ok (.baload, 1) := by decide +kernel
theorem dX12_worstBy_23 : decode cX12_worstBy 23 = .ok (.ifCond .ne 6, 3) := by decide +kernel
theorem dX12_worstBy_26 : decode cX12_worstBy 26 = .ok (.goto 82, 3) := by decide +kernel
theorem dX12_worstBy_29 : decode cX12_worstBy 29 = .ok (.aload_n 0, 1) := by decide +kernel
theorem dX12_worstBy_30 : decode cX12_worstBy 30 = .ok (.iload_n 1, 1) := by decide +kernel
theorem dX12_worstBy_31 : decode cX12_worstBy 31 = .ok (.iload 4, 2) := by decide +kernel
theorem dX12_worstBy_33 : decode cX12_worstBy 33 = .ok (.iload_n 2, 1) := by decide +kernel
theorem dX12_worstBy_34 : decode cX12_worstBy 34 = .ok (.invokevirtual 338, 3) := by decide +kernel
theorem dX12_worstBy_37 : decode cX12_worstBy 37 = .ok (.istore 5, 2) := by decide +kernel
theorem dX12_worstBy_39 : decode cX12_worstBy 39 = .ok (.iconst 0, 1) := by decide +kernel
theorem dX12_worstBy_40 : decode cX12_worstBy 40 = .ok (.istore 6, 2) := by decide +kernel
theorem dX12_worstBy_42 : decode cX12_worstBy 42 = .ok (.iconst 0, 1) := by decide +kernel
theorem dX12_worstBy_43 : decode cX12_worstBy 43 = .ok (.istore 7, 2) := by decide +kernel
theorem dX12_worstBy_45 : decode cX12_worstBy 45 = .ok (.iload 7, 2) := by decide +kernel
theorem dX12_worstBy_47 : decode cX12_worstBy 47 = .ok (.aload_n 0, 1) := by decide +kernel
theorem dX12_worstBy_48 : decode cX12_worstBy 48 = .ok (.getfield 65, 3) := by decide +kernel
theorem dX12_worstBy_51 : decode cX12_worstBy 51 = .ok (.iload_n 1, 1) := by decide +kernel
theorem dX12_worstBy_52 : decode cX12_worstBy 52 = .ok (.iaload, 1) := by decide +kernel
theorem dX12_worstBy_53 : decode cX12_worstBy 53 = .ok (.if_icmp .ge 42, 3) := by decide +kernel
theorem dX12_worstBy_56 : decode cX12_worstBy 56 = .ok (.iload 6, 2) := by decide +kernel
theorem dX12_worstBy_58 : decode cX12_worstBy 58 = .ok (.aload_n 0, 1) := by decide +kernel
theorem dX12_worstBy_59 : decode cX12_worstBy 59 = .ok (.getfield 71, 3) := by decide +kernel
theorem dX12_worstBy_62 : decode cX12_worstBy 62 = .ok (.iload 7, 2) := by decide +kernel
theorem dX12_worstBy_64 : decode cX12_worstBy 64 = .ok (.baload, 1) := by decide +kernel
theorem dX12_worstBy_65 : decode cX12_worstBy 65 = .ok (.ifCond .eq 20, 3) := by decide +kernel
theorem dX12_worstBy_68 : decode cX12_worstBy 68 = .ok (.aload_n 0, 1) := by decide +kernel
theorem dX12_worstBy_69 : decode cX12_worstBy 69 = .ok (.iload_n 1, 1) := by decide +kernel
theorem dX12_worstBy_70 : decode cX12_worstBy 70 = .ok (.iload 7, 2) := by decide +kernel
theorem dX12_worstBy_72 : decode cX12_worstBy 72 = .ok (.iload_n 2, 1) := by decide +kernel
theorem dX12_worstBy_73 : decode cX12_worstBy 73 = .ok (.invokevirtual 338, 3) := by decide +kernel
theorem dX12_worstBy_76 : decode cX12_worstBy 76 = .ok (.iload 5, 2) := by decide +kernel
theorem dX12_worstBy_78 : decode cX12_worstBy 78 = .ok (.if_icmp .ne 7, 3) := by decide +kernel
theorem dX12_worstBy_81 : decode cX12_worstBy 81 = .ok (.iconst 1, 1) := by decide +kernel
theorem dX12_worstBy_82 : decode cX12_worstBy 82 = .ok (.goto 4, 3) := by decide +kernel
theorem dX12_worstBy_85 : decode cX12_worstBy 85 = .ok (.iconst 0, 1) := by decide +kernel
theorem dX12_worstBy_86 : decode cX12_worstBy 86 = .ok (.iadd, 1) := by decide +kernel
theorem dX12_worstBy_87 : decode cX12_worstBy 87 = .ok (.istore 6, 2) := by decide +kernel
theorem dX12_worstBy_89 : decode cX12_worstBy 89 = .ok (.iinc 7 1, 3) := by decide +kernel
theorem dX12_worstBy_92 : decode cX12_worstBy 92 = .ok (.goto (-47), 3) := by decide +kernel
theorem dX12_worstBy_95 : decode cX12_worstBy 95 = .ok (.iload 6, 2) := by decide +kernel
theorem dX12_worstBy_97 : decode cX12_worstBy 97 = .ok (.iload_n 3, 1) := by decide +kernel
theorem dX12_worstBy_98 : decode cX12_worstBy 98 = .ok (.if_icmp .le 8, 3) := by decide +kernel
theorem dX12_worstBy_101 : decode cX12_worstBy 101 = .ok (.iload 6, 2) := by decide +kernel
theorem dX12_worstBy_103 : decode cX12_worstBy 103 = .ok (.goto 4, 3) := by decide +kernel
theorem dX12_worstBy_106 : decode cX12_worstBy 106 = .ok (.iload_n 3, 1) := by decide +kernel
theorem dX12_worstBy_107 : decode cX12_worstBy 107 = .ok (.istore_n 3, 1) := by decide +kernel
theorem dX12_worstBy_108 : decode cX12_worstBy 108 = .ok (.iinc 4 1, 3) := by decide +kernel
theorem dX12_worstBy_111 : decode cX12_worstBy 111 = .ok (.goto (-106), 3) := by decide +kernel
theorem dX12_worstBy_114 : decode cX12_worstBy 114 = .ok (.iload_n 3, 1) := by decide +kernel
theorem dX12_worstBy_115 : decode cX12_worstBy 115 = .ok (.ireturn, 1) := by decide +kernel
theorem mm_kl10000 : mm_rl 10000 10000 10000 := ⟨by decide, by decide⟩
theorem mm_kl3 : mm_rl 3 3 3 := ⟨by decide, by decide⟩
theorem hd_X12_differOf : yX12_differOf.cls = RX12 ∧ yX12_differOf.cls ≠ "java/lang/invoke/MethodHandle" ∧ yX12_differOf.cls ≠ "java/lang/invoke/VarHandle" ∧ (parseMethodDescriptor yX12_differOf.desc).map (fun d => d.parameters.length) = some 2 := by decide +kernel
theorem hd_X12_isSo : yX12_isSo.cls = RX12 ∧ yX12_isSo.cls ≠ "java/lang/invoke/MethodHandle" ∧ yX12_isSo.cls ≠ "java/lang/invoke/VarHandle" ∧ (parseMethodDescriptor yX12_isSo.desc).map (fun d => d.parameters.length) = some 3 := by decide +kernel
theorem hd_X12_laysAsk : yX12_laysAsk.cls = RX12 ∧ yX12_laysAsk.cls ≠ "java/lang/invoke/MethodHandle" ∧ yX12_laysAsk.cls ≠ "java/lang/invoke/VarHandle" ∧ (parseMethodDescriptor yX12_laysAsk.desc).map (fun d => d.parameters.length) = some 2 := by decide +kernel
theorem hd_X12_laysTorn : yX12_laysTorn.cls = RX12 ∧ yX12_laysTorn.cls ≠ "java/lang/invoke/MethodHandle" ∧ yX12_laysTorn.cls ≠ "java/lang/invoke/VarHandle" ∧ (parseMethodDescriptor yX12_laysTorn.desc).map (fun d => d.parameters.length) = some 2 := by decide +kernel
theorem hd_X12_whyNot : yX12_whyNot.cls = RX12 ∧ yX12_whyNot.cls ≠ "java/lang/invoke/MethodHandle" ∧ yX12_whyNot.cls ≠ "java/lang/invoke/VarHandle" ∧ (parseMethodDescriptor yX12_whyNot.desc).map (fun d => d.parameters.length) = some 2 := by decide +kernel
theorem hd_X12_worstBy : yX12_worstBy.cls = RX12 ∧ yX12_worstBy.cls ≠ "java/lang/invoke/MethodHandle" ∧ yX12_worstBy.cls ≠ "java/lang/invoke/VarHandle" ∧ (parseMethodDescriptor yX12_worstBy.desc).map (fun d => d.parameters.length) = some 2 := by decide +kernel
theorem hs_X12_isSlot : yX12_isSlot.cls ≠ "java/lang/invoke/MethodHandle" ∧ yX12_isSlot.cls ≠ "java/lang/invoke/VarHandle" ∧ (parseMethodDescriptor yX12_isSlot.desc).map (fun d => d.parameters.length) = some 1 := by decide +kernel
set_option maxHeartbeats 4000000 in
set_option maxRecDepth 100000 in
theorem M193_X12_differOf (l : Launch) (G : va_G) (cy : Nat → ClassId) (sz : Nat) (a_0 : Nat) (i_0 : Int32) (i_1 : Int32) (i_2 : Int32) (a_1 : Nat) (a_2 : Nat) (a_3 : Nat) (a_4 : Nat) (a_5 : Nat) (i_3 : Int32) (i_4 : Int32) (i_5 : Int32) (i_6 : Int32) (i_7 : Int32) (j_0 : Int64) (i_8 : Int32) (i_9 : Int32) (i_10 : Int32) (i_11 : Int32) (a_6 : Nat) (a_7 : Nat) (a_8 : Nat) (a_9 : Nat) (a_10 : Nat) (a_11 : Nat) (a_12 : Nat) (a_13 : Nat) (a_14 : Nat) (a_15 : Nat) (a_16 : Nat) (a_17 : Nat) (a_18 : Nat) (i_12 : Int32) (i_13 : Int32) (i_14 : Int32) (i_15 : Int32) (i_16 : Int32) (i_17 : Int32) (a_19 : Nat) (i_18 : Int32) (a_20 : Nat) (i_19 : Int32) (i_20 : Int32) (i_21 : Int32) (i_22 : Int32) (i_23 : Int32) (i_24 : Int32) (i_25 : Int32) (i_26 : Int32) (i_27 : Int32) (i_28 : Int32) (i_29 : Int32) (i_30 : Int32) (i_31 : Int32) (i_32 : Int32) (i_33 : Int32) (i_34 : Int32) (i_35 : Int32) (i_36 : Int32) (i_37 : Int32) (i_38 : Int32) (i_39 : Int32) (i_40 : Int32) (i_41 : Int32) (i_42 : Int32) (i_43 : Int32) (i_44 : Int32) (i_45 : Int32) (i_46 : Int32) (i_47 : Int32) (i_48 : Int32) (i_49 : Int32) (i_50 : Int32) (i_51 : Int32) (i_52 : Int32) (i_53 : Int32) (f_0 : Nat → Int32) (f_1 : Nat → Int32) (f_2 : Nat → Int32) (f_3 : Nat → Int32) (f_4 : Nat → Int32) (f_5 : Nat → Int32) (h0 : mm_rg i_0 0 2) (h1 : mm_rg i_1 0 2) (h2 : mm_rg i_19 0 601) (h3 : mm_rg i_20 0 601) (h4 : mm_rg i_21 0 601) (h5 : mm_rg i_22 0 601) (h6 : mm_rg i_23 0 601) (h7 : mm_rg i_24 0 10) (h8 : mm_rg i_25 0 99) (h9 : mm_rg i_26 0 9) (h10 : mm_rg i_27 0 3) (h11 : mm_rg i_28 0 6) (h12 : mm_rg i_29 0 30) (h13 : mm_rg i_30 0 10) (h14 : mm_rg i_31 0 99) (h15 : mm_rg i_32 0 9) (h16 : mm_rg i_33 0 3) (h17 : mm_rg i_34 0 6) (h18 : mm_rg i_35 0 30) (h19 : mm_rg i_36 0 10) (h20 : mm_rg i_37 0 99) (h21 : mm_rg i_38 0 9) (h22 : mm_rg i_39 0 3) (h23 : mm_rg i_40 0 6) (h24 : mm_rg i_41 0 30) (h25 : mm_rg i_42 0 10) (h26 : mm_rg i_43 0 99) (h27 : mm_rg i_44 0 9) (h28 : mm_rg i_45 0 3) (h29 : mm_rg i_46 0 6) (h30 : mm_rg i_47 0 30) (h31 : mm_rg i_48 0 10) (h32 : mm_rg i_49 0 99) (h33 : mm_rg i_50 0 9) (h34 : mm_rg i_51 0 3) (h35 : mm_rg i_52 0 6) (h36 : mm_rg i_53 0 30) (h37 : mm_ar f_0 0 7) (h38 : mm_ar f_1 0 9) (h39 : mm_ar f_2 (-1) 99) (h40 : mm_ar f_3 0 9) (h41 : mm_ar f_4 0 210) (h42 : mm_ar f_5 0 210) (h43 : mm_rls f_0 f_1 0 i_26 i_27) (h44 : mm_acs f_2 0 i_26 i_27 i_29) (h45 : mm_tl i_19 i_27 i_28) (h46 : mm_rls f_0 f_1 1 i_32 i_33) (h47 : mm_acs f_2 1 i_32 i_33 i_35) (h48 : mm_tl i_20 i_33 i_34) (h49 : mm_rls f_0 f_1 2 i_38 i_39) (h50 : mm_acs f_2 2 i_38 i_39 i_41) (h51 : mm_tl i_21 i_39 i_40) (h52 : mm_rls f_0 f_1 3 i_44 i_45) (h53 : mm_acs f_2 3 i_44 i_45 i_47) (h54 : mm_tl i_22 i_45 i_46) (h55 : (i_0 : Int32).toInt < (i_27 : Int32).toInt) (h56 : (i_1 : Int32).toInt < (i_27 : Int32).toInt)  : mm_CI l yX12_differOf (mm_ws yX12_differOf cX12_differOf 4 (some .int)) ({ frames := 14, cells := 0, slots := 0, locals := 300 } : Room) G cy sz [(a_0, .inr (12, [.int i_2, .ref a_1, .ref a_2, .ref a_3, .ref a_4, .ref a_5, .int i_3, .int i_4, .int i_5, .int i_6, .int i_7, .long j_0, .int i_8, .int i_9, .int i_10, .int i_11, .ref a_6, .ref a_7, .ref a_8, .ref a_9, .ref a_10, .ref a_11, .ref a_12, .ref a_13, .ref a_14, .ref a_15, .ref a_16, .ref a_17, .ref a_18, .int i_12, .int i_13, .int i_14, .int i_15, .int i_16, .int i_17, .ref a_19, .int i_18, .ref a_20])), (a_6, .inl (cy 1, 5, .inl (mm_g [i_19, i_20, i_21, i_22, i_23]))), (a_7, .inl (cy 1, 30, .inl (mm_g [i_24, i_25, i_26, i_27, i_28, i_29, i_30, i_31, i_32, i_33, i_34, i_35, i_36, i_37, i_38, i_39, i_40, i_41, i_42, i_43, i_44, i_45, i_46, i_47, i_48, i_49, i_50, i_51, i_52, i_53]))), (a_9, .inl (cy 1, 15, .inl f_0)), (a_10, .inl (cy 1, 1050, .inl f_1)), (a_13, .inl (cy 1, 450, .inl f_2)), (a_15, .inl (cy 1, 7200, .inl f_3)), (a_16, .inl (cy 1, 3, .inl f_4)), (a_17, .inl (cy 1, 3, .inl f_5))] [.ref a_0, .int i_0, .int i_1] (fun u : (Nat → Int32) × (Nat → Int32) × (Nat → Int32) => [(a_0, .inr (12, [.int i_2, .ref a_1, .ref a_2, .ref a_3, .ref a_4, .ref a_5, .int i_3, .int i_4, .int i_5, .int i_6, .int i_7, .long j_0, .int i_8, .int i_9, .int i_10, .int i_11, .ref a_6, .ref a_7, .ref a_8, .ref a_9, .ref a_10, .ref a_11, .ref a_12, .ref a_13, .ref a_14, .ref a_15, .ref a_16, .ref a_17, .ref a_18, .int i_12, .int i_13, .int i_14, .int i_15, .int i_16, .int i_17, .ref a_19, .int i_18, .ref a_20])), (a_6, .inl (cy 1, 5, .inl (mm_g [i_19, i_20, i_21, i_22, i_23]))), (a_7, .inl (cy 1, 30, .inl (mm_g [i_24, i_25, i_26, i_27, i_28, i_29, i_30, i_31, i_32, i_33, i_34, i_35, i_36, i_37, i_38, i_39, i_40, i_41, i_42, i_43, i_44, i_45, i_46, i_47, i_48, i_49, i_50, i_51, i_52, i_53]))), (a_9, .inl (cy 1, 15, .inl f_0)), (a_10, .inl (cy 1, 1050, .inl f_1)), (a_13, .inl (cy 1, 450, .inl f_2)), (a_15, .inl (cy 1, 7200, .inl u.1)), (a_16, .inl (cy 1, 3, .inl u.2.1)), (a_17, .inl (cy 1, 3, .inl u.2.2))]) (fun (r : Int32) (u : (Nat → Int32) × (Nat → Int32) × (Nat → Int32)) => mm_ar u.1 0 9 ∧ mm_ar u.2.1 0 210 ∧ mm_ar u.2.2 0 210 ∧ mm_laid u.2.1 u.2.2 i_27 ∧ mm_rg r (-1) 44099) 0 0 := by
  refine mm_begin (lv := [(0, .ref a_0), (1, .int i_0), (2, .int i_1)]) (by decide) (Nat.le_of_ble_eq_true rfl) rfl ?_
  intro p e s m below meth c A ls R args Q H locs hRe hQ hAe hx hb hr hlocks hml hown hnm hts hsz hA hS hP hK hD hZ hl
  have hRf : R.frames = 14 := by rw [hRe]
  have hRl : R.locals = 300 := by rw [hRe]
  have hRc : R.cells = 0 := by rw [hRe]
  have hRs : R.slots = 0 := by rw [hRe]
  have q1 := mm_ltR (lo := 1) h55 h0 h10 (by decide)
  have q2 : mm_rg i_19 1 601 := mm_tl_3 h45 q1 h2 (by decide)
  refine lv_aload_n hx hb dX12_differOf_0 rfl (lv_at hl 0 rfl) ?_
  refine mm_finv (va_runV (As := []) (rest := []) ⟨hx, hb, hml, hown, hts⟩ (M125_X12_lays l G cy H.size a_0 i_2 a_1 a_2 a_3 a_4 a_5 i_3 i_4 i_5 i_6 i_7 j_0 i_8 i_9 i_10 i_11 a_6 a_7 a_8 a_9 a_10 a_11 a_12 a_13 a_14 a_15 a_16 a_17 a_18 i_12 i_13 i_14 i_15 i_16 i_17 a_19 i_18 a_20 i_19 i_20 i_21 i_22 i_23 i_24 i_25 i_26 i_27 i_28 i_29 i_30 i_31 i_32 i_33 i_34 i_35 i_36 i_37 i_38 i_39 i_40 i_41 i_42 i_43 i_44 i_45 i_46 i_47 i_48 i_49 i_50 i_51 i_52 i_53 f_0 f_1 f_2 f_3 f_4 f_5 (mm_wk q2 (by decide)) h3 h4 h5 h6 h7 h8 h9 (mm_wk q1 (by decide)) h11 h12 h13 h14 h15 h16 h17 h18 h19 h20 h21 h22 h23 h24 h25 h26 h27 h28 h29 h30 h31 h32 h33 h34 h35 h36 h37 h38 h39 h40 h41 h42 h43 h44 h45 h46 h47 h48 h49 h50 h51 h52 h53 h54) (cwV 0 hts (mm_gV mm_w686 mm_w687 mm_w688 mm_w5 mm_w689) rfl rfl rfl hd_X12_lays ⟨by rw [hRf]; exact Nat.le_of_ble_eq_true rfl, by rw [hRl]; exact Nat.le_of_ble_eq_true rfl⟩) (mm_preV hK hZ hS hA hP hD [0, 1, 2, 3, 4, 5, 6, 7, 8] rfl rfl 0 rfl rfl rfl) rfl rfl hl.1 rfl (lv_room (Nat.le_of_ble_eq_true rfl)) dX12_differOf_1 ⟨by rw [hRc]; exact Nat.le_of_ble_eq_true rfl, by rw [hRs]; exact Nat.le_of_ble_eq_true rfl⟩) hP hD hS hA (fun u : (Nat → Int32) × (Nat → Int32) × (Nat → Int32) => [(a_0, .inr (12, [.int i_2, .ref a_1, .ref a_2, .ref a_3, .ref a_4, .ref a_5, .int i_3, .int i_4, .int i_5, .int i_6, .int i_7, .long j_0, .int i_8, .int i_9, .int i_10, .int i_11, .ref a_6, .ref a_7, .ref a_8, .ref a_9, .ref a_10, .ref a_11, .ref a_12, .ref a_13, .ref a_14, .ref a_15, .ref a_16, .ref a_17, .ref a_18, .int i_12, .int i_13, .int i_14, .int i_15, .int i_16, .int i_17, .ref a_19, .int i_18, .ref a_20])), (a_6, .inl (cy 1, 5, .inl (mm_g [i_19, i_20, i_21, i_22, i_23]))), (a_7, .inl (cy 1, 30, .inl (mm_g [i_24, i_25, i_26, i_27, i_28, i_29, i_30, i_31, i_32, i_33, i_34, i_35, i_36, i_37, i_38, i_39, i_40, i_41, i_42, i_43, i_44, i_45, i_46, i_47, i_48, i_49, i_50, i_51, i_52, i_53]))), (a_9, .inl (cy 1, 15, .inl f_0)), (a_10, .inl (cy 1, 1050, .inl f_1)), (a_13, .inl (cy 1, 450, .inl f_2)), (a_15, .inl (cy 1, 7200, .inl u.1)), (a_16, .inl (cy 1, 3, .inl u.2.1)), (a_17, .inl (cy 1, 3, .inl u.2.2))]) [0, 1, 2, 3, 4, 5, 6, 7, 8] [] (n := 9) (fun _ => rfl) (by decide +kernel) (by decide +kernel) rfl (fun _ => rfl) (wr := []) rfl (fun _ => rfl) (fun _ => @rfl _ ([a_0, a_6, a_7, a_9, a_10, a_13, a_15, a_16, a_17] : List Nat)) ?_
  clear hP hD hS
  clear H locs
  intro u
  obtain ⟨n3, n4, n5⟩ := u
  intro H locs hw (hP : va_P G vwCl [(a_0, .inr (12, [.int i_2, .ref a_1, .ref a_2, .ref a_3, .ref a_4, .ref a_5, .int i_3, .int i_4, .int i_5, .int i_6, .int i_7, .long j_0, .int i_8, .int i_9, .int i_10, .int i_11, .ref a_6, .ref a_7, .ref a_8, .ref a_9, .ref a_10, .ref a_11, .ref a_12, .ref a_13, .ref a_14, .ref a_15, .ref a_16, .ref a_17, .ref a_18, .int i_12, .int i_13, .int i_14, .int i_15, .int i_16, .int i_17, .ref a_19, .int i_18, .ref a_20])), (a_6, .inl (cy 1, 5, .inl (mm_g [i_19, i_20, i_21, i_22, i_23]))), (a_7, .inl (cy 1, 30, .inl (mm_g [i_24, i_25, i_26, i_27, i_28, i_29, i_30, i_31, i_32, i_33, i_34, i_35, i_36, i_37, i_38, i_39, i_40, i_41, i_42, i_43, i_44, i_45, i_46, i_47, i_48, i_49, i_50, i_51, i_52, i_53]))), (a_9, .inl (cy 1, 15, .inl f_0)), (a_10, .inl (cy 1, 1050, .inl f_1)), (a_13, .inl (cy 1, 450, .inl f_2)), (a_15, .inl (cy 1, 7200, .inl n3)), (a_16, .inl (cy 1, 3, .inl n4)), (a_17, .inl (cy 1, 3, .inl n5))] H) (hD : va_D A [(a_0, .inr (12, [.int i_2, .ref a_1, .ref a_2, .ref a_3, .ref a_4, .ref a_5, .int i_3, .int i_4, .int i_5, .int i_6, .int i_7, .long j_0, .int i_8, .int i_9, .int i_10, .int i_11, .ref a_6, .ref a_7, .ref a_8, .ref a_9, .ref a_10, .ref a_11, .ref a_12, .ref a_13, .ref a_14, .ref a_15, .ref a_16, .ref a_17, .ref a_18, .int i_12, .int i_13, .int i_14, .int i_15, .int i_16, .int i_17, .ref a_19, .int i_18, .ref a_20])), (a_6, .inl (cy 1, 5, .inl (mm_g [i_19, i_20, i_21, i_22, i_23]))), (a_7, .inl (cy 1, 30, .inl (mm_g [i_24, i_25, i_26, i_27, i_28, i_29, i_30, i_31, i_32, i_33, i_34, i_35, i_36, i_37, i_38, i_39, i_40, i_41, i_42, i_43, i_44, i_45, i_46, i_47, i_48, i_49, i_50, i_51, i_52, i_53]))), (a_9, .inl (cy 1, 15, .inl f_0)), (a_10, .inl (cy 1, 1050, .inl f_1)), (a_13, .inl (cy 1, 450, .inl f_2)), (a_15, .inl (cy 1, 7200, .inl n3)), (a_16, .inl (cy 1, 3, .inl n4)), (a_17, .inl (cy 1, 3, .inl n5))]) hS
  obtain ⟨w6, w7, w8, w9, w10⟩ := hw
  replace w9 : mm_laid n4 n5 i_27 := w9
  replace w10 : mm_tab n3 n4 i_26 i_27 := w10
  refine lv_iconst (v := 0) hx hb dX12_differOf_4 (by decide) ?_
  refine lv_istore_n (lv' := [(3, .int 0), (0, .ref a_0), (1, .int i_0), (2, .int i_1)]) hx hb dX12_differOf_5 rfl hl (by decide) rfl ?_
  clear hl
  clear ls
  intro ls hl
  have L6_236 : ∀ (n : Nat) (x6_3_236 : Int32), mm_rg x6_3_236 0 44100 → (44100 - x6_3_236.toInt).toNat < n → ∀ (H : Heap) (locs : List Loc), va_P G vwCl [(a_0, .inr (12, [.int i_2, .ref a_1, .ref a_2, .ref a_3, .ref a_4, .ref a_5, .int i_3, .int i_4, .int i_5, .int i_6, .int i_7, .long j_0, .int i_8, .int i_9, .int i_10, .int i_11, .ref a_6, .ref a_7, .ref a_8, .ref a_9, .ref a_10, .ref a_11, .ref a_12, .ref a_13, .ref a_14, .ref a_15, .ref a_16, .ref a_17, .ref a_18, .int i_12, .int i_13, .int i_14, .int i_15, .int i_16, .int i_17, .ref a_19, .int i_18, .ref a_20])), (a_6, .inl (cy 1, 5, .inl (mm_g [i_19, i_20, i_21, i_22, i_23]))), (a_7, .inl (cy 1, 30, .inl (mm_g [i_24, i_25, i_26, i_27, i_28, i_29, i_30, i_31, i_32, i_33, i_34, i_35, i_36, i_37, i_38, i_39, i_40, i_41, i_42, i_43, i_44, i_45, i_46, i_47, i_48, i_49, i_50, i_51, i_52, i_53]))), (a_9, .inl (cy 1, 15, .inl f_0)), (a_10, .inl (cy 1, 1050, .inl f_1)), (a_13, .inl (cy 1, 450, .inl f_2)), (a_15, .inl (cy 1, 7200, .inl n3)), (a_16, .inl (cy 1, 3, .inl n4)), (a_17, .inl (cy 1, 3, .inl n5))] H → va_D A [(a_0, .inr (12, [.int i_2, .ref a_1, .ref a_2, .ref a_3, .ref a_4, .ref a_5, .int i_3, .int i_4, .int i_5, .int i_6, .int i_7, .long j_0, .int i_8, .int i_9, .int i_10, .int i_11, .ref a_6, .ref a_7, .ref a_8, .ref a_9, .ref a_10, .ref a_11, .ref a_12, .ref a_13, .ref a_14, .ref a_15, .ref a_16, .ref a_17, .ref a_18, .int i_12, .int i_13, .int i_14, .int i_15, .int i_16, .int i_17, .ref a_19, .int i_18, .ref a_20])), (a_6, .inl (cy 1, 5, .inl (mm_g [i_19, i_20, i_21, i_22, i_23]))), (a_7, .inl (cy 1, 30, .inl (mm_g [i_24, i_25, i_26, i_27, i_28, i_29, i_30, i_31, i_32, i_33, i_34, i_35, i_36, i_37, i_38, i_39, i_40, i_41, i_42, i_43, i_44, i_45, i_46, i_47, i_48, i_49, i_50, i_51, i_52, i_53]))), (a_9, .inl (cy 1, 15, .inl f_0)), (a_10, .inl (cy 1, 1050, .inl f_1)), (a_13, .inl (cy 1, 450, .inl f_2)), (a_15, .inl (cy 1, 7200, .inl n3)), (a_16, .inl (cy 1, 3, .inl n4)), (a_17, .inl (cy 1, 3, .inl n5))] → va_S A s.heap H locs → ∀ (ls : Array Slot), lv_has ls 4 [(3, .int x6_3_236), (0, .ref a_0), (1, .int i_0), (2, .int i_1)] → W p l e R s m args below meth c H locs 0 0 Q (F0 m 6 ls []) := by
    intro n
    induction n with
    | zero => intro x6_3_236 rx6_3_236 hm; exact absurd hm (Nat.not_lt_zero _)
    | succ n ih6 =>
      intro x6_3_236 rx6_3_236 hm6 H locs hP hD hS ls hl
      refine lv_iload_n hx hb dX12_differOf_6 rfl (lv_at hl 0 rfl) ?_
      refine lv_aload_n hx hb dX12_differOf_7 rfl (lv_at hl 1 rfl) ?_
      refine va_get (D := G) (ci := 12) (v := .ref a_16) (C := RX12) (T := TX12) (N := 38) hx hb hts (mm_i inlX12) hown hK.1 hP 0 rfl rfl 26 (by decide) (mm_h hts mm_w158) (fun _ h9 => h9) rfl dX12_differOf_8 ?_
      refine lv_iload_n hx hb dX12_differOf_11 rfl (lv_at hl 2 rfl) ?_
      refine va_iald hx hb hK.1 hP 7 1 rfl rfl (mm_in h0 (by decide)) dX12_differOf_12 ?_
      refine lv_topi (fun v238 ev238 => ?_)
      have rv238 : mm_rg v238 0 210 := mm_eqv ev238 (w7 _)
      have q239 : mm_rg v238 1 210 := mm_laid_ld0 w9 h55 ev238 h0 rv238 (by decide)
      refine lv_aload_n hx hb dX12_differOf_13 rfl (lv_at hl 1 rfl) ?_
      refine va_get (D := G) (ci := 12) (v := .ref a_16) (C := RX12) (T := TX12) (N := 38) hx hb hts (mm_i inlX12) hown hK.1 hP 0 rfl rfl 26 (by decide) (mm_h hts mm_w158) (fun _ h9 => h9) rfl dX12_differOf_14 ?_
      refine lv_iload_n hx hb dX12_differOf_17 rfl (lv_at hl 3 rfl) ?_
      refine va_iald hx hb hK.1 hP 7 1 rfl rfl (mm_in h1 (by decide)) dX12_differOf_18 ?_
      refine lv_topi (fun v240 ev240 => ?_)
      have rv240 : mm_rg v240 0 210 := mm_eqv ev240 (w7 _)
      have q241 : mm_rg v240 1 210 := mm_laid_ld0 w9 h56 ev240 h1 rv240 (by decide)
      refine lv_imul hx hb dX12_differOf_19 ?_
      refine lv_topi (fun v242 ev242 => ?_)
      have rv242 : mm_rg v242 1 44100 := mm_mul ev242 q239 q241 (by decide) (by decide)
      have tv242 := mm_mulE ev242 (mm_wk (l2 := 0) (h2 := 210) q239 (by decide)) (mm_wk (l2 := 0) (h2 := 210) q241 (by decide)) (by decide)
      refine lv_icmp_ge (tgt := 42) hx hb dX12_differOf_20 (by decide) (fun c243 => ?_) (fun c243 => ?_)
      · have q244 := mm_leR (mm_le c243) rv242 rx6_3_236
        refine lv_iconst (v := (-1)) hx hb dX12_differOf_42 (by decide) ?_
        subst hAe
        rw [hQ]
        exact W.iret (v := (-1)) hx hb hr (fun t ht hW => ⟨⟨(-1), (n3, n4, n5), rfl, ⟨w6, w7, w8, w9, (mm_wk mm_km1 (by decide))⟩, by rw [ht]; exact hP, hK.warm hW, hD⟩, hS.F ht⟩) hS.2.2 dX12_differOf_43
      · have q245 := mm_ltL (h := 44099) (mm_nle c243) rx6_3_236 rv242 (by decide)
        refine lv_aload_n hx hb dX12_differOf_23 rfl (lv_at hl 1 rfl) ?_
        refine lv_iload_n hx hb dX12_differOf_24 rfl (lv_at hl 2 rfl) ?_
        refine lv_iload_n hx hb dX12_differOf_25 rfl (lv_at hl 0 rfl) ?_
        refine lv_iload_n hx hb dX12_differOf_26 rfl (lv_at hl 3 rfl) ?_
        refine lv_iload_n hx hb dX12_differOf_27 rfl (lv_at hl 0 rfl) ?_
        refine mm_finir (va_runV (As := [.int i_0, .int x6_3_236, .int i_1, .int x6_3_236]) (rest := []) ⟨hx, hb, hml, hown, hts⟩ (M189_X12_areAlike l G cy H.size a_0 i_0 x6_3_236 i_1 x6_3_236 i_2 a_1 a_2 a_3 a_4 a_5 i_3 i_4 i_5 i_6 i_7 j_0 i_8 i_9 i_10 i_11 a_6 a_7 a_8 a_9 a_10 a_11 a_12 a_13 a_14 a_15 a_16 a_17 a_18 i_12 i_13 i_14 i_15 i_16 i_17 a_19 i_18 a_20 i_19 i_20 i_21 i_22 i_23 i_24 i_25 i_26 i_27 i_28 i_29 i_30 i_31 i_32 i_33 i_34 i_35 i_36 i_37 i_38 i_39 i_40 i_41 i_42 i_43 i_44 i_45 i_46 i_47 i_48 i_49 i_50 i_51 i_52 i_53 n3 n4 h0 (mm_wk q245 (by decide)) h1 (mm_wk q245 (by decide)) (mm_wk q2 (by decide)) h3 h4 h5 h6 h7 h8 h9 (mm_wk q1 (by decide)) h11 h12 h13 h14 h15 h16 h17 h18 h19 h20 h21 h22 h23 h24 h25 h26 h27 h28 h29 h30 h31 h32 h33 h34 h35 h36 w6 w7 h45 h48 h51 h54 (mm_f1_l w9 h55 h0 (by decide)) (mm_f1_l w9 h56 h1 (by decide))) (cwV 4 hts (mm_gV mm_w1169 mm_w1170 mm_w1171 mm_w5 mm_w1172) rfl rfl rfl hd_X12_areAlike ⟨by rw [hRf]; exact Nat.le_of_ble_eq_true rfl, by rw [hRl]; exact Nat.le_of_ble_eq_true rfl⟩) (mm_preV hK hZ hS hA hP hD [0, 1, 2, 6, 7] rfl rfl 0 rfl rfl rfl) rfl rfl hl.1 rfl (lv_room (Nat.le_of_ble_eq_true rfl)) dX12_differOf_28 ⟨by rw [hRc]; exact Nat.le_of_ble_eq_true rfl, by rw [hRs]; exact Nat.le_of_ble_eq_true rfl⟩) hP hD hS hA [0, 1, 2, 6, 7] rfl (fun _ => rfl) ?_
        clear hP hD hS
        clear H locs
        intro v246 _u H locs hw hP hD hS
        rcases hw with rfl | rfl
        · refine lv_if_ne (tgt := 36) hx hb dX12_differOf_31 (by decide) (fun c247 => ?_) (fun c247 => ?_)
          · exact absurd rfl (mm_ne c247)
          · refine lv_iload_n hx hb dX12_differOf_34 rfl (lv_at hl 0 rfl) ?_
            subst hAe
            rw [hQ]
            exact W.iret (v := x6_3_236) hx hb hr (fun t ht hW => ⟨⟨x6_3_236, (n3, n4, n5), rfl, ⟨w6, w7, w8, w9, (mm_wk q245 (by decide))⟩, by rw [ht]; exact hP, hK.warm hW, hD⟩, hS.F ht⟩) hS.2.2 dX12_differOf_35
        · refine lv_if_ne (tgt := 36) hx hb dX12_differOf_31 (by decide) (fun c248 => ?_) (fun c248 => ?_)
          · obtain ⟨v249, ev249⟩ : ∃ y : Int32, y = x6_3_236 + 1 := ⟨_, rfl⟩
            refine lv_iinc (v := v249) (lv' := [(3, .int v249), (0, .ref a_0), (1, .int i_0), (2, .int i_1)]) hx hb dX12_differOf_36 hl (k := 0) rfl (by rw [ev249]; rfl) (by decide) rfl ?_
            clear hl
            clear ls
            intro ls hl
            have rv249 : mm_rg v249 1 44100 := mm_add ev249 q245 mm_k1 (by decide) (by decide)
            have tv249 := mm_addEc ev249 q245 mm_k1 (by decide) (k := 1) (by decide)
            refine lv_goto (tgt := 6) hx hb dX12_differOf_39 (by decide) ?_
            exact ih6 v249 (mm_wk rv249 (by decide)) (mm_mu hm6 tv249 (by decide) (rv249).2 (by decide)) H locs hP hD hS ls (lv_sub hl [0, 1, 2, 3] rfl)
          · exact mm_eqN c248.symm mm_k0 mm_k1 (by decide)
  exact L6_236 _ 0 (mm_wk mm_k0 (by decide)) (Nat.lt_succ_self _) H locs hP hD hS ls (lv_sub hl [0, 1, 2, 3] rfl)

set_option maxHeartbeats 4000000 in
set_option maxRecDepth 100000 in
theorem M194_X12_differ (l : Launch) (G : va_G) (cy : Nat → ClassId) (sz : Nat) (a_0 : Nat) (i_0 : Int32) (i_1 : Int32) (i_2 : Int32) (a_1 : Nat) (a_2 : Nat) (a_3 : Nat) (a_4 : Nat) (a_5 : Nat) (i_3 : Int32) (i_4 : Int32) (i_5 : Int32) (i_6 : Int32) (i_7 : Int32) (j_0 : Int64) (i_8 : Int32) (i_9 : Int32) (i_10 : Int32) (i_11 : Int32) (a_6 : Nat) (a_7 : Nat) (a_8 : Nat) (a_9 : Nat) (a_10 : Nat) (a_11 : Nat) (a_12 : Nat) (a_13 : Nat) (a_14 : Nat) (a_15 : Nat) (a_16 : Nat) (a_17 : Nat) (a_18 : Nat) (i_12 : Int32) (i_13 : Int32) (i_14 : Int32) (i_15 : Int32) (i_16 : Int32) (i_17 : Int32) (a_19 : Nat) (i_18 : Int32) (a_20 : Nat) (i_19 : Int32) (i_20 : Int32) (i_21 : Int32) (i_22 : Int32) (i_23 : Int32) (i_24 : Int32) (i_25 : Int32) (i_26 : Int32) (i_27 : Int32) (i_28 : Int32) (i_29 : Int32) (i_30 : Int32) (i_31 : Int32) (i_32 : Int32) (i_33 : Int32) (i_34 : Int32) (i_35 : Int32) (i_36 : Int32) (i_37 : Int32) (i_38 : Int32) (i_39 : Int32) (i_40 : Int32) (i_41 : Int32) (i_42 : Int32) (i_43 : Int32) (i_44 : Int32) (i_45 : Int32) (i_46 : Int32) (i_47 : Int32) (i_48 : Int32) (i_49 : Int32) (i_50 : Int32) (i_51 : Int32) (i_52 : Int32) (i_53 : Int32) (f_0 : Nat → Int32) (f_1 : Nat → Int32) (f_2 : Nat → Int32) (f_3 : Nat → Int32) (f_4 : Nat → Int32) (f_5 : Nat → Int32) (h0 : mm_rg i_19 0 601) (h1 : mm_rg i_20 0 601) (h2 : mm_rg i_21 0 601) (h3 : mm_rg i_22 0 601) (h4 : mm_rg i_23 0 601) (h5 : mm_rg i_24 0 10) (h6 : mm_rg i_25 0 99) (h7 : mm_rg i_26 0 9) (h8 : mm_rg i_27 0 3) (h9 : mm_rg i_28 0 6) (h10 : mm_rg i_29 0 30) (h11 : mm_rg i_30 0 10) (h12 : mm_rg i_31 0 99) (h13 : mm_rg i_32 0 9) (h14 : mm_rg i_33 0 3) (h15 : mm_rg i_34 0 6) (h16 : mm_rg i_35 0 30) (h17 : mm_rg i_36 0 10) (h18 : mm_rg i_37 0 99) (h19 : mm_rg i_38 0 9) (h20 : mm_rg i_39 0 3) (h21 : mm_rg i_40 0 6) (h22 : mm_rg i_41 0 30) (h23 : mm_rg i_42 0 10) (h24 : mm_rg i_43 0 99) (h25 : mm_rg i_44 0 9) (h26 : mm_rg i_45 0 3) (h27 : mm_rg i_46 0 6) (h28 : mm_rg i_47 0 30) (h29 : mm_rg i_48 0 10) (h30 : mm_rg i_49 0 99) (h31 : mm_rg i_50 0 9) (h32 : mm_rg i_51 0 3) (h33 : mm_rg i_52 0 6) (h34 : mm_rg i_53 0 30) (h35 : mm_ar f_0 0 7) (h36 : mm_ar f_1 0 9) (h37 : mm_ar f_2 (-1) 99) (h38 : mm_ar f_3 0 9) (h39 : mm_ar f_4 0 210) (h40 : mm_ar f_5 0 210) (h41 : mm_rls f_0 f_1 0 i_26 i_27) (h42 : mm_acs f_2 0 i_26 i_27 i_29) (h43 : mm_tl i_19 i_27 i_28) (h44 : mm_rls f_0 f_1 1 i_32 i_33) (h45 : mm_acs f_2 1 i_32 i_33 i_35) (h46 : mm_tl i_20 i_33 i_34) (h47 : mm_rls f_0 f_1 2 i_38 i_39) (h48 : mm_acs f_2 2 i_38 i_39 i_41) (h49 : mm_tl i_21 i_39 i_40) (h50 : mm_rls f_0 f_1 3 i_44 i_45) (h51 : mm_acs f_2 3 i_44 i_45 i_47) (h52 : mm_tl i_22 i_45 i_46)  : mm_CI l yX12_differ (mm_ws yX12_differ cX12_differ 3 (some .int)) ({ frames := 15, cells := 0, slots := 0, locals := 323 } : Room) G cy sz [(a_0, .inr (12, [.int i_2, .ref a_1, .ref a_2, .ref a_3, .ref a_4, .ref a_5, .int i_3, .int i_4, .int i_5, .int i_6, .int i_7, .long j_0, .int i_8, .int i_9, .int i_10, .int i_11, .ref a_6, .ref a_7, .ref a_8, .ref a_9, .ref a_10, .ref a_11, .ref a_12, .ref a_13, .ref a_14, .ref a_15, .ref a_16, .ref a_17, .ref a_18, .int i_12, .int i_13, .int i_14, .int i_15, .int i_16, .int i_17, .ref a_19, .int i_18, .ref a_20])), (a_6, .inl (cy 1, 5, .inl (mm_g [i_19, i_20, i_21, i_22, i_23]))), (a_7, .inl (cy 1, 30, .inl (mm_g [i_24, i_25, i_26, i_27, i_28, i_29, i_30, i_31, i_32, i_33, i_34, i_35, i_36, i_37, i_38, i_39, i_40, i_41, i_42, i_43, i_44, i_45, i_46, i_47, i_48, i_49, i_50, i_51, i_52, i_53]))), (a_9, .inl (cy 1, 15, .inl f_0)), (a_10, .inl (cy 1, 1050, .inl f_1)), (a_13, .inl (cy 1, 450, .inl f_2)), (a_15, .inl (cy 1, 7200, .inl f_3)), (a_16, .inl (cy 1, 3, .inl f_4)), (a_17, .inl (cy 1, 3, .inl f_5))] [.ref a_0, .int i_0, .int i_1] (fun u : (Nat → Int32) × (Nat → Int32) × (Nat → Int32) => [(a_0, .inr (12, [.int 0, .ref a_1, .ref a_2, .ref a_3, .ref a_4, .ref a_5, .int i_3, .int i_4, .int i_5, .int i_6, .int i_7, .long j_0, .int i_8, .int i_9, .int i_10, .int i_11, .ref a_6, .ref a_7, .ref a_8, .ref a_9, .ref a_10, .ref a_11, .ref a_12, .ref a_13, .ref a_14, .ref a_15, .ref a_16, .ref a_17, .ref a_18, .int i_12, .int i_13, .int i_14, .int i_15, .int i_16, .int i_17, .ref a_19, .int i_18, .ref a_20])), (a_6, .inl (cy 1, 5, .inl (mm_g [i_19, i_20, i_21, i_22, i_23]))), (a_7, .inl (cy 1, 30, .inl (mm_g [i_24, i_25, i_26, i_27, i_28, i_29, i_30, i_31, i_32, i_33, i_34, i_35, i_36, i_37, i_38, i_39, i_40, i_41, i_42, i_43, i_44, i_45, i_46, i_47, i_48, i_49, i_50, i_51, i_52, i_53]))), (a_9, .inl (cy 1, 15, .inl f_0)), (a_10, .inl (cy 1, 1050, .inl f_1)), (a_13, .inl (cy 1, 450, .inl f_2)), (a_15, .inl (cy 1, 7200, .inl u.1)), (a_16, .inl (cy 1, 3, .inl u.2.1)), (a_17, .inl (cy 1, 3, .inl u.2.2))]) (fun (r : Int32) (u : (Nat → Int32) × (Nat → Int32) × (Nat → Int32)) => mm_ar u.1 0 9 ∧ mm_ar u.2.1 0 210 ∧ mm_ar u.2.2 0 210 ∧ mm_rg r (-2) 44099) 0 0 := by
  refine mm_begin (lv := [(0, .ref a_0), (1, .int i_0), (2, .int i_1)]) (by decide) (Nat.le_of_ble_eq_true rfl) rfl ?_
  intro p e s m below meth c A ls R args Q H locs hRe hQ hAe hx hb hr hlocks hml hown hnm hts hsz hA hS hP hK hD hZ hl
  have hRf : R.frames = 15 := by rw [hRe]
  have hRl : R.locals = 323 := by rw [hRe]
  have hRc : R.cells = 0 := by rw [hRe]
  have hRs : R.slots = 0 := by rw [hRe]
  refine lv_aload_n hx hb dX12_differ_0 rfl (lv_at hl 0 rfl) ?_
  refine lv_iconst (v := 0) hx hb dX12_differ_1 (by decide) ?_
  refine va_put (D := G) (ci := 12) (v := .int 0) (ty := tyX12 0) (C := RX12) (T := TX12) (N := 38) hx hb hts (mm_i inlX12) tyX12 tyX12_ok nmX12 hown hK.1 hP hD hS 0 rfl rfl 0 (by decide) (mm_h hts mm_w177) (fun _ h9 => h9) rfl (tyX12_ok 0 (by decide)) rfl rfl (Nat.le_of_ble_eq_true rfl) dX12_differ_2 ?_
  clear hP hD hS
  clear H locs
  intro H locs (hP : va_P G vwCl [(a_0, .inr (12, [.int 0, .ref a_1, .ref a_2, .ref a_3, .ref a_4, .ref a_5, .int i_3, .int i_4, .int i_5, .int i_6, .int i_7, .long j_0, .int i_8, .int i_9, .int i_10, .int i_11, .ref a_6, .ref a_7, .ref a_8, .ref a_9, .ref a_10, .ref a_11, .ref a_12, .ref a_13, .ref a_14, .ref a_15, .ref a_16, .ref a_17, .ref a_18, .int i_12, .int i_13, .int i_14, .int i_15, .int i_16, .int i_17, .ref a_19, .int i_18, .ref a_20])), (a_6, .inl (cy 1, 5, .inl (mm_g [i_19, i_20, i_21, i_22, i_23]))), (a_7, .inl (cy 1, 30, .inl (mm_g [i_24, i_25, i_26, i_27, i_28, i_29, i_30, i_31, i_32, i_33, i_34, i_35, i_36, i_37, i_38, i_39, i_40, i_41, i_42, i_43, i_44, i_45, i_46, i_47, i_48, i_49, i_50, i_51, i_52, i_53]))), (a_9, .inl (cy 1, 15, .inl f_0)), (a_10, .inl (cy 1, 1050, .inl f_1)), (a_13, .inl (cy 1, 450, .inl f_2)), (a_15, .inl (cy 1, 7200, .inl f_3)), (a_16, .inl (cy 1, 3, .inl f_4)), (a_17, .inl (cy 1, 3, .inl f_5))] H) (hD : va_D A [(a_0, .inr (12, [.int 0, .ref a_1, .ref a_2, .ref a_3, .ref a_4, .ref a_5, .int i_3, .int i_4, .int i_5, .int i_6, .int i_7, .long j_0, .int i_8, .int i_9, .int i_10, .int i_11, .ref a_6, .ref a_7, .ref a_8, .ref a_9, .ref a_10, .ref a_11, .ref a_12, .ref a_13, .ref a_14, .ref a_15, .ref a_16, .ref a_17, .ref a_18, .int i_12, .int i_13, .int i_14, .int i_15, .int i_16, .int i_17, .ref a_19, .int i_18, .ref a_20])), (a_6, .inl (cy 1, 5, .inl (mm_g [i_19, i_20, i_21, i_22, i_23]))), (a_7, .inl (cy 1, 30, .inl (mm_g [i_24, i_25, i_26, i_27, i_28, i_29, i_30, i_31, i_32, i_33, i_34, i_35, i_36, i_37, i_38, i_39, i_40, i_41, i_42, i_43, i_44, i_45, i_46, i_47, i_48, i_49, i_50, i_51, i_52, i_53]))), (a_9, .inl (cy 1, 15, .inl f_0)), (a_10, .inl (cy 1, 1050, .inl f_1)), (a_13, .inl (cy 1, 450, .inl f_2)), (a_15, .inl (cy 1, 7200, .inl f_3)), (a_16, .inl (cy 1, 3, .inl f_4)), (a_17, .inl (cy 1, 3, .inl f_5))]) hS
  refine lv_aload_n hx hb dX12_differ_5 rfl (lv_at hl 0 rfl) ?_
  refine lv_iload_n hx hb dX12_differ_6 rfl (lv_at hl 1 rfl) ?_
  refine mm_finir (va_runV (As := [.int i_0]) (rest := []) ⟨hx, hb, hml, hown, hts⟩ (M98_X12_isLand l G cy H.size a_0 i_0 0 a_1 a_2 a_3 a_4 a_5 i_3 i_4 i_5 i_6 i_7 j_0 i_8 i_9 i_10 i_11 a_6 a_7 a_8 a_9 a_10 a_11 a_12 a_13 a_14 a_15 a_16 a_17 a_18 i_12 i_13 i_14 i_15 i_16 i_17 a_19 i_18 a_20 i_24 i_25 i_26 i_27 i_28 i_29 i_30 i_31 i_32 i_33 i_34 i_35 i_36 i_37 i_38 i_39 i_40 i_41 i_42 i_43 i_44 i_45 i_46 i_47 i_48 i_49 i_50 i_51 i_52 i_53 h5 h6 h7 h8 h9 h10 h11 h12 h13 h14 h15 h16 h17 h18 h19 h20 h21 h22 h23 h24 h25 h26 h27 h28 h29 h30 h31 h32 h33 h34) (cwV 1 hts (mm_gV mm_w641 mm_w642 mm_w643 mm_w5 mm_w644) rfl rfl rfl hd_X12_isLand ⟨by rw [hRf]; exact Nat.le_of_ble_eq_true rfl, by rw [hRl]; exact Nat.le_of_ble_eq_true rfl⟩) (mm_preV hK hZ hS hA hP hD [0, 2] rfl rfl 0 rfl rfl rfl) rfl rfl hl.1 rfl (lv_room (Nat.le_of_ble_eq_true rfl)) dX12_differ_7 ⟨by rw [hRc]; exact Nat.le_of_ble_eq_true rfl, by rw [hRs]; exact Nat.le_of_ble_eq_true rfl⟩) hP hD hS hA [0, 2] rfl (fun _ => rfl) ?_
  clear hP hD hS
  clear H locs
  intro v1 _u H locs hw hP hD hS
  rcases hw with rfl | ⟨rfl, w2, w3⟩
  · refine lv_if_eq (tgt := 30) hx hb dX12_differ_10 (by decide) (fun c4 => ?_) (fun c4 => ?_)
    · refine lv_bipush (v := (-2)) hx hb dX12_differ_30 (by decide) ?_
      subst hAe
      rw [hQ]
      exact W.iret (v := (-2)) hx hb hr (fun t ht hW => ⟨⟨(-2), (f_3, f_4, f_5), rfl, ⟨h38, h39, h40, (mm_wk mm_km2 (by decide))⟩, by rw [ht]; exact hP, hK.warm hW, hD⟩, hS.F ht⟩) hS.2.2 dX12_differ_32
    · exact absurd rfl (mm_ne c4)
  · have q5 := mm_ltR (lo := 1) w3 w2 h8 (by decide)
    have q6 : mm_rg i_19 1 601 := mm_tl_3 h43 q5 h0 (by decide)
    refine lv_if_eq (tgt := 30) hx hb dX12_differ_10 (by decide) (fun c7 => ?_) (fun c7 => ?_)
    · exact mm_eqN c7.symm mm_k0 mm_k1 (by decide)
    · refine lv_aload_n hx hb dX12_differ_13 rfl (lv_at hl 0 rfl) ?_
      refine lv_iload_n hx hb dX12_differ_14 rfl (lv_at hl 2 rfl) ?_
      refine mm_finir (va_runV (As := [.int i_1]) (rest := []) ⟨hx, hb, hml, hown, hts⟩ (M98_X12_isLand l G cy H.size a_0 i_1 0 a_1 a_2 a_3 a_4 a_5 i_3 i_4 i_5 i_6 i_7 j_0 i_8 i_9 i_10 i_11 a_6 a_7 a_8 a_9 a_10 a_11 a_12 a_13 a_14 a_15 a_16 a_17 a_18 i_12 i_13 i_14 i_15 i_16 i_17 a_19 i_18 a_20 i_24 i_25 i_26 i_27 i_28 i_29 i_30 i_31 i_32 i_33 i_34 i_35 i_36 i_37 i_38 i_39 i_40 i_41 i_42 i_43 i_44 i_45 i_46 i_47 i_48 i_49 i_50 i_51 i_52 i_53 h5 h6 h7 (mm_wk q5 (by decide)) h9 h10 h11 h12 h13 h14 h15 h16 h17 h18 h19 h20 h21 h22 h23 h24 h25 h26 h27 h28 h29 h30 h31 h32 h33 h34) (cwV 1 hts (mm_gV mm_w641 mm_w642 mm_w643 mm_w5 mm_w644) rfl rfl rfl hd_X12_isLand ⟨by rw [hRf]; exact Nat.le_of_ble_eq_true rfl, by rw [hRl]; exact Nat.le_of_ble_eq_true rfl⟩) (mm_preV hK hZ hS hA hP hD [0, 2] rfl rfl 0 rfl rfl rfl) rfl rfl hl.1 rfl (lv_room (Nat.le_of_ble_eq_true rfl)) dX12_differ_15 ⟨by rw [hRc]; exact Nat.le_of_ble_eq_true rfl, by rw [hRs]; exact Nat.le_of_ble_eq_true rfl⟩) hP hD hS hA [0, 2] rfl (fun _ => rfl) ?_
      clear hP hD hS
      clear H locs
      intro v8 _u H locs hw hP hD hS
      rcases hw with rfl | ⟨rfl, w9, w10⟩
      · refine lv_if_eq (tgt := 30) hx hb dX12_differ_18 (by decide) (fun c11 => ?_) (fun c11 => ?_)
        · refine lv_bipush (v := (-2)) hx hb dX12_differ_30 (by decide) ?_
          subst hAe
          rw [hQ]
          exact W.iret (v := (-2)) hx hb hr (fun t ht hW => ⟨⟨(-2), (f_3, f_4, f_5), rfl, ⟨h38, h39, h40, (mm_wk mm_km2 (by decide))⟩, by rw [ht]; exact hP, hK.warm hW, hD⟩, hS.F ht⟩) hS.2.2 dX12_differ_32
        · exact absurd rfl (mm_ne c11)
      · refine lv_if_eq (tgt := 30) hx hb dX12_differ_18 (by decide) (fun c12 => ?_) (fun c12 => ?_)
        · exact mm_eqN c12.symm mm_k0 mm_k1 (by decide)
        · refine lv_aload_n hx hb dX12_differ_21 rfl (lv_at hl 0 rfl) ?_
          refine lv_iload_n hx hb dX12_differ_22 rfl (lv_at hl 1 rfl) ?_
          refine lv_iload_n hx hb dX12_differ_23 rfl (lv_at hl 2 rfl) ?_
          refine mm_fini (va_runV (As := [.int i_0, .int i_1]) (rest := []) ⟨hx, hb, hml, hown, hts⟩ (M193_X12_differOf l G cy H.size a_0 i_0 i_1 0 a_1 a_2 a_3 a_4 a_5 i_3 i_4 i_5 i_6 i_7 j_0 i_8 i_9 i_10 i_11 a_6 a_7 a_8 a_9 a_10 a_11 a_12 a_13 a_14 a_15 a_16 a_17 a_18 i_12 i_13 i_14 i_15 i_16 i_17 a_19 i_18 a_20 i_19 i_20 i_21 i_22 i_23 i_24 i_25 i_26 i_27 i_28 i_29 i_30 i_31 i_32 i_33 i_34 i_35 i_36 i_37 i_38 i_39 i_40 i_41 i_42 i_43 i_44 i_45 i_46 i_47 i_48 i_49 i_50 i_51 i_52 i_53 f_0 f_1 f_2 f_3 f_4 f_5 w2 w9 (mm_wk q6 (by decide)) h1 h2 h3 h4 h5 h6 h7 (mm_wk q5 (by decide)) h9 h10 h11 h12 h13 h14 h15 h16 h17 h18 h19 h20 h21 h22 h23 h24 h25 h26 h27 h28 h29 h30 h31 h32 h33 h34 h35 h36 h37 h38 h39 h40 h41 h42 h43 h44 h45 h46 h47 h48 h49 h50 h51 h52 w3 w10) (cwV 2 hts (mm_gV mm_w1202 mm_w1203 mm_w1204 mm_w5 mm_w1205) rfl rfl rfl hd_X12_differOf ⟨by rw [hRf]; exact Nat.le_of_ble_eq_true rfl, by rw [hRl]; exact Nat.le_of_ble_eq_true rfl⟩) (mm_preV hK hZ hS hA hP hD [0, 1, 2, 3, 4, 5, 6, 7, 8] rfl rfl 0 rfl rfl rfl) rfl rfl hl.1 rfl (lv_room (Nat.le_of_ble_eq_true rfl)) dX12_differ_24 ⟨by rw [hRc]; exact Nat.le_of_ble_eq_true rfl, by rw [hRs]; exact Nat.le_of_ble_eq_true rfl⟩) hP hD hS hA (fun u : (Nat → Int32) × (Nat → Int32) × (Nat → Int32) => [(a_0, .inr (12, [.int 0, .ref a_1, .ref a_2, .ref a_3, .ref a_4, .ref a_5, .int i_3, .int i_4, .int i_5, .int i_6, .int i_7, .long j_0, .int i_8, .int i_9, .int i_10, .int i_11, .ref a_6, .ref a_7, .ref a_8, .ref a_9, .ref a_10, .ref a_11, .ref a_12, .ref a_13, .ref a_14, .ref a_15, .ref a_16, .ref a_17, .ref a_18, .int i_12, .int i_13, .int i_14, .int i_15, .int i_16, .int i_17, .ref a_19, .int i_18, .ref a_20])), (a_6, .inl (cy 1, 5, .inl (mm_g [i_19, i_20, i_21, i_22, i_23]))), (a_7, .inl (cy 1, 30, .inl (mm_g [i_24, i_25, i_26, i_27, i_28, i_29, i_30, i_31, i_32, i_33, i_34, i_35, i_36, i_37, i_38, i_39, i_40, i_41, i_42, i_43, i_44, i_45, i_46, i_47, i_48, i_49, i_50, i_51, i_52, i_53]))), (a_9, .inl (cy 1, 15, .inl f_0)), (a_10, .inl (cy 1, 1050, .inl f_1)), (a_13, .inl (cy 1, 450, .inl f_2)), (a_15, .inl (cy 1, 7200, .inl u.1)), (a_16, .inl (cy 1, 3, .inl u.2.1)), (a_17, .inl (cy 1, 3, .inl u.2.2))]) [0, 1, 2, 3, 4, 5, 6, 7, 8] [] (n := 9) (fun _ => rfl) (by decide +kernel) (by decide +kernel) rfl (fun _ => rfl) (wr := []) rfl (fun _ => rfl) (fun _ => @rfl _ ([a_0, a_6, a_7, a_9, a_10, a_13, a_15, a_16, a_17] : List Nat)) ?_
          clear hP hD hS
          clear H locs
          intro v16 u
          obtain ⟨n13, n14, n15⟩ := u
          intro H locs hw (hP : va_P G vwCl [(a_0, .inr (12, [.int 0, .ref a_1, .ref a_2, .ref a_3, .ref a_4, .ref a_5, .int i_3, .int i_4, .int i_5, .int i_6, .int i_7, .long j_0, .int i_8, .int i_9, .int i_10, .int i_11, .ref a_6, .ref a_7, .ref a_8, .ref a_9, .ref a_10, .ref a_11, .ref a_12, .ref a_13, .ref a_14, .ref a_15, .ref a_16, .ref a_17, .ref a_18, .int i_12, .int i_13, .int i_14, .int i_15, .int i_16, .int i_17, .ref a_19, .int i_18, .ref a_20])), (a_6, .inl (cy 1, 5, .inl (mm_g [i_19, i_20, i_21, i_22, i_23]))), (a_7, .inl (cy 1, 30, .inl (mm_g [i_24, i_25, i_26, i_27, i_28, i_29, i_30, i_31, i_32, i_33, i_34, i_35, i_36, i_37, i_38, i_39, i_40, i_41, i_42, i_43, i_44, i_45, i_46, i_47, i_48, i_49, i_50, i_51, i_52, i_53]))), (a_9, .inl (cy 1, 15, .inl f_0)), (a_10, .inl (cy 1, 1050, .inl f_1)), (a_13, .inl (cy 1, 450, .inl f_2)), (a_15, .inl (cy 1, 7200, .inl n13)), (a_16, .inl (cy 1, 3, .inl n14)), (a_17, .inl (cy 1, 3, .inl n15))] H) (hD : va_D A [(a_0, .inr (12, [.int 0, .ref a_1, .ref a_2, .ref a_3, .ref a_4, .ref a_5, .int i_3, .int i_4, .int i_5, .int i_6, .int i_7, .long j_0, .int i_8, .int i_9, .int i_10, .int i_11, .ref a_6, .ref a_7, .ref a_8, .ref a_9, .ref a_10, .ref a_11, .ref a_12, .ref a_13, .ref a_14, .ref a_15, .ref a_16, .ref a_17, .ref a_18, .int i_12, .int i_13, .int i_14, .int i_15, .int i_16, .int i_17, .ref a_19, .int i_18, .ref a_20])), (a_6, .inl (cy 1, 5, .inl (mm_g [i_19, i_20, i_21, i_22, i_23]))), (a_7, .inl (cy 1, 30, .inl (mm_g [i_24, i_25, i_26, i_27, i_28, i_29, i_30, i_31, i_32, i_33, i_34, i_35, i_36, i_37, i_38, i_39, i_40, i_41, i_42, i_43, i_44, i_45, i_46, i_47, i_48, i_49, i_50, i_51, i_52, i_53]))), (a_9, .inl (cy 1, 15, .inl f_0)), (a_10, .inl (cy 1, 1050, .inl f_1)), (a_13, .inl (cy 1, 450, .inl f_2)), (a_15, .inl (cy 1, 7200, .inl n13)), (a_16, .inl (cy 1, 3, .inl n14)), (a_17, .inl (cy 1, 3, .inl n15))]) hS
          obtain ⟨w17, w18, w19, w20, hw⟩ := hw
          replace w20 : mm_laid n14 n15 i_27 := w20
          have w21 := hw
          refine lv_goto (tgt := 32) hx hb dX12_differ_27 (by decide) ?_
          subst hAe
          rw [hQ]
          exact W.iret (v := v16) hx hb hr (fun t ht hW => ⟨⟨v16, (n13, n14, n15), rfl, ⟨w17, w18, w19, (mm_wk w21 (by decide))⟩, by rw [ht]; exact hP, hK.warm hW, hD⟩, hS.F ht⟩) hS.2.2 dX12_differ_32

set_option maxHeartbeats 4000000 in
set_option maxRecDepth 100000 in
theorem M195_X12_differs (l : Launch) (G : va_G) (cy : Nat → ClassId) (sz : Nat) (a_0 : Nat) (i_0 : Int32) (i_1 : Int32) (i_2 : Int32) (a_1 : Nat) (a_2 : Nat) (a_3 : Nat) (a_4 : Nat) (a_5 : Nat) (i_3 : Int32) (i_4 : Int32) (i_5 : Int32) (i_6 : Int32) (i_7 : Int32) (j_0 : Int64) (i_8 : Int32) (i_9 : Int32) (i_10 : Int32) (i_11 : Int32) (a_6 : Nat) (a_7 : Nat) (a_8 : Nat) (a_9 : Nat) (a_10 : Nat) (a_11 : Nat) (a_12 : Nat) (a_13 : Nat) (a_14 : Nat) (a_15 : Nat) (a_16 : Nat) (a_17 : Nat) (a_18 : Nat) (i_12 : Int32) (i_13 : Int32) (i_14 : Int32) (i_15 : Int32) (i_16 : Int32) (i_17 : Int32) (a_19 : Nat) (i_18 : Int32) (a_20 : Nat) (i_19 : Int32) (i_20 : Int32) (i_21 : Int32) (i_22 : Int32) (i_23 : Int32) (i_24 : Int32) (i_25 : Int32) (i_26 : Int32) (i_27 : Int32) (i_28 : Int32) (i_29 : Int32) (i_30 : Int32) (i_31 : Int32) (i_32 : Int32) (i_33 : Int32) (i_34 : Int32) (i_35 : Int32) (i_36 : Int32) (i_37 : Int32) (i_38 : Int32) (i_39 : Int32) (i_40 : Int32) (i_41 : Int32) (i_42 : Int32) (i_43 : Int32) (i_44 : Int32) (i_45 : Int32) (i_46 : Int32) (i_47 : Int32) (i_48 : Int32) (i_49 : Int32) (i_50 : Int32) (i_51 : Int32) (i_52 : Int32) (i_53 : Int32) (f_0 : Nat → Int32) (f_1 : Nat → Int32) (f_2 : Nat → Int32) (f_3 : Nat → Int32) (f_4 : Nat → Int32) (f_5 : Nat → Int32) (h0 : mm_rg i_19 0 601) (h1 : mm_rg i_20 0 601) (h2 : mm_rg i_21 0 601) (h3 : mm_rg i_22 0 601) (h4 : mm_rg i_23 0 601) (h5 : mm_rg i_24 0 10) (h6 : mm_rg i_25 0 99) (h7 : mm_rg i_26 0 9) (h8 : mm_rg i_27 0 3) (h9 : mm_rg i_28 0 6) (h10 : mm_rg i_29 0 30) (h11 : mm_rg i_30 0 10) (h12 : mm_rg i_31 0 99) (h13 : mm_rg i_32 0 9) (h14 : mm_rg i_33 0 3) (h15 : mm_rg i_34 0 6) (h16 : mm_rg i_35 0 30) (h17 : mm_rg i_36 0 10) (h18 : mm_rg i_37 0 99) (h19 : mm_rg i_38 0 9) (h20 : mm_rg i_39 0 3) (h21 : mm_rg i_40 0 6) (h22 : mm_rg i_41 0 30) (h23 : mm_rg i_42 0 10) (h24 : mm_rg i_43 0 99) (h25 : mm_rg i_44 0 9) (h26 : mm_rg i_45 0 3) (h27 : mm_rg i_46 0 6) (h28 : mm_rg i_47 0 30) (h29 : mm_rg i_48 0 10) (h30 : mm_rg i_49 0 99) (h31 : mm_rg i_50 0 9) (h32 : mm_rg i_51 0 3) (h33 : mm_rg i_52 0 6) (h34 : mm_rg i_53 0 30) (h35 : mm_ar f_0 0 7) (h36 : mm_ar f_1 0 9) (h37 : mm_ar f_2 (-1) 99) (h38 : mm_ar f_3 0 9) (h39 : mm_ar f_4 0 210) (h40 : mm_ar f_5 0 210) (h41 : mm_rls f_0 f_1 0 i_26 i_27) (h42 : mm_acs f_2 0 i_26 i_27 i_29) (h43 : mm_tl i_19 i_27 i_28) (h44 : mm_rls f_0 f_1 1 i_32 i_33) (h45 : mm_acs f_2 1 i_32 i_33 i_35) (h46 : mm_tl i_20 i_33 i_34) (h47 : mm_rls f_0 f_1 2 i_38 i_39) (h48 : mm_acs f_2 2 i_38 i_39 i_41) (h49 : mm_tl i_21 i_39 i_40) (h50 : mm_rls f_0 f_1 3 i_44 i_45) (h51 : mm_acs f_2 3 i_44 i_45 i_47) (h52 : mm_tl i_22 i_45 i_46)  : mm_CI l yX12_differs (mm_ws yX12_differs cX12_differs 5 (some .int)) ({ frames := 15, cells := 0, slots := 0, locals := 323 } : Room) G cy sz [(a_0, .inr (12, [.int i_2, .ref a_1, .ref a_2, .ref a_3, .ref a_4, .ref a_5, .int i_3, .int i_4, .int i_5, .int i_6, .int i_7, .long j_0, .int i_8, .int i_9, .int i_10, .int i_11, .ref a_6, .ref a_7, .ref a_8, .ref a_9, .ref a_10, .ref a_11, .ref a_12, .ref a_13, .ref a_14, .ref a_15, .ref a_16, .ref a_17, .ref a_18, .int i_12, .int i_13, .int i_14, .int i_15, .int i_16, .int i_17, .ref a_19, .int i_18, .ref a_20])), (a_6, .inl (cy 1, 5, .inl (mm_g [i_19, i_20, i_21, i_22, i_23]))), (a_7, .inl (cy 1, 30, .inl (mm_g [i_24, i_25, i_26, i_27, i_28, i_29, i_30, i_31, i_32, i_33, i_34, i_35, i_36, i_37, i_38, i_39, i_40, i_41, i_42, i_43, i_44, i_45, i_46, i_47, i_48, i_49, i_50, i_51, i_52, i_53]))), (a_9, .inl (cy 1, 15, .inl f_0)), (a_10, .inl (cy 1, 1050, .inl f_1)), (a_13, .inl (cy 1, 450, .inl f_2)), (a_15, .inl (cy 1, 7200, .inl f_3)), (a_16, .inl (cy 1, 3, .inl f_4)), (a_17, .inl (cy 1, 3, .inl f_5))] [.ref a_0, .int i_0, .int i_1] (fun u : (Nat → Int32) × (Nat → Int32) × (Nat → Int32) => [(a_0, .inr (12, [.int 0, .ref a_1, .ref a_2, .ref a_3, .ref a_4, .ref a_5, .int i_3, .int i_4, .int i_5, .int i_6, .int i_7, .long j_0, .int i_8, .int i_9, .int i_10, .int i_11, .ref a_6, .ref a_7, .ref a_8, .ref a_9, .ref a_10, .ref a_11, .ref a_12, .ref a_13, .ref a_14, .ref a_15, .ref a_16, .ref a_17, .ref a_18, .int i_12, .int i_13, .int i_14, .int i_15, .int i_16, .int i_17, .ref a_19, .int i_18, .ref a_20])), (a_6, .inl (cy 1, 5, .inl (mm_g [i_19, i_20, i_21, i_22, i_23]))), (a_7, .inl (cy 1, 30, .inl (mm_g [i_24, i_25, i_26, i_27, i_28, i_29, i_30, i_31, i_32, i_33, i_34, i_35, i_36, i_37, i_38, i_39, i_40, i_41, i_42, i_43, i_44, i_45, i_46, i_47, i_48, i_49, i_50, i_51, i_52, i_53]))), (a_9, .inl (cy 1, 15, .inl f_0)), (a_10, .inl (cy 1, 1050, .inl f_1)), (a_13, .inl (cy 1, 450, .inl f_2)), (a_15, .inl (cy 1, 7200, .inl u.1)), (a_16, .inl (cy 1, 3, .inl u.2.1)), (a_17, .inl (cy 1, 3, .inl u.2.2))]) (fun (r : Int32) (u : (Nat → Int32) × (Nat → Int32) × (Nat → Int32)) => mm_ar u.1 0 9 ∧ mm_ar u.2.1 0 210 ∧ mm_ar u.2.2 0 210 ∧ mm_rg r (-2) 9) 0 0 := by
  refine mm_begin (lv := [(0, .ref a_0), (1, .int i_0), (2, .int i_1)]) (by decide) (Nat.le_of_ble_eq_true rfl) rfl ?_
  intro p e s m below meth c A ls R args Q H locs hRe hQ hAe hx hb hr hlocks hml hown hnm hts hsz hA hS hP hK hD hZ hl
  have hRf : R.frames = 15 := by rw [hRe]
  have hRl : R.locals = 323 := by rw [hRe]
  have hRc : R.cells = 0 := by rw [hRe]
  have hRs : R.slots = 0 := by rw [hRe]
  refine lv_aload_n hx hb dX12_differs_0 rfl (lv_at hl 0 rfl) ?_
  refine lv_iconst (v := 0) hx hb dX12_differs_1 (by decide) ?_
  refine va_put (D := G) (ci := 12) (v := .int 0) (ty := tyX12 0) (C := RX12) (T := TX12) (N := 38) hx hb hts (mm_i inlX12) tyX12 tyX12_ok nmX12 hown hK.1 hP hD hS 0 rfl rfl 0 (by decide) (mm_h hts mm_w177) (fun _ h9 => h9) rfl (tyX12_ok 0 (by decide)) rfl rfl (Nat.le_of_ble_eq_true rfl) dX12_differs_2 ?_
  clear hP hD hS
  clear H locs
  intro H locs (hP : va_P G vwCl [(a_0, .inr (12, [.int 0, .ref a_1, .ref a_2, .ref a_3, .ref a_4, .ref a_5, .int i_3, .int i_4, .int i_5, .int i_6, .int i_7, .long j_0, .int i_8, .int i_9, .int i_10, .int i_11, .ref a_6, .ref a_7, .ref a_8, .ref a_9, .ref a_10, .ref a_11, .ref a_12, .ref a_13, .ref a_14, .ref a_15, .ref a_16, .ref a_17, .ref a_18, .int i_12, .int i_13, .int i_14, .int i_15, .int i_16, .int i_17, .ref a_19, .int i_18, .ref a_20])), (a_6, .inl (cy 1, 5, .inl (mm_g [i_19, i_20, i_21, i_22, i_23]))), (a_7, .inl (cy 1, 30, .inl (mm_g [i_24, i_25, i_26, i_27, i_28, i_29, i_30, i_31, i_32, i_33, i_34, i_35, i_36, i_37, i_38, i_39, i_40, i_41, i_42, i_43, i_44, i_45, i_46, i_47, i_48, i_49, i_50, i_51, i_52, i_53]))), (a_9, .inl (cy 1, 15, .inl f_0)), (a_10, .inl (cy 1, 1050, .inl f_1)), (a_13, .inl (cy 1, 450, .inl f_2)), (a_15, .inl (cy 1, 7200, .inl f_3)), (a_16, .inl (cy 1, 3, .inl f_4)), (a_17, .inl (cy 1, 3, .inl f_5))] H) (hD : va_D A [(a_0, .inr (12, [.int 0, .ref a_1, .ref a_2, .ref a_3, .ref a_4, .ref a_5, .int i_3, .int i_4, .int i_5, .int i_6, .int i_7, .long j_0, .int i_8, .int i_9, .int i_10, .int i_11, .ref a_6, .ref a_7, .ref a_8, .ref a_9, .ref a_10, .ref a_11, .ref a_12, .ref a_13, .ref a_14, .ref a_15, .ref a_16, .ref a_17, .ref a_18, .int i_12, .int i_13, .int i_14, .int i_15, .int i_16, .int i_17, .ref a_19, .int i_18, .ref a_20])), (a_6, .inl (cy 1, 5, .inl (mm_g [i_19, i_20, i_21, i_22, i_23]))), (a_7, .inl (cy 1, 30, .inl (mm_g [i_24, i_25, i_26, i_27, i_28, i_29, i_30, i_31, i_32, i_33, i_34, i_35, i_36, i_37, i_38, i_39, i_40, i_41, i_42, i_43, i_44, i_45, i_46, i_47, i_48, i_49, i_50, i_51, i_52, i_53]))), (a_9, .inl (cy 1, 15, .inl f_0)), (a_10, .inl (cy 1, 1050, .inl f_1)), (a_13, .inl (cy 1, 450, .inl f_2)), (a_15, .inl (cy 1, 7200, .inl f_3)), (a_16, .inl (cy 1, 3, .inl f_4)), (a_17, .inl (cy 1, 3, .inl f_5))]) hS
  refine lv_aload_n hx hb dX12_differs_5 rfl (lv_at hl 0 rfl) ?_
  refine lv_iload_n hx hb dX12_differs_6 rfl (lv_at hl 1 rfl) ?_
  refine mm_finir (va_runV (As := [.int i_0]) (rest := []) ⟨hx, hb, hml, hown, hts⟩ (M98_X12_isLand l G cy H.size a_0 i_0 0 a_1 a_2 a_3 a_4 a_5 i_3 i_4 i_5 i_6 i_7 j_0 i_8 i_9 i_10 i_11 a_6 a_7 a_8 a_9 a_10 a_11 a_12 a_13 a_14 a_15 a_16 a_17 a_18 i_12 i_13 i_14 i_15 i_16 i_17 a_19 i_18 a_20 i_24 i_25 i_26 i_27 i_28 i_29 i_30 i_31 i_32 i_33 i_34 i_35 i_36 i_37 i_38 i_39 i_40 i_41 i_42 i_43 i_44 i_45 i_46 i_47 i_48 i_49 i_50 i_51 i_52 i_53 h5 h6 h7 h8 h9 h10 h11 h12 h13 h14 h15 h16 h17 h18 h19 h20 h21 h22 h23 h24 h25 h26 h27 h28 h29 h30 h31 h32 h33 h34) (cwV 1 hts (mm_gV mm_w641 mm_w642 mm_w643 mm_w5 mm_w644) rfl rfl rfl hd_X12_isLand ⟨by rw [hRf]; exact Nat.le_of_ble_eq_true rfl, by rw [hRl]; exact Nat.le_of_ble_eq_true rfl⟩) (mm_preV hK hZ hS hA hP hD [0, 2] rfl rfl 0 rfl rfl rfl) rfl rfl hl.1 rfl (lv_room (Nat.le_of_ble_eq_true rfl)) dX12_differs_7 ⟨by rw [hRc]; exact Nat.le_of_ble_eq_true rfl, by rw [hRs]; exact Nat.le_of_ble_eq_true rfl⟩) hP hD hS hA [0, 2] rfl (fun _ => rfl) ?_
  clear hP hD hS
  clear H locs
  intro v1 _u H locs hw hP hD hS
  rcases hw with rfl | ⟨rfl, w2, w3⟩
  · refine lv_if_eq (tgt := 21) hx hb dX12_differs_10 (by decide) (fun c4 => ?_) (fun c4 => ?_)
    · refine lv_bipush (v := (-2)) hx hb dX12_differs_21 (by decide) ?_
      subst hAe
      rw [hQ]
      exact W.iret (v := (-2)) hx hb hr (fun t ht hW => ⟨⟨(-2), (f_3, f_4, f_5), rfl, ⟨h38, h39, h40, (mm_wk mm_km2 (by decide))⟩, by rw [ht]; exact hP, hK.warm hW, hD⟩, hS.F ht⟩) hS.2.2 dX12_differs_23
    · exact absurd rfl (mm_ne c4)
  · have q5 := mm_ltR (lo := 1) w3 w2 h8 (by decide)
    have q6 : mm_rg i_19 1 601 := mm_tl_3 h43 q5 h0 (by decide)
    refine lv_if_eq (tgt := 21) hx hb dX12_differs_10 (by decide) (fun c7 => ?_) (fun c7 => ?_)
    · exact mm_eqN c7.symm mm_k0 mm_k1 (by decide)
    · refine lv_aload_n hx hb dX12_differs_13 rfl (lv_at hl 0 rfl) ?_
      refine lv_iload_n hx hb dX12_differs_14 rfl (lv_at hl 2 rfl) ?_
      refine mm_finir (va_runV (As := [.int i_1]) (rest := []) ⟨hx, hb, hml, hown, hts⟩ (M98_X12_isLand l G cy H.size a_0 i_1 0 a_1 a_2 a_3 a_4 a_5 i_3 i_4 i_5 i_6 i_7 j_0 i_8 i_9 i_10 i_11 a_6 a_7 a_8 a_9 a_10 a_11 a_12 a_13 a_14 a_15 a_16 a_17 a_18 i_12 i_13 i_14 i_15 i_16 i_17 a_19 i_18 a_20 i_24 i_25 i_26 i_27 i_28 i_29 i_30 i_31 i_32 i_33 i_34 i_35 i_36 i_37 i_38 i_39 i_40 i_41 i_42 i_43 i_44 i_45 i_46 i_47 i_48 i_49 i_50 i_51 i_52 i_53 h5 h6 h7 (mm_wk q5 (by decide)) h9 h10 h11 h12 h13 h14 h15 h16 h17 h18 h19 h20 h21 h22 h23 h24 h25 h26 h27 h28 h29 h30 h31 h32 h33 h34) (cwV 1 hts (mm_gV mm_w641 mm_w642 mm_w643 mm_w5 mm_w644) rfl rfl rfl hd_X12_isLand ⟨by rw [hRf]; exact Nat.le_of_ble_eq_true rfl, by rw [hRl]; exact Nat.le_of_ble_eq_true rfl⟩) (mm_preV hK hZ hS hA hP hD [0, 2] rfl rfl 0 rfl rfl rfl) rfl rfl hl.1 rfl (lv_room (Nat.le_of_ble_eq_true rfl)) dX12_differs_15 ⟨by rw [hRc]; exact Nat.le_of_ble_eq_true rfl, by rw [hRs]; exact Nat.le_of_ble_eq_true rfl⟩) hP hD hS hA [0, 2] rfl (fun _ => rfl) ?_
      clear hP hD hS
      clear H locs
      intro v8 _u H locs hw hP hD hS
      rcases hw with rfl | ⟨rfl, w9, w10⟩
      · refine lv_if_ne (tgt := 24) hx hb dX12_differs_18 (by decide) (fun c11 => ?_) (fun c11 => ?_)
        · exact absurd rfl (mm_ne c11)
        · refine lv_bipush (v := (-2)) hx hb dX12_differs_21 (by decide) ?_
          subst hAe
          rw [hQ]
          exact W.iret (v := (-2)) hx hb hr (fun t ht hW => ⟨⟨(-2), (f_3, f_4, f_5), rfl, ⟨h38, h39, h40, (mm_wk mm_km2 (by decide))⟩, by rw [ht]; exact hP, hK.warm hW, hD⟩, hS.F ht⟩) hS.2.2 dX12_differs_23
      · refine lv_if_ne (tgt := 24) hx hb dX12_differs_18 (by decide) (fun c12 => ?_) (fun c12 => ?_)
        · refine lv_aload_n hx hb dX12_differs_24 rfl (lv_at hl 0 rfl) ?_
          refine lv_iload_n hx hb dX12_differs_25 rfl (lv_at hl 1 rfl) ?_
          refine lv_iload_n hx hb dX12_differs_26 rfl (lv_at hl 2 rfl) ?_
          refine mm_fini (va_runV (As := [.int i_0, .int i_1]) (rest := []) ⟨hx, hb, hml, hown, hts⟩ (M193_X12_differOf l G cy H.size a_0 i_0 i_1 0 a_1 a_2 a_3 a_4 a_5 i_3 i_4 i_5 i_6 i_7 j_0 i_8 i_9 i_10 i_11 a_6 a_7 a_8 a_9 a_10 a_11 a_12 a_13 a_14 a_15 a_16 a_17 a_18 i_12 i_13 i_14 i_15 i_16 i_17 a_19 i_18 a_20 i_19 i_20 i_21 i_22 i_23 i_24 i_25 i_26 i_27 i_28 i_29 i_30 i_31 i_32 i_33 i_34 i_35 i_36 i_37 i_38 i_39 i_40 i_41 i_42 i_43 i_44 i_45 i_46 i_47 i_48 i_49 i_50 i_51 i_52 i_53 f_0 f_1 f_2 f_3 f_4 f_5 w2 w9 (mm_wk q6 (by decide)) h1 h2 h3 h4 h5 h6 h7 (mm_wk q5 (by decide)) h9 h10 h11 h12 h13 h14 h15 h16 h17 h18 h19 h20 h21 h22 h23 h24 h25 h26 h27 h28 h29 h30 h31 h32 h33 h34 h35 h36 h37 h38 h39 h40 h41 h42 h43 h44 h45 h46 h47 h48 h49 h50 h51 h52 w3 w10) (cwV 2 hts (mm_gV mm_w1202 mm_w1203 mm_w1204 mm_w5 mm_w1205) rfl rfl rfl hd_X12_differOf ⟨by rw [hRf]; exact Nat.le_of_ble_eq_true rfl, by rw [hRl]; exact Nat.le_of_ble_eq_true rfl⟩) (mm_preV hK hZ hS hA hP hD [0, 1, 2, 3, 4, 5, 6, 7, 8] rfl rfl 0 rfl rfl rfl) rfl rfl hl.1 rfl (lv_room (Nat.le_of_ble_eq_true rfl)) dX12_differs_27 ⟨by rw [hRc]; exact Nat.le_of_ble_eq_true rfl, by rw [hRs]; exact Nat.le_of_ble_eq_true rfl⟩) hP hD hS hA (fun u : (Nat → Int32) × (Nat → Int32) × (Nat → Int32) => [(a_0, .inr (12, [.int 0, .ref a_1, .ref a_2, .ref a_3, .ref a_4, .ref a_5, .int i_3, .int i_4, .int i_5, .int i_6, .int i_7, .long j_0, .int i_8, .int i_9, .int i_10, .int i_11, .ref a_6, .ref a_7, .ref a_8, .ref a_9, .ref a_10, .ref a_11, .ref a_12, .ref a_13, .ref a_14, .ref a_15, .ref a_16, .ref a_17, .ref a_18, .int i_12, .int i_13, .int i_14, .int i_15, .int i_16, .int i_17, .ref a_19, .int i_18, .ref a_20])), (a_6, .inl (cy 1, 5, .inl (mm_g [i_19, i_20, i_21, i_22, i_23]))), (a_7, .inl (cy 1, 30, .inl (mm_g [i_24, i_25, i_26, i_27, i_28, i_29, i_30, i_31, i_32, i_33, i_34, i_35, i_36, i_37, i_38, i_39, i_40, i_41, i_42, i_43, i_44, i_45, i_46, i_47, i_48, i_49, i_50, i_51, i_52, i_53]))), (a_9, .inl (cy 1, 15, .inl f_0)), (a_10, .inl (cy 1, 1050, .inl f_1)), (a_13, .inl (cy 1, 450, .inl f_2)), (a_15, .inl (cy 1, 7200, .inl u.1)), (a_16, .inl (cy 1, 3, .inl u.2.1)), (a_17, .inl (cy 1, 3, .inl u.2.2))]) [0, 1, 2, 3, 4, 5, 6, 7, 8] [] (n := 9) (fun _ => rfl) (by decide +kernel) (by decide +kernel) rfl (fun _ => rfl) (wr := []) rfl (fun _ => rfl) (fun _ => @rfl _ ([a_0, a_6, a_7, a_9, a_10, a_13, a_15, a_16, a_17] : List Nat)) ?_
          clear hP hD hS
          clear H locs
          intro v16 u
          obtain ⟨n13, n14, n15⟩ := u
          intro H locs hw (hP : va_P G vwCl [(a_0, .inr (12, [.int 0, .ref a_1, .ref a_2, .ref a_3, .ref a_4, .ref a_5, .int i_3, .int i_4, .int i_5, .int i_6, .int i_7, .long j_0, .int i_8, .int i_9, .int i_10, .int i_11, .ref a_6, .ref a_7, .ref a_8, .ref a_9, .ref a_10, .ref a_11, .ref a_12, .ref a_13, .ref a_14, .ref a_15, .ref a_16, .ref a_17, .ref a_18, .int i_12, .int i_13, .int i_14, .int i_15, .int i_16, .int i_17, .ref a_19, .int i_18, .ref a_20])), (a_6, .inl (cy 1, 5, .inl (mm_g [i_19, i_20, i_21, i_22, i_23]))), (a_7, .inl (cy 1, 30, .inl (mm_g [i_24, i_25, i_26, i_27, i_28, i_29, i_30, i_31, i_32, i_33, i_34, i_35, i_36, i_37, i_38, i_39, i_40, i_41, i_42, i_43, i_44, i_45, i_46, i_47, i_48, i_49, i_50, i_51, i_52, i_53]))), (a_9, .inl (cy 1, 15, .inl f_0)), (a_10, .inl (cy 1, 1050, .inl f_1)), (a_13, .inl (cy 1, 450, .inl f_2)), (a_15, .inl (cy 1, 7200, .inl n13)), (a_16, .inl (cy 1, 3, .inl n14)), (a_17, .inl (cy 1, 3, .inl n15))] H) (hD : va_D A [(a_0, .inr (12, [.int 0, .ref a_1, .ref a_2, .ref a_3, .ref a_4, .ref a_5, .int i_3, .int i_4, .int i_5, .int i_6, .int i_7, .long j_0, .int i_8, .int i_9, .int i_10, .int i_11, .ref a_6, .ref a_7, .ref a_8, .ref a_9, .ref a_10, .ref a_11, .ref a_12, .ref a_13, .ref a_14, .ref a_15, .ref a_16, .ref a_17, .ref a_18, .int i_12, .int i_13, .int i_14, .int i_15, .int i_16, .int i_17, .ref a_19, .int i_18, .ref a_20])), (a_6, .inl (cy 1, 5, .inl (mm_g [i_19, i_20, i_21, i_22, i_23]))), (a_7, .inl (cy 1, 30, .inl (mm_g [i_24, i_25, i_26, i_27, i_28, i_29, i_30, i_31, i_32, i_33, i_34, i_35, i_36, i_37, i_38, i_39, i_40, i_41, i_42, i_43, i_44, i_45, i_46, i_47, i_48, i_49, i_50, i_51, i_52, i_53]))), (a_9, .inl (cy 1, 15, .inl f_0)), (a_10, .inl (cy 1, 1050, .inl f_1)), (a_13, .inl (cy 1, 450, .inl f_2)), (a_15, .inl (cy 1, 7200, .inl n13)), (a_16, .inl (cy 1, 3, .inl n14)), (a_17, .inl (cy 1, 3, .inl n15))]) hS
          obtain ⟨w17, w18, w19, w20, hw⟩ := hw
          replace w20 : mm_laid n14 n15 i_27 := w20
          have w21 := hw
          refine lv_istore_n (lv' := [(3, .int v16), (0, .ref a_0), (1, .int i_0), (2, .int i_1)]) hx hb dX12_differs_30 rfl hl (by decide) rfl ?_
          clear hl
          clear ls
          intro ls hl
          refine lv_iconst (v := 0) hx hb dX12_differs_31 (by decide) ?_
          refine lv_istore (lv' := [(4, .int 0), (3, .int v16), (0, .ref a_0), (1, .int i_0), (2, .int i_1)]) hx hb dX12_differs_32 hl (by decide) rfl ?_
          clear hl
          clear ls
          intro ls hl
          have L34_244 : ∀ (n : Nat) (x34_4_244 : Int32), mm_rg x34_4_244 0 10 → (10 - x34_4_244.toInt).toNat < n → ∀ (H : Heap) (locs : List Loc), va_P G vwCl [(a_0, .inr (12, [.int 0, .ref a_1, .ref a_2, .ref a_3, .ref a_4, .ref a_5, .int i_3, .int i_4, .int i_5, .int i_6, .int i_7, .long j_0, .int i_8, .int i_9, .int i_10, .int i_11, .ref a_6, .ref a_7, .ref a_8, .ref a_9, .ref a_10, .ref a_11, .ref a_12, .ref a_13, .ref a_14, .ref a_15, .ref a_16, .ref a_17, .ref a_18, .int i_12, .int i_13, .int i_14, .int i_15, .int i_16, .int i_17, .ref a_19, .int i_18, .ref a_20])), (a_6, .inl (cy 1, 5, .inl (mm_g [i_19, i_20, i_21, i_22, i_23]))), (a_7, .inl (cy 1, 30, .inl (mm_g [i_24, i_25, i_26, i_27, i_28, i_29, i_30, i_31, i_32, i_33, i_34, i_35, i_36, i_37, i_38, i_39, i_40, i_41, i_42, i_43, i_44, i_45, i_46, i_47, i_48, i_49, i_50, i_51, i_52, i_53]))), (a_9, .inl (cy 1, 15, .inl f_0)), (a_10, .inl (cy 1, 1050, .inl f_1)), (a_13, .inl (cy 1, 450, .inl f_2)), (a_15, .inl (cy 1, 7200, .inl n13)), (a_16, .inl (cy 1, 3, .inl n14)), (a_17, .inl (cy 1, 3, .inl n15))] H → va_D A [(a_0, .inr (12, [.int 0, .ref a_1, .ref a_2, .ref a_3, .ref a_4, .ref a_5, .int i_3, .int i_4, .int i_5, .int i_6, .int i_7, .long j_0, .int i_8, .int i_9, .int i_10, .int i_11, .ref a_6, .ref a_7, .ref a_8, .ref a_9, .ref a_10, .ref a_11, .ref a_12, .ref a_13, .ref a_14, .ref a_15, .ref a_16, .ref a_17, .ref a_18, .int i_12, .int i_13, .int i_14, .int i_15, .int i_16, .int i_17, .ref a_19, .int i_18, .ref a_20])), (a_6, .inl (cy 1, 5, .inl (mm_g [i_19, i_20, i_21, i_22, i_23]))), (a_7, .inl (cy 1, 30, .inl (mm_g [i_24, i_25, i_26, i_27, i_28, i_29, i_30, i_31, i_32, i_33, i_34, i_35, i_36, i_37, i_38, i_39, i_40, i_41, i_42, i_43, i_44, i_45, i_46, i_47, i_48, i_49, i_50, i_51, i_52, i_53]))), (a_9, .inl (cy 1, 15, .inl f_0)), (a_10, .inl (cy 1, 1050, .inl f_1)), (a_13, .inl (cy 1, 450, .inl f_2)), (a_15, .inl (cy 1, 7200, .inl n13)), (a_16, .inl (cy 1, 3, .inl n14)), (a_17, .inl (cy 1, 3, .inl n15))] → va_S A s.heap H locs → ∀ (ls : Array Slot), lv_has ls 5 [(4, .int x34_4_244), (3, .int v16), (0, .ref a_0), (1, .int i_0), (2, .int i_1)] → W p l e R s m args below meth c H locs 0 0 Q (F0 m 34 ls []) := by
            intro n
            induction n with
            | zero => intro x34_4_244 rx34_4_244 hm; exact absurd hm (Nat.not_lt_zero _)
            | succ n ih34 =>
              intro x34_4_244 rx34_4_244 hm34 H locs hP hD hS ls hl
              refine lv_iload hx hb dX12_differs_34 (lv_at hl 0 rfl) ?_
              refine lv_aload_n hx hb dX12_differs_36 rfl (lv_at hl 2 rfl) ?_
              refine mm_finir (va_runV (As := []) (rest := [.int x34_4_244]) ⟨hx, hb, hml, hown, hts⟩ (M100_X12_words l G cy H.size a_0 0 a_1 a_2 a_3 a_4 a_5 i_3 i_4 i_5 i_6 i_7 j_0 i_8 i_9 i_10 i_11 a_6 a_7 a_8 a_9 a_10 a_11 a_12 a_13 a_14 a_15 a_16 a_17 a_18 i_12 i_13 i_14 i_15 i_16 i_17 a_19 i_18 a_20 i_19 i_20 i_21 i_22 i_23 i_24 i_25 i_26 i_27 i_28 i_29 i_30 i_31 i_32 i_33 i_34 i_35 i_36 i_37 i_38 i_39 i_40 i_41 i_42 i_43 i_44 i_45 i_46 i_47 i_48 i_49 i_50 i_51 i_52 i_53 q6 h1 h2 h3 h4 h5 h6 h7 (mm_wk q5 (by decide)) h9 h10 h11 h12 h13 h14 h15 h16 h17 h18 h19 h20 h21 h22 h23 h24 h25 h26 h27 h28 h29 h30 h31 h32 h33 h34 h43 h46 h49 h52) (cwV 0 hts (mm_gV mm_w649 mm_w650 mm_w651 mm_w5 mm_w652) rfl rfl rfl hd_X12_words ⟨by rw [hRf]; exact Nat.le_of_ble_eq_true rfl, by rw [hRl]; exact Nat.le_of_ble_eq_true rfl⟩) (mm_preV hK hZ hS hA hP hD [0, 1, 2] rfl rfl 0 rfl rfl rfl) rfl rfl hl.1 rfl (lv_room (Nat.le_of_ble_eq_true rfl)) dX12_differs_37 ⟨by rw [hRc]; exact Nat.le_of_ble_eq_true rfl, by rw [hRs]; exact Nat.le_of_ble_eq_true rfl⟩) hP hD hS hA [0, 1, 2] rfl (fun _ => rfl) ?_
              clear hP hD hS
              clear H locs
              intro v246 _u H locs hw hP hD hS
              obtain ⟨w247, w248⟩ := hw
              have t249 : (v246 : Int32).toInt = (i_26 : Int32).toInt + 1 := w248
              refine lv_icmp_ge (tgt := 76) hx hb dX12_differs_40 (by decide) (fun c250 => ?_) (fun c250 => ?_)
              · have q251 := mm_leR (mm_le c250) w247 rx34_4_244
                refine lv_iconst (v := (-1)) hx hb dX12_differs_76 (by decide) ?_
                subst hAe
                rw [hQ]
                exact W.iret (v := (-1)) hx hb hr (fun t ht hW => ⟨⟨(-1), (n13, n14, n15), rfl, ⟨w17, w18, w19, (mm_wk mm_km1 (by decide))⟩, by rw [ht]; exact hP, hK.warm hW, hD⟩, hS.F ht⟩) hS.2.2 dX12_differs_77
              · have q252 := mm_ltL (h := 9) (mm_nle c250) rx34_4_244 w247 (by decide)
                refine lv_iload_n hx hb dX12_differs_43 rfl (lv_at hl 1 rfl) ?_
                refine lv_iconst (v := (-1)) hx hb dX12_differs_44 (by decide) ?_
                refine lv_icmp_eq (tgt := 76) hx hb dX12_differs_45 (by decide) (fun c253 => ?_) (fun c253 => ?_)
                · have q254 := mm_eqI (lo := (-1)) (hi := (-1)) c253 w21 mm_km1 (by decide)
                  refine lv_iconst (v := (-1)) hx hb dX12_differs_76 (by decide) ?_
                  subst hAe
                  rw [hQ]
                  exact W.iret (v := (-1)) hx hb hr (fun t ht hW => ⟨⟨(-1), (n13, n14, n15), rfl, ⟨w17, w18, w19, (mm_wk mm_km1 (by decide))⟩, by rw [ht]; exact hP, hK.warm hW, hD⟩, hS.F ht⟩) hS.2.2 dX12_differs_77
                · have q255 := mm_neL (lo := 0) (mm_ne c253) w21 mm_km1 (by decide) (by decide)
                  refine lv_aload_n hx hb dX12_differs_48 rfl (lv_at hl 2 rfl) ?_
                  refine lv_iload_n hx hb dX12_differs_49 rfl (lv_at hl 3 rfl) ?_
                  refine lv_iload_n hx hb dX12_differs_50 rfl (lv_at hl 1 rfl) ?_
                  refine lv_iload hx hb dX12_differs_51 (lv_at hl 0 rfl) ?_
                  refine mm_finir (va_runV (As := [.int i_0, .int v16, .int x34_4_244]) (rest := []) ⟨hx, hb, hml, hown, hts⟩ (M122_X12_means0 l G cy H.size a_0 i_0 v16 x34_4_244 0 a_1 a_2 a_3 a_4 a_5 i_3 i_4 i_5 i_6 i_7 j_0 i_8 i_9 i_10 i_11 a_6 a_7 a_8 a_9 a_10 a_11 a_12 a_13 a_14 a_15 a_16 a_17 a_18 i_12 i_13 i_14 i_15 i_16 i_17 a_19 i_18 a_20 n13 n14 w2 (mm_wk q255 (by decide)) q252 w17 w18 (mm_f1_l w20 w3 w2 (by decide))) (cwV 3 hts (mm_gV mm_w713 mm_w714 mm_w715 mm_w5 mm_w716) rfl rfl rfl hd_X12_means0 ⟨by rw [hRf]; exact Nat.le_of_ble_eq_true rfl, by rw [hRl]; exact Nat.le_of_ble_eq_true rfl⟩) (mm_preV hK hZ hS hA hP hD [0, 6, 7] rfl rfl 0 rfl rfl rfl) rfl rfl hl.1 rfl (lv_room (Nat.le_of_ble_eq_true rfl)) dX12_differs_53 ⟨by rw [hRc]; exact Nat.le_of_ble_eq_true rfl, by rw [hRs]; exact Nat.le_of_ble_eq_true rfl⟩) hP hD hS hA [0, 6, 7] rfl (fun _ => rfl) ?_
                  clear hP hD hS
                  clear H locs
                  intro v256 _u H locs hw hP hD hS
                  obtain ⟨w257, w258⟩ := hw
                  refine lv_aload_n hx hb dX12_differs_56 rfl (lv_at hl 2 rfl) ?_
                  refine lv_iload_n hx hb dX12_differs_57 rfl (lv_at hl 4 rfl) ?_
                  refine lv_iload_n hx hb dX12_differs_58 rfl (lv_at hl 1 rfl) ?_
                  refine lv_iload hx hb dX12_differs_59 (lv_at hl 0 rfl) ?_
                  refine mm_finir (va_runV (As := [.int i_1, .int v16, .int x34_4_244]) (rest := [.int v256]) ⟨hx, hb, hml, hown, hts⟩ (M122_X12_means0 l G cy H.size a_0 i_1 v16 x34_4_244 0 a_1 a_2 a_3 a_4 a_5 i_3 i_4 i_5 i_6 i_7 j_0 i_8 i_9 i_10 i_11 a_6 a_7 a_8 a_9 a_10 a_11 a_12 a_13 a_14 a_15 a_16 a_17 a_18 i_12 i_13 i_14 i_15 i_16 i_17 a_19 i_18 a_20 n13 n14 w9 (mm_wk q255 (by decide)) q252 w17 w18 (mm_f1_l w20 w10 w9 (by decide))) (cwV 3 hts (mm_gV mm_w713 mm_w714 mm_w715 mm_w5 mm_w716) rfl rfl rfl hd_X12_means0 ⟨by rw [hRf]; exact Nat.le_of_ble_eq_true rfl, by rw [hRl]; exact Nat.le_of_ble_eq_true rfl⟩) (mm_preV hK hZ hS hA hP hD [0, 6, 7] rfl rfl 0 rfl rfl rfl) rfl rfl hl.1 rfl (lv_room (Nat.le_of_ble_eq_true rfl)) dX12_differs_61 ⟨by rw [hRc]; exact Nat.le_of_ble_eq_true rfl, by rw [hRs]; exact Nat.le_of_ble_eq_true rfl⟩) hP hD hS hA [0, 6, 7] rfl (fun _ => rfl) ?_
                  clear hP hD hS
                  clear H locs
                  intro v259 _u H locs hw hP hD hS
                  obtain ⟨w260, w261⟩ := hw
                  refine lv_icmp_eq (tgt := 70) hx hb dX12_differs_64 (by decide) (fun c262 => ?_) (fun c262 => ?_)
                  · obtain ⟨v263, ev263⟩ : ∃ y : Int32, y = x34_4_244 + 1 := ⟨_, rfl⟩
                    refine lv_iinc (v := v263) (lv' := [(4, .int v263), (3, .int v16), (0, .ref a_0), (1, .int i_0), (2, .int i_1)]) hx hb dX12_differs_70 hl (k := 0) rfl (by rw [ev263]; rfl) (by decide) rfl ?_
                    clear hl
                    clear ls
                    intro ls hl
                    have rv263 : mm_rg v263 1 10 := mm_add ev263 q252 mm_k1 (by decide) (by decide)
                    have tv263 := mm_addEc ev263 q252 mm_k1 (by decide) (k := 1) (by decide)
                    refine lv_goto (tgt := 34) hx hb dX12_differs_73 (by decide) ?_
                    exact ih34 v263 (mm_wk rv263 (by decide)) (mm_mu hm34 tv263 (by decide) (rv263).2 (by decide)) H locs hP hD hS ls (lv_sub hl [0, 1, 2, 3, 4] rfl)
                  · refine lv_iload hx hb dX12_differs_67 (lv_at hl 0 rfl) ?_
                    subst hAe
                    rw [hQ]
                    exact W.iret (v := x34_4_244) hx hb hr (fun t ht hW => ⟨⟨x34_4_244, (n13, n14, n15), rfl, ⟨w17, w18, w19, (mm_wk q252 (by decide))⟩, by rw [ht]; exact hP, hK.warm hW, hD⟩, hS.F ht⟩) hS.2.2 dX12_differs_69
          exact L34_244 _ 0 (mm_wk mm_k0 (by decide)) (Nat.lt_succ_self _) H locs hP hD hS ls (lv_sub hl [0, 1, 2, 3, 4] rfl)
        · exact mm_eqN c12.symm mm_k0 mm_k1 (by decide)

set_option maxHeartbeats 4000000 in
set_option maxRecDepth 100000 in
theorem M196_X12_alike (l : Launch) (G : va_G) (cy : Nat → ClassId) (sz : Nat) (a_0 : Nat) (i_0 : Int32) (i_1 : Int32) (i_2 : Int32) (i_3 : Int32) (a_1 : Nat) (a_2 : Nat) (a_3 : Nat) (a_4 : Nat) (a_5 : Nat) (i_4 : Int32) (i_5 : Int32) (i_6 : Int32) (i_7 : Int32) (i_8 : Int32) (j_0 : Int64) (i_9 : Int32) (i_10 : Int32) (i_11 : Int32) (i_12 : Int32) (a_6 : Nat) (a_7 : Nat) (a_8 : Nat) (a_9 : Nat) (a_10 : Nat) (a_11 : Nat) (a_12 : Nat) (a_13 : Nat) (a_14 : Nat) (a_15 : Nat) (a_16 : Nat) (a_17 : Nat) (a_18 : Nat) (i_13 : Int32) (i_14 : Int32) (i_15 : Int32) (i_16 : Int32) (i_17 : Int32) (i_18 : Int32) (a_19 : Nat) (i_19 : Int32) (a_20 : Nat) (i_20 : Int32) (i_21 : Int32) (i_22 : Int32) (i_23 : Int32) (i_24 : Int32) (i_25 : Int32) (i_26 : Int32) (i_27 : Int32) (i_28 : Int32) (i_29 : Int32) (i_30 : Int32) (i_31 : Int32) (i_32 : Int32) (i_33 : Int32) (i_34 : Int32) (i_35 : Int32) (i_36 : Int32) (i_37 : Int32) (i_38 : Int32) (i_39 : Int32) (i_40 : Int32) (i_41 : Int32) (i_42 : Int32) (i_43 : Int32) (i_44 : Int32) (i_45 : Int32) (i_46 : Int32) (i_47 : Int32) (i_48 : Int32) (i_49 : Int32) (i_50 : Int32) (i_51 : Int32) (i_52 : Int32) (i_53 : Int32) (i_54 : Int32) (f_0 : Nat → Int32) (f_1 : Nat → Int32) (f_2 : Nat → Int32) (f_3 : Nat → Int32) (f_4 : Nat → Int32) (f_5 : Nat → Int32) (h0 : mm_rg i_20 0 601) (h1 : mm_rg i_21 0 601) (h2 : mm_rg i_22 0 601) (h3 : mm_rg i_23 0 601) (h4 : mm_rg i_24 0 601) (h5 : mm_rg i_25 0 10) (h6 : mm_rg i_26 0 99) (h7 : mm_rg i_27 0 9) (h8 : mm_rg i_28 0 3) (h9 : mm_rg i_29 0 6) (h10 : mm_rg i_30 0 30) (h11 : mm_rg i_31 0 10) (h12 : mm_rg i_32 0 99) (h13 : mm_rg i_33 0 9) (h14 : mm_rg i_34 0 3) (h15 : mm_rg i_35 0 6) (h16 : mm_rg i_36 0 30) (h17 : mm_rg i_37 0 10) (h18 : mm_rg i_38 0 99) (h19 : mm_rg i_39 0 9) (h20 : mm_rg i_40 0 3) (h21 : mm_rg i_41 0 6) (h22 : mm_rg i_42 0 30) (h23 : mm_rg i_43 0 10) (h24 : mm_rg i_44 0 99) (h25 : mm_rg i_45 0 9) (h26 : mm_rg i_46 0 3) (h27 : mm_rg i_47 0 6) (h28 : mm_rg i_48 0 30) (h29 : mm_rg i_49 0 10) (h30 : mm_rg i_50 0 99) (h31 : mm_rg i_51 0 9) (h32 : mm_rg i_52 0 3) (h33 : mm_rg i_53 0 6) (h34 : mm_rg i_54 0 30) (h35 : mm_ar f_0 0 7) (h36 : mm_ar f_1 0 9) (h37 : mm_ar f_2 (-1) 99) (h38 : mm_ar f_3 0 9) (h39 : mm_ar f_4 0 210) (h40 : mm_ar f_5 0 210) (h41 : mm_rls f_0 f_1 0 i_27 i_28) (h42 : mm_acs f_2 0 i_27 i_28 i_30) (h43 : mm_tl i_20 i_28 i_29) (h44 : mm_rls f_0 f_1 1 i_33 i_34) (h45 : mm_acs f_2 1 i_33 i_34 i_36) (h46 : mm_tl i_21 i_34 i_35) (h47 : mm_rls f_0 f_1 2 i_39 i_40) (h48 : mm_acs f_2 2 i_39 i_40 i_42) (h49 : mm_tl i_22 i_40 i_41) (h50 : mm_rls f_0 f_1 3 i_45 i_46) (h51 : mm_acs f_2 3 i_45 i_46 i_48) (h52 : mm_tl i_23 i_46 i_47)  : mm_CI l yX12_alike (mm_ws yX12_alike cX12_alike 6 (some .int)) ({ frames := 14, cells := 0, slots := 0, locals := 300 } : Room) G cy sz [(a_0, .inr (12, [.int i_3, .ref a_1, .ref a_2, .ref a_3, .ref a_4, .ref a_5, .int i_4, .int i_5, .int i_6, .int i_7, .int i_8, .long j_0, .int i_9, .int i_10, .int i_11, .int i_12, .ref a_6, .ref a_7, .ref a_8, .ref a_9, .ref a_10, .ref a_11, .ref a_12, .ref a_13, .ref a_14, .ref a_15, .ref a_16, .ref a_17, .ref a_18, .int i_13, .int i_14, .int i_15, .int i_16, .int i_17, .int i_18, .ref a_19, .int i_19, .ref a_20])), (a_6, .inl (cy 1, 5, .inl (mm_g [i_20, i_21, i_22, i_23, i_24]))), (a_7, .inl (cy 1, 30, .inl (mm_g [i_25, i_26, i_27, i_28, i_29, i_30, i_31, i_32, i_33, i_34, i_35, i_36, i_37, i_38, i_39, i_40, i_41, i_42, i_43, i_44, i_45, i_46, i_47, i_48, i_49, i_50, i_51, i_52, i_53, i_54]))), (a_9, .inl (cy 1, 15, .inl f_0)), (a_10, .inl (cy 1, 1050, .inl f_1)), (a_13, .inl (cy 1, 450, .inl f_2)), (a_15, .inl (cy 1, 7200, .inl f_3)), (a_16, .inl (cy 1, 3, .inl f_4)), (a_17, .inl (cy 1, 3, .inl f_5))] [.ref a_0, .int i_0, .int i_1, .int i_2] (fun u : (Nat → Int32) × (Nat → Int32) × (Nat → Int32) => [(a_0, .inr (12, [.int 0, .ref a_1, .ref a_2, .ref a_3, .ref a_4, .ref a_5, .int i_4, .int i_5, .int i_6, .int i_7, .int i_8, .long j_0, .int i_9, .int i_10, .int i_11, .int i_12, .ref a_6, .ref a_7, .ref a_8, .ref a_9, .ref a_10, .ref a_11, .ref a_12, .ref a_13, .ref a_14, .ref a_15, .ref a_16, .ref a_17, .ref a_18, .int i_13, .int i_14, .int i_15, .int i_16, .int i_17, .int i_18, .ref a_19, .int i_19, .ref a_20])), (a_6, .inl (cy 1, 5, .inl (mm_g [i_20, i_21, i_22, i_23, i_24]))), (a_7, .inl (cy 1, 30, .inl (mm_g [i_25, i_26, i_27, i_28, i_29, i_30, i_31, i_32, i_33, i_34, i_35, i_36, i_37, i_38, i_39, i_40, i_41, i_42, i_43, i_44, i_45, i_46, i_47, i_48, i_49, i_50, i_51, i_52, i_53, i_54]))), (a_9, .inl (cy 1, 15, .inl f_0)), (a_10, .inl (cy 1, 1050, .inl f_1)), (a_13, .inl (cy 1, 450, .inl f_2)), (a_15, .inl (cy 1, 7200, .inl u.1)), (a_16, .inl (cy 1, 3, .inl u.2.1)), (a_17, .inl (cy 1, 3, .inl u.2.2))]) (fun (r : Int32) (u : (Nat → Int32) × (Nat → Int32) × (Nat → Int32)) => mm_ar u.1 0 9 ∧ mm_ar u.2.1 0 210 ∧ mm_ar u.2.2 0 210 ∧ True) 0 0 := by
  refine mm_begin (lv := [(0, .ref a_0), (1, .int i_0), (2, .int i_1), (3, .int i_2)]) (by decide) (Nat.le_of_ble_eq_true rfl) rfl ?_
  intro p e s m below meth c A ls R args Q H locs hRe hQ hAe hx hb hr hlocks hml hown hnm hts hsz hA hS hP hK hD hZ hl
  have hRf : R.frames = 14 := by rw [hRe]
  have hRl : R.locals = 300 := by rw [hRe]
  have hRc : R.cells = 0 := by rw [hRe]
  have hRs : R.slots = 0 := by rw [hRe]
  refine lv_aload_n hx hb dX12_alike_0 rfl (lv_at hl 0 rfl) ?_
  refine lv_iconst (v := 0) hx hb dX12_alike_1 (by decide) ?_
  refine va_put (D := G) (ci := 12) (v := .int 0) (ty := tyX12 0) (C := RX12) (T := TX12) (N := 38) hx hb hts (mm_i inlX12) tyX12 tyX12_ok nmX12 hown hK.1 hP hD hS 0 rfl rfl 0 (by decide) (mm_h hts mm_w177) (fun _ h9 => h9) rfl (tyX12_ok 0 (by decide)) rfl rfl (Nat.le_of_ble_eq_true rfl) dX12_alike_2 ?_
  clear hP hD hS
  clear H locs
  intro H locs (hP : va_P G vwCl [(a_0, .inr (12, [.int 0, .ref a_1, .ref a_2, .ref a_3, .ref a_4, .ref a_5, .int i_4, .int i_5, .int i_6, .int i_7, .int i_8, .long j_0, .int i_9, .int i_10, .int i_11, .int i_12, .ref a_6, .ref a_7, .ref a_8, .ref a_9, .ref a_10, .ref a_11, .ref a_12, .ref a_13, .ref a_14, .ref a_15, .ref a_16, .ref a_17, .ref a_18, .int i_13, .int i_14, .int i_15, .int i_16, .int i_17, .int i_18, .ref a_19, .int i_19, .ref a_20])), (a_6, .inl (cy 1, 5, .inl (mm_g [i_20, i_21, i_22, i_23, i_24]))), (a_7, .inl (cy 1, 30, .inl (mm_g [i_25, i_26, i_27, i_28, i_29, i_30, i_31, i_32, i_33, i_34, i_35, i_36, i_37, i_38, i_39, i_40, i_41, i_42, i_43, i_44, i_45, i_46, i_47, i_48, i_49, i_50, i_51, i_52, i_53, i_54]))), (a_9, .inl (cy 1, 15, .inl f_0)), (a_10, .inl (cy 1, 1050, .inl f_1)), (a_13, .inl (cy 1, 450, .inl f_2)), (a_15, .inl (cy 1, 7200, .inl f_3)), (a_16, .inl (cy 1, 3, .inl f_4)), (a_17, .inl (cy 1, 3, .inl f_5))] H) (hD : va_D A [(a_0, .inr (12, [.int 0, .ref a_1, .ref a_2, .ref a_3, .ref a_4, .ref a_5, .int i_4, .int i_5, .int i_6, .int i_7, .int i_8, .long j_0, .int i_9, .int i_10, .int i_11, .int i_12, .ref a_6, .ref a_7, .ref a_8, .ref a_9, .ref a_10, .ref a_11, .ref a_12, .ref a_13, .ref a_14, .ref a_15, .ref a_16, .ref a_17, .ref a_18, .int i_13, .int i_14, .int i_15, .int i_16, .int i_17, .int i_18, .ref a_19, .int i_19, .ref a_20])), (a_6, .inl (cy 1, 5, .inl (mm_g [i_20, i_21, i_22, i_23, i_24]))), (a_7, .inl (cy 1, 30, .inl (mm_g [i_25, i_26, i_27, i_28, i_29, i_30, i_31, i_32, i_33, i_34, i_35, i_36, i_37, i_38, i_39, i_40, i_41, i_42, i_43, i_44, i_45, i_46, i_47, i_48, i_49, i_50, i_51, i_52, i_53, i_54]))), (a_9, .inl (cy 1, 15, .inl f_0)), (a_10, .inl (cy 1, 1050, .inl f_1)), (a_13, .inl (cy 1, 450, .inl f_2)), (a_15, .inl (cy 1, 7200, .inl f_3)), (a_16, .inl (cy 1, 3, .inl f_4)), (a_17, .inl (cy 1, 3, .inl f_5))]) hS
  refine lv_aload_n hx hb dX12_alike_5 rfl (lv_at hl 0 rfl) ?_
  refine lv_iload_n hx hb dX12_alike_6 rfl (lv_at hl 1 rfl) ?_
  refine mm_finir (va_runV (As := [.int i_0]) (rest := []) ⟨hx, hb, hml, hown, hts⟩ (M98_X12_isLand l G cy H.size a_0 i_0 0 a_1 a_2 a_3 a_4 a_5 i_4 i_5 i_6 i_7 i_8 j_0 i_9 i_10 i_11 i_12 a_6 a_7 a_8 a_9 a_10 a_11 a_12 a_13 a_14 a_15 a_16 a_17 a_18 i_13 i_14 i_15 i_16 i_17 i_18 a_19 i_19 a_20 i_25 i_26 i_27 i_28 i_29 i_30 i_31 i_32 i_33 i_34 i_35 i_36 i_37 i_38 i_39 i_40 i_41 i_42 i_43 i_44 i_45 i_46 i_47 i_48 i_49 i_50 i_51 i_52 i_53 i_54 h5 h6 h7 h8 h9 h10 h11 h12 h13 h14 h15 h16 h17 h18 h19 h20 h21 h22 h23 h24 h25 h26 h27 h28 h29 h30 h31 h32 h33 h34) (cwV 1 hts (mm_gV mm_w641 mm_w642 mm_w643 mm_w5 mm_w644) rfl rfl rfl hd_X12_isLand ⟨by rw [hRf]; exact Nat.le_of_ble_eq_true rfl, by rw [hRl]; exact Nat.le_of_ble_eq_true rfl⟩) (mm_preV hK hZ hS hA hP hD [0, 2] rfl rfl 0 rfl rfl rfl) rfl rfl hl.1 rfl (lv_room (Nat.le_of_ble_eq_true rfl)) dX12_alike_7 ⟨by rw [hRc]; exact Nat.le_of_ble_eq_true rfl, by rw [hRs]; exact Nat.le_of_ble_eq_true rfl⟩) hP hD hS hA [0, 2] rfl (fun _ => rfl) ?_
  clear hP hD hS
  clear H locs
  intro v1 _u H locs hw hP hD hS
  rcases hw with rfl | ⟨rfl, w2, w3⟩
  · refine lv_if_eq (tgt := 33) hx hb dX12_alike_10 (by decide) (fun c4 => ?_) (fun c4 => ?_)
    · refine lv_bipush (v := (-2)) hx hb dX12_alike_33 (by decide) ?_
      subst hAe
      rw [hQ]
      exact W.iret (v := (-2)) hx hb hr (fun t ht hW => ⟨⟨(-2), (f_3, f_4, f_5), rfl, ⟨h38, h39, h40, trivial⟩, by rw [ht]; exact hP, hK.warm hW, hD⟩, hS.F ht⟩) hS.2.2 dX12_alike_35
    · exact absurd rfl (mm_ne c4)
  · have q5 := mm_ltR (lo := 1) w3 w2 h8 (by decide)
    have q6 : mm_rg i_20 1 601 := mm_tl_3 h43 q5 h0 (by decide)
    refine lv_if_eq (tgt := 33) hx hb dX12_alike_10 (by decide) (fun c7 => ?_) (fun c7 => ?_)
    · exact mm_eqN c7.symm mm_k0 mm_k1 (by decide)
    · refine lv_aload_n hx hb dX12_alike_13 rfl (lv_at hl 0 rfl) ?_
      refine lv_iload_n hx hb dX12_alike_14 rfl (lv_at hl 2 rfl) ?_
      refine mm_finir (va_runV (As := [.int i_1]) (rest := []) ⟨hx, hb, hml, hown, hts⟩ (M98_X12_isLand l G cy H.size a_0 i_1 0 a_1 a_2 a_3 a_4 a_5 i_4 i_5 i_6 i_7 i_8 j_0 i_9 i_10 i_11 i_12 a_6 a_7 a_8 a_9 a_10 a_11 a_12 a_13 a_14 a_15 a_16 a_17 a_18 i_13 i_14 i_15 i_16 i_17 i_18 a_19 i_19 a_20 i_25 i_26 i_27 i_28 i_29 i_30 i_31 i_32 i_33 i_34 i_35 i_36 i_37 i_38 i_39 i_40 i_41 i_42 i_43 i_44 i_45 i_46 i_47 i_48 i_49 i_50 i_51 i_52 i_53 i_54 h5 h6 h7 (mm_wk q5 (by decide)) h9 h10 h11 h12 h13 h14 h15 h16 h17 h18 h19 h20 h21 h22 h23 h24 h25 h26 h27 h28 h29 h30 h31 h32 h33 h34) (cwV 1 hts (mm_gV mm_w641 mm_w642 mm_w643 mm_w5 mm_w644) rfl rfl rfl hd_X12_isLand ⟨by rw [hRf]; exact Nat.le_of_ble_eq_true rfl, by rw [hRl]; exact Nat.le_of_ble_eq_true rfl⟩) (mm_preV hK hZ hS hA hP hD [0, 2] rfl rfl 0 rfl rfl rfl) rfl rfl hl.1 rfl (lv_room (Nat.le_of_ble_eq_true rfl)) dX12_alike_15 ⟨by rw [hRc]; exact Nat.le_of_ble_eq_true rfl, by rw [hRs]; exact Nat.le_of_ble_eq_true rfl⟩) hP hD hS hA [0, 2] rfl (fun _ => rfl) ?_
      clear hP hD hS
      clear H locs
      intro v8 _u H locs hw hP hD hS
      rcases hw with rfl | ⟨rfl, w9, w10⟩
      · refine lv_if_eq (tgt := 33) hx hb dX12_alike_18 (by decide) (fun c11 => ?_) (fun c11 => ?_)
        · refine lv_bipush (v := (-2)) hx hb dX12_alike_33 (by decide) ?_
          subst hAe
          rw [hQ]
          exact W.iret (v := (-2)) hx hb hr (fun t ht hW => ⟨⟨(-2), (f_3, f_4, f_5), rfl, ⟨h38, h39, h40, trivial⟩, by rw [ht]; exact hP, hK.warm hW, hD⟩, hS.F ht⟩) hS.2.2 dX12_alike_35
        · exact absurd rfl (mm_ne c11)
      · refine lv_if_eq (tgt := 33) hx hb dX12_alike_18 (by decide) (fun c12 => ?_) (fun c12 => ?_)
        · exact mm_eqN c12.symm mm_k0 mm_k1 (by decide)
        · refine lv_iload_n hx hb dX12_alike_21 rfl (lv_at hl 3 rfl) ?_
          obtain ⟨v13, ev13⟩ : ∃ y : Int64, y = i_2.toInt64 := ⟨_, rfl⟩
          refine lv_i2l hx hb dX12_alike_22 ev13.symm ?_
          have rv13 : mm_rl v13 (-2147483648) 2147483647 := mm_i2l ev13 (mm_top i_2)
          refine lv_lconst (v := 1) hx hb dX12_alike_23 (by decide) ?_
          refine lv_ldc2 (v := 10000) hx hb hown (mm_h hts mm_w1223) dX12_alike_24 ?_
          refine mm_finir (va_runS (As := [.long v13, .long 1, .long 10000]) (rest := []) ⟨hx, hb, hml, hown, hts⟩ (M63_X12_in l G cy H.size v13 10000 ) (va_cwS 3 hts (mm_gS mm_w191 mm_w192 mm_w5 mm_w193) rfl rfl rfl hs_X12_in ⟨by rw [hRf]; exact Nat.le_of_ble_eq_true rfl, by rw [hRl]; exact Nat.le_of_ble_eq_true rfl⟩) (mm_preS hK hZ hS hA hP hD [] rfl rfl) rfl rfl hl.1 rfl (lv_room (Nat.le_of_ble_eq_true rfl)) dX12_alike_27 ⟨by rw [hRc]; exact Nat.le_of_ble_eq_true rfl, by rw [hRs]; exact Nat.le_of_ble_eq_true rfl⟩) hP hD hS hA [] rfl (fun _ => rfl) ?_
          clear hP hD hS
          clear H locs
          intro v14 _u H locs hw hP hD hS
          rcases hw with ⟨rfl, w15⟩ | ⟨rfl, w16, w17, w18, w19⟩
          · refine lv_if_ne (tgt := 36) hx hb dX12_alike_30 (by decide) (fun c20 => ?_) (fun c20 => ?_)
            · exact absurd rfl (mm_ne c20)
            · refine lv_bipush (v := (-2)) hx hb dX12_alike_33 (by decide) ?_
              subst hAe
              rw [hQ]
              exact W.iret (v := (-2)) hx hb hr (fun t ht hW => ⟨⟨(-2), (f_3, f_4, f_5), rfl, ⟨h38, h39, h40, trivial⟩, by rw [ht]; exact hP, hK.warm hW, hD⟩, hS.F ht⟩) hS.2.2 dX12_alike_35
          · have q21 := mm_meetl (lo := 1) (hi := 2147483647) w16 rv13 (by decide)
            have q22 := mm_meet (lo := 1) (hi := 2147483647) (mm_l2x ev13 q21) (mm_top i_2) (by decide)
            have q23 := mm_leLl w18 q21 mm_kl10000
            have q24 := mm_meet (lo := 1) (hi := 10000) (mm_l2x ev13 q23) q22 (by decide)
            refine lv_if_ne (tgt := 36) hx hb dX12_alike_30 (by decide) (fun c25 => ?_) (fun c25 => ?_)
            · refine lv_aload_n hx hb dX12_alike_36 rfl (lv_at hl 0 rfl) ?_
              refine mm_finv (va_runV (As := []) (rest := []) ⟨hx, hb, hml, hown, hts⟩ (M125_X12_lays l G cy H.size a_0 0 a_1 a_2 a_3 a_4 a_5 i_4 i_5 i_6 i_7 i_8 j_0 i_9 i_10 i_11 i_12 a_6 a_7 a_8 a_9 a_10 a_11 a_12 a_13 a_14 a_15 a_16 a_17 a_18 i_13 i_14 i_15 i_16 i_17 i_18 a_19 i_19 a_20 i_20 i_21 i_22 i_23 i_24 i_25 i_26 i_27 i_28 i_29 i_30 i_31 i_32 i_33 i_34 i_35 i_36 i_37 i_38 i_39 i_40 i_41 i_42 i_43 i_44 i_45 i_46 i_47 i_48 i_49 i_50 i_51 i_52 i_53 i_54 f_0 f_1 f_2 f_3 f_4 f_5 (mm_wk q6 (by decide)) h1 h2 h3 h4 h5 h6 h7 (mm_wk q5 (by decide)) h9 h10 h11 h12 h13 h14 h15 h16 h17 h18 h19 h20 h21 h22 h23 h24 h25 h26 h27 h28 h29 h30 h31 h32 h33 h34 h35 h36 h37 h38 h39 h40 h41 h42 h43 h44 h45 h46 h47 h48 h49 h50 h51 h52) (cwV 0 hts (mm_gV mm_w686 mm_w687 mm_w688 mm_w5 mm_w689) rfl rfl rfl hd_X12_lays ⟨by rw [hRf]; exact Nat.le_of_ble_eq_true rfl, by rw [hRl]; exact Nat.le_of_ble_eq_true rfl⟩) (mm_preV hK hZ hS hA hP hD [0, 1, 2, 3, 4, 5, 6, 7, 8] rfl rfl 0 rfl rfl rfl) rfl rfl hl.1 rfl (lv_room (Nat.le_of_ble_eq_true rfl)) dX12_alike_37 ⟨by rw [hRc]; exact Nat.le_of_ble_eq_true rfl, by rw [hRs]; exact Nat.le_of_ble_eq_true rfl⟩) hP hD hS hA (fun u : (Nat → Int32) × (Nat → Int32) × (Nat → Int32) => [(a_0, .inr (12, [.int 0, .ref a_1, .ref a_2, .ref a_3, .ref a_4, .ref a_5, .int i_4, .int i_5, .int i_6, .int i_7, .int i_8, .long j_0, .int i_9, .int i_10, .int i_11, .int i_12, .ref a_6, .ref a_7, .ref a_8, .ref a_9, .ref a_10, .ref a_11, .ref a_12, .ref a_13, .ref a_14, .ref a_15, .ref a_16, .ref a_17, .ref a_18, .int i_13, .int i_14, .int i_15, .int i_16, .int i_17, .int i_18, .ref a_19, .int i_19, .ref a_20])), (a_6, .inl (cy 1, 5, .inl (mm_g [i_20, i_21, i_22, i_23, i_24]))), (a_7, .inl (cy 1, 30, .inl (mm_g [i_25, i_26, i_27, i_28, i_29, i_30, i_31, i_32, i_33, i_34, i_35, i_36, i_37, i_38, i_39, i_40, i_41, i_42, i_43, i_44, i_45, i_46, i_47, i_48, i_49, i_50, i_51, i_52, i_53, i_54]))), (a_9, .inl (cy 1, 15, .inl f_0)), (a_10, .inl (cy 1, 1050, .inl f_1)), (a_13, .inl (cy 1, 450, .inl f_2)), (a_15, .inl (cy 1, 7200, .inl u.1)), (a_16, .inl (cy 1, 3, .inl u.2.1)), (a_17, .inl (cy 1, 3, .inl u.2.2))]) [0, 1, 2, 3, 4, 5, 6, 7, 8] [] (n := 9) (fun _ => rfl) (by decide +kernel) (by decide +kernel) rfl (fun _ => rfl) (wr := []) rfl (fun _ => rfl) (fun _ => @rfl _ ([a_0, a_6, a_7, a_9, a_10, a_13, a_15, a_16, a_17] : List Nat)) ?_
              clear hP hD hS
              clear H locs
              intro u
              obtain ⟨n26, n27, n28⟩ := u
              intro H locs hw (hP : va_P G vwCl [(a_0, .inr (12, [.int 0, .ref a_1, .ref a_2, .ref a_3, .ref a_4, .ref a_5, .int i_4, .int i_5, .int i_6, .int i_7, .int i_8, .long j_0, .int i_9, .int i_10, .int i_11, .int i_12, .ref a_6, .ref a_7, .ref a_8, .ref a_9, .ref a_10, .ref a_11, .ref a_12, .ref a_13, .ref a_14, .ref a_15, .ref a_16, .ref a_17, .ref a_18, .int i_13, .int i_14, .int i_15, .int i_16, .int i_17, .int i_18, .ref a_19, .int i_19, .ref a_20])), (a_6, .inl (cy 1, 5, .inl (mm_g [i_20, i_21, i_22, i_23, i_24]))), (a_7, .inl (cy 1, 30, .inl (mm_g [i_25, i_26, i_27, i_28, i_29, i_30, i_31, i_32, i_33, i_34, i_35, i_36, i_37, i_38, i_39, i_40, i_41, i_42, i_43, i_44, i_45, i_46, i_47, i_48, i_49, i_50, i_51, i_52, i_53, i_54]))), (a_9, .inl (cy 1, 15, .inl f_0)), (a_10, .inl (cy 1, 1050, .inl f_1)), (a_13, .inl (cy 1, 450, .inl f_2)), (a_15, .inl (cy 1, 7200, .inl n26)), (a_16, .inl (cy 1, 3, .inl n27)), (a_17, .inl (cy 1, 3, .inl n28))] H) (hD : va_D A [(a_0, .inr (12, [.int 0, .ref a_1, .ref a_2, .ref a_3, .ref a_4, .ref a_5, .int i_4, .int i_5, .int i_6, .int i_7, .int i_8, .long j_0, .int i_9, .int i_10, .int i_11, .int i_12, .ref a_6, .ref a_7, .ref a_8, .ref a_9, .ref a_10, .ref a_11, .ref a_12, .ref a_13, .ref a_14, .ref a_15, .ref a_16, .ref a_17, .ref a_18, .int i_13, .int i_14, .int i_15, .int i_16, .int i_17, .int i_18, .ref a_19, .int i_19, .ref a_20])), (a_6, .inl (cy 1, 5, .inl (mm_g [i_20, i_21, i_22, i_23, i_24]))), (a_7, .inl (cy 1, 30, .inl (mm_g [i_25, i_26, i_27, i_28, i_29, i_30, i_31, i_32, i_33, i_34, i_35, i_36, i_37, i_38, i_39, i_40, i_41, i_42, i_43, i_44, i_45, i_46, i_47, i_48, i_49, i_50, i_51, i_52, i_53, i_54]))), (a_9, .inl (cy 1, 15, .inl f_0)), (a_10, .inl (cy 1, 1050, .inl f_1)), (a_13, .inl (cy 1, 450, .inl f_2)), (a_15, .inl (cy 1, 7200, .inl n26)), (a_16, .inl (cy 1, 3, .inl n27)), (a_17, .inl (cy 1, 3, .inl n28))]) hS
              obtain ⟨w29, w30, w31, w32, w33⟩ := hw
              replace w32 : mm_laid n27 n28 i_28 := w32
              replace w33 : mm_tab n26 n27 i_27 i_28 := w33
              refine lv_iconst (v := 0) hx hb dX12_alike_40 (by decide) ?_
              refine lv_istore (lv' := [(4, .int 0), (0, .ref a_0), (1, .int i_0), (2, .int i_1), (3, .int i_2)]) hx hb dX12_alike_41 hl (by decide) rfl ?_
              clear hl
              clear ls
              intro ls hl
              refine lv_iconst (v := 0) hx hb dX12_alike_43 (by decide) ?_
              refine lv_istore (lv' := [(5, .int 0), (4, .int 0), (0, .ref a_0), (1, .int i_0), (2, .int i_1), (3, .int i_2)]) hx hb dX12_alike_44 hl (by decide) rfl ?_
              clear hl
              clear ls
              intro ls hl
              have L46_271 : ∀ (n : Nat) (x46_5_270 : Int32) (x46_4_271 : Int32), mm_rg x46_5_270 0 10000 → (10000 - x46_5_270.toInt).toNat < n → ∀ (H : Heap) (locs : List Loc), va_P G vwCl [(a_0, .inr (12, [.int 0, .ref a_1, .ref a_2, .ref a_3, .ref a_4, .ref a_5, .int i_4, .int i_5, .int i_6, .int i_7, .int i_8, .long j_0, .int i_9, .int i_10, .int i_11, .int i_12, .ref a_6, .ref a_7, .ref a_8, .ref a_9, .ref a_10, .ref a_11, .ref a_12, .ref a_13, .ref a_14, .ref a_15, .ref a_16, .ref a_17, .ref a_18, .int i_13, .int i_14, .int i_15, .int i_16, .int i_17, .int i_18, .ref a_19, .int i_19, .ref a_20])), (a_6, .inl (cy 1, 5, .inl (mm_g [i_20, i_21, i_22, i_23, i_24]))), (a_7, .inl (cy 1, 30, .inl (mm_g [i_25, i_26, i_27, i_28, i_29, i_30, i_31, i_32, i_33, i_34, i_35, i_36, i_37, i_38, i_39, i_40, i_41, i_42, i_43, i_44, i_45, i_46, i_47, i_48, i_49, i_50, i_51, i_52, i_53, i_54]))), (a_9, .inl (cy 1, 15, .inl f_0)), (a_10, .inl (cy 1, 1050, .inl f_1)), (a_13, .inl (cy 1, 450, .inl f_2)), (a_15, .inl (cy 1, 7200, .inl n26)), (a_16, .inl (cy 1, 3, .inl n27)), (a_17, .inl (cy 1, 3, .inl n28))] H → va_D A [(a_0, .inr (12, [.int 0, .ref a_1, .ref a_2, .ref a_3, .ref a_4, .ref a_5, .int i_4, .int i_5, .int i_6, .int i_7, .int i_8, .long j_0, .int i_9, .int i_10, .int i_11, .int i_12, .ref a_6, .ref a_7, .ref a_8, .ref a_9, .ref a_10, .ref a_11, .ref a_12, .ref a_13, .ref a_14, .ref a_15, .ref a_16, .ref a_17, .ref a_18, .int i_13, .int i_14, .int i_15, .int i_16, .int i_17, .int i_18, .ref a_19, .int i_19, .ref a_20])), (a_6, .inl (cy 1, 5, .inl (mm_g [i_20, i_21, i_22, i_23, i_24]))), (a_7, .inl (cy 1, 30, .inl (mm_g [i_25, i_26, i_27, i_28, i_29, i_30, i_31, i_32, i_33, i_34, i_35, i_36, i_37, i_38, i_39, i_40, i_41, i_42, i_43, i_44, i_45, i_46, i_47, i_48, i_49, i_50, i_51, i_52, i_53, i_54]))), (a_9, .inl (cy 1, 15, .inl f_0)), (a_10, .inl (cy 1, 1050, .inl f_1)), (a_13, .inl (cy 1, 450, .inl f_2)), (a_15, .inl (cy 1, 7200, .inl n26)), (a_16, .inl (cy 1, 3, .inl n27)), (a_17, .inl (cy 1, 3, .inl n28))] → va_S A s.heap H locs → ∀ (ls : Array Slot), lv_has ls 6 [(5, .int x46_5_270), (4, .int x46_4_271), (0, .ref a_0), (1, .int i_0), (2, .int i_1), (3, .int i_2)] → W p l e R s m args below meth c H locs 0 0 Q (F0 m 46 ls []) := by
                intro n
                induction n with
                | zero => intro x46_5_270 x46_4_271 rx46_5_270 hm; exact absurd hm (Nat.not_lt_zero _)
                | succ n ih46 =>
                  intro x46_5_270 x46_4_271 rx46_5_270 hm46 H locs hP hD hS ls hl
                  refine lv_iload hx hb dX12_alike_46 (lv_at hl 0 rfl) ?_
                  refine lv_iload_n hx hb dX12_alike_48 rfl (lv_at hl 5 rfl) ?_
                  refine lv_icmp_ge (tgt := 81) hx hb dX12_alike_49 (by decide) (fun c273 => ?_) (fun c273 => ?_)
                  · have q274 := mm_leR (mm_le c273) q24 rx46_5_270
                    refine lv_iload hx hb dX12_alike_81 (lv_at hl 1 rfl) ?_
                    subst hAe
                    rw [hQ]
                    exact W.iret (v := x46_4_271) hx hb hr (fun t ht hW => ⟨⟨x46_4_271, (n26, n27, n28), rfl, ⟨w29, w30, w31, trivial⟩, by rw [ht]; exact hP, hK.warm hW, hD⟩, hS.F ht⟩) hS.2.2 dX12_alike_83
                  · have q275 := mm_ltL (h := 9999) (mm_nle c273) rx46_5_270 q24 (by decide)
                    refine lv_iload hx hb dX12_alike_52 (lv_at hl 1 rfl) ?_
                    refine lv_aload_n hx hb dX12_alike_54 rfl (lv_at hl 2 rfl) ?_
                    refine lv_iload_n hx hb dX12_alike_55 rfl (lv_at hl 3 rfl) ?_
                    refine lv_iload hx hb dX12_alike_56 (lv_at hl 0 rfl) ?_
                    refine lv_iload_n hx hb dX12_alike_58 rfl (lv_at hl 4 rfl) ?_
                    refine lv_iload hx hb dX12_alike_59 (lv_at hl 0 rfl) ?_
                    refine mm_finir (va_runV (As := [.int i_0, .int x46_5_270, .int i_1, .int x46_5_270]) (rest := [.int x46_4_271]) ⟨hx, hb, hml, hown, hts⟩ (M189_X12_areAlike l G cy H.size a_0 i_0 x46_5_270 i_1 x46_5_270 0 a_1 a_2 a_3 a_4 a_5 i_4 i_5 i_6 i_7 i_8 j_0 i_9 i_10 i_11 i_12 a_6 a_7 a_8 a_9 a_10 a_11 a_12 a_13 a_14 a_15 a_16 a_17 a_18 i_13 i_14 i_15 i_16 i_17 i_18 a_19 i_19 a_20 i_20 i_21 i_22 i_23 i_24 i_25 i_26 i_27 i_28 i_29 i_30 i_31 i_32 i_33 i_34 i_35 i_36 i_37 i_38 i_39 i_40 i_41 i_42 i_43 i_44 i_45 i_46 i_47 i_48 i_49 i_50 i_51 i_52 i_53 i_54 n26 n27 w2 (mm_wk q275 (by decide)) w9 (mm_wk q275 (by decide)) (mm_wk q6 (by decide)) h1 h2 h3 h4 h5 h6 h7 (mm_wk q5 (by decide)) h9 h10 h11 h12 h13 h14 h15 h16 h17 h18 h19 h20 h21 h22 h23 h24 h25 h26 h27 h28 h29 h30 h31 h32 h33 h34 w29 w30 h43 h46 h49 h52 (mm_f1_l w32 w3 w2 (by decide)) (mm_f1_l w32 w10 w9 (by decide))) (cwV 4 hts (mm_gV mm_w1169 mm_w1170 mm_w1171 mm_w5 mm_w1172) rfl rfl rfl hd_X12_areAlike ⟨by rw [hRf]; exact Nat.le_of_ble_eq_true rfl, by rw [hRl]; exact Nat.le_of_ble_eq_true rfl⟩) (mm_preV hK hZ hS hA hP hD [0, 1, 2, 6, 7] rfl rfl 0 rfl rfl rfl) rfl rfl hl.1 rfl (lv_room (Nat.le_of_ble_eq_true rfl)) dX12_alike_61 ⟨by rw [hRc]; exact Nat.le_of_ble_eq_true rfl, by rw [hRs]; exact Nat.le_of_ble_eq_true rfl⟩) hP hD hS hA [0, 1, 2, 6, 7] rfl (fun _ => rfl) ?_
                    clear hP hD hS
                    clear H locs
                    intro v276 _u H locs hw hP hD hS
                    rcases hw with rfl | rfl
                    · refine lv_if_eq (tgt := 71) hx hb dX12_alike_64 (by decide) (fun c277 => ?_) (fun c277 => ?_)
                      · refine lv_iconst (v := 0) hx hb dX12_alike_71 (by decide) ?_
                        refine lv_iadd hx hb dX12_alike_72 ?_
                        refine lv_topi (fun v278 ev278 => ?_)
                        have rv278 : mm_rg v278 (-2147483648) 2147483647 := mm_add ev278 (mm_top x46_4_271) mm_k0 (by decide) (by decide)
                        have tv278 := mm_addEc ev278 (mm_top x46_4_271) mm_k0 (by decide) (k := 0) (by decide)
                        refine lv_istore (lv' := [(4, .int v278), (5, .int x46_5_270), (0, .ref a_0), (1, .int i_0), (2, .int i_1), (3, .int i_2)]) hx hb dX12_alike_73 hl (by decide) rfl ?_
                        clear hl
                        clear ls
                        intro ls hl
                        obtain ⟨v279, ev279⟩ : ∃ y : Int32, y = x46_5_270 + 1 := ⟨_, rfl⟩
                        refine lv_iinc (v := v279) (lv' := [(5, .int v279), (4, .int v278), (0, .ref a_0), (1, .int i_0), (2, .int i_1), (3, .int i_2)]) hx hb dX12_alike_75 hl (k := 1) rfl (by rw [ev279]; rfl) (by decide) rfl ?_
                        clear hl
                        clear ls
                        intro ls hl
                        have rv279 : mm_rg v279 1 10000 := mm_add ev279 q275 mm_k1 (by decide) (by decide)
                        have tv279 := mm_addEc ev279 q275 mm_k1 (by decide) (k := 1) (by decide)
                        refine lv_goto (tgt := 46) hx hb dX12_alike_78 (by decide) ?_
                        exact ih46 v279 v278 (mm_wk rv279 (by decide)) (mm_mu hm46 tv279 (by decide) (rv279).2 (by decide)) H locs hP hD hS ls (lv_sub hl [0, 1, 2, 3, 4, 5] rfl)
                      · exact absurd rfl (mm_ne c277)
                    · refine lv_if_eq (tgt := 71) hx hb dX12_alike_64 (by decide) (fun c280 => ?_) (fun c280 => ?_)
                      · exact mm_eqN c280.symm mm_k0 mm_k1 (by decide)
                      · refine lv_iconst (v := 1) hx hb dX12_alike_67 (by decide) ?_
                        refine lv_goto (tgt := 72) hx hb dX12_alike_68 (by decide) ?_
                        refine lv_iadd hx hb dX12_alike_72 ?_
                        refine lv_topi (fun v281 ev281 => ?_)
                        refine lv_istore (lv' := [(4, .int v281), (5, .int x46_5_270), (0, .ref a_0), (1, .int i_0), (2, .int i_1), (3, .int i_2)]) hx hb dX12_alike_73 hl (by decide) rfl ?_
                        clear hl
                        clear ls
                        intro ls hl
                        obtain ⟨v282, ev282⟩ : ∃ y : Int32, y = x46_5_270 + 1 := ⟨_, rfl⟩
                        refine lv_iinc (v := v282) (lv' := [(5, .int v282), (4, .int v281), (0, .ref a_0), (1, .int i_0), (2, .int i_1), (3, .int i_2)]) hx hb dX12_alike_75 hl (k := 1) rfl (by rw [ev282]; rfl) (by decide) rfl ?_
                        clear hl
                        clear ls
                        intro ls hl
                        have rv282 : mm_rg v282 1 10000 := mm_add ev282 q275 mm_k1 (by decide) (by decide)
                        have tv282 := mm_addEc ev282 q275 mm_k1 (by decide) (k := 1) (by decide)
                        refine lv_goto (tgt := 46) hx hb dX12_alike_78 (by decide) ?_
                        exact ih46 v282 v281 (mm_wk rv282 (by decide)) (mm_mu hm46 tv282 (by decide) (rv282).2 (by decide)) H locs hP hD hS ls (lv_sub hl [0, 1, 2, 3, 4, 5] rfl)
              exact L46_271 _ 0 0 (mm_wk mm_k0 (by decide)) (Nat.lt_succ_self _) H locs hP hD hS ls (lv_sub hl [0, 1, 2, 3, 4, 5] rfl)
            · exact mm_eqN c25.symm mm_k0 mm_k1 (by decide)

set_option maxHeartbeats 4000000 in
set_option maxRecDepth 100000 in
theorem M197_X12_isSlot (l : Launch) (G : va_G) (cy : Nat → ClassId) (sz : Nat) (i_0 : Int32)   : mm_CI l yX12_isSlot (mm_ws yX12_isSlot cX12_isSlot 1 (some .boolean)) ({ frames := 1, cells := 0, slots := 0, locals := 25 } : Room) G cy sz [] [.int i_0] (fun u : Unit => []) (fun (r : Int32) (u : Unit) => ((0 = r) ∨ (1 = r ∧ mm_rg i_0 0 3))) 0 0 := by
  refine mm_begin (lv := [(0, .int i_0)]) (by decide) (Nat.le_of_ble_eq_true rfl) rfl ?_
  intro p e s m below meth c A ls R args Q H locs hRe hQ hAe hx hb hr hlocks hml hown hnm hts hsz hA hS hP hK hD hZ hl
  have hRf : R.frames = 1 := by rw [hRe]
  have hRl : R.locals = 25 := by rw [hRe]
  have hRc : R.cells = 0 := by rw [hRe]
  have hRs : R.slots = 0 := by rw [hRe]
  refine lv_iload_n hx hb dX12_isSlot_0 rfl (lv_at hl 0 rfl) ?_
  obtain ⟨v1, ev1⟩ : ∃ y : Int64, y = i_0.toInt64 := ⟨_, rfl⟩
  refine lv_i2l hx hb dX12_isSlot_1 ev1.symm ?_
  have rv1 : mm_rl v1 (-2147483648) 2147483647 := mm_i2l ev1 (mm_top i_0)
  refine lv_lconst (v := 0) hx hb dX12_isSlot_2 (by decide) ?_
  refine lv_ldc2 (v := 3) hx hb hown (mm_h hts mm_w1272) dX12_isSlot_3 ?_
  refine mm_finir (va_runS (As := [.long v1, .long 0, .long 3]) (rest := []) ⟨hx, hb, hml, hown, hts⟩ (M7_X12_in l G cy H.size v1 3 ) (va_cwS 3 hts (mm_gS mm_w191 mm_w192 mm_w5 mm_w193) rfl rfl rfl hs_X12_in ⟨by rw [hRf]; exact Nat.le_of_ble_eq_true rfl, by rw [hRl]; exact Nat.le_of_ble_eq_true rfl⟩) (mm_preS hK hZ hS hA hP hD [] rfl rfl) rfl rfl hl.1 rfl (lv_room (Nat.le_of_ble_eq_true rfl)) dX12_isSlot_6 ⟨by rw [hRc]; exact Nat.le_of_ble_eq_true rfl, by rw [hRs]; exact Nat.le_of_ble_eq_true rfl⟩) hP hD hS hA [] rfl (fun _ => rfl) ?_
  clear hP hD hS
  clear H locs
  intro v2 _u H locs hw hP hD hS
  rcases hw with ⟨rfl, w3⟩ | ⟨rfl, w4, w5, w6, w7⟩
  · subst hAe
    rw [hQ]
    exact W.zret (v := 0) hx hb hr rfl (fun t ht hW => ⟨⟨0, (), rfl, (Or.inl rfl), by rw [ht]; exact hP, hK.warm hW, hD⟩, hS.F ht⟩) hS.2.2 dX12_isSlot_9
  · have q8 := mm_meetl (lo := 0) (hi := 2147483647) w4 rv1 (by decide)
    have q9 := mm_meet (lo := 0) (hi := 2147483647) (mm_l2x ev1 q8) (mm_top i_0) (by decide)
    have q10 := mm_leLl w6 q8 mm_kl3
    have q11 := mm_meet (lo := 0) (hi := 3) (mm_l2x ev1 q10) q9 (by decide)
    subst hAe
    rw [hQ]
    exact W.zret (v := 1) hx hb hr rfl (fun t ht hW => ⟨⟨1, (), rfl, (Or.inr ⟨rfl, q11⟩), by rw [ht]; exact hP, hK.warm hW, hD⟩, hS.F ht⟩) hS.2.2 dX12_isSlot_9

set_option maxHeartbeats 4000000 in
set_option maxRecDepth 100000 in
theorem M198_X12_whyNot (l : Launch) (G : va_G) (cy : Nat → ClassId) (sz : Nat) (a_0 : Nat) (i_0 : Int32)   : mm_CI l yX12_whyNot (mm_ws yX12_whyNot cX12_whyNot 4 (some .int)) ({ frames := 2, cells := 0, slots := 0, locals := 45 } : Room) G cy sz [] [.ref a_0, .int i_0, .int 0] (fun u : Unit => []) (fun (r : Int32) (u : Unit) => (-2) = r) 0 0 := by
  refine mm_begin (lv := [(0, .ref a_0), (1, .int i_0), (2, .int 0)]) (by decide) (Nat.le_of_ble_eq_true rfl) rfl ?_
  intro p e s m below meth c A ls R args Q H locs hRe hQ hAe hx hb hr hlocks hml hown hnm hts hsz hA hS hP hK hD hZ hl
  have hRf : R.frames = 2 := by rw [hRe]
  have hRl : R.locals = 45 := by rw [hRe]
  have hRc : R.cells = 0 := by rw [hRe]
  have hRs : R.slots = 0 := by rw [hRe]
  refine lv_iload_n hx hb dX12_whyNot_0 rfl (lv_at hl 1 rfl) ?_
  refine mm_finir (va_runS (As := [.int i_0]) (rest := []) ⟨hx, hb, hml, hown, hts⟩ (M197_X12_isSlot l G cy H.size i_0 ) (va_cwS 1 hts (mm_gS mm_w1269 mm_w1270 mm_w5 mm_w1271) rfl rfl rfl hs_X12_isSlot ⟨by rw [hRf]; exact Nat.le_of_ble_eq_true rfl, by rw [hRl]; exact Nat.le_of_ble_eq_true rfl⟩) (mm_preS hK hZ hS hA hP hD [] rfl rfl) rfl rfl hl.1 rfl (lv_room (Nat.le_of_ble_eq_true rfl)) dX12_whyNot_1 ⟨by rw [hRc]; exact Nat.le_of_ble_eq_true rfl, by rw [hRs]; exact Nat.le_of_ble_eq_true rfl⟩) hP hD hS hA [] rfl (fun _ => rfl) ?_
  clear hP hD hS
  clear H locs
  intro v1 _u H locs hw hP hD hS
  rcases hw with rfl | ⟨rfl, w2⟩
  · refine lv_if_eq (tgt := 11) hx hb dX12_whyNot_4 (by decide) (fun c3 => ?_) (fun c3 => ?_)
    · refine lv_bipush (v := (-2)) hx hb dX12_whyNot_11 (by decide) ?_
      subst hAe
      rw [hQ]
      exact W.iret (v := (-2)) hx hb hr (fun t ht hW => ⟨⟨(-2), (), rfl, rfl, by rw [ht]; exact hP, hK.warm hW, hD⟩, hS.F ht⟩) hS.2.2 dX12_whyNot_13
    · exact absurd rfl (mm_ne c3)
  · refine lv_if_eq (tgt := 11) hx hb dX12_whyNot_4 (by decide) (fun c4 => ?_) (fun c4 => ?_)
    · exact mm_eqN c4.symm mm_k0 mm_k1 (by decide)
    · refine lv_iload_n hx hb dX12_whyNot_7 rfl (lv_at hl 2 rfl) ?_
      refine lv_if_ne (tgt := 14) hx hb dX12_whyNot_8 (by decide) (fun c5 => ?_) (fun c5 => ?_)
      · exact absurd rfl (mm_ne c5)
      · refine lv_bipush (v := (-2)) hx hb dX12_whyNot_11 (by decide) ?_
        subst hAe
        rw [hQ]
        exact W.iret (v := (-2)) hx hb hr (fun t ht hW => ⟨⟨(-2), (), rfl, rfl, by rw [ht]; exact hP, hK.warm hW, hD⟩, hS.F ht⟩) hS.2.2 dX12_whyNot_13

set_option maxHeartbeats 4000000 in
set_option maxRecDepth 100000 in
theorem M199_X12_isStock (l : Launch) (G : va_G) (cy : Nat → ClassId) (sz : Nat) (j_0 : Int64)   : mm_CI l yX12_isStock (mm_ws yX12_isStock cX12_isStock 2 (some .boolean)) ({ frames := 1, cells := 0, slots := 0, locals := 25 } : Room) G cy sz [] [.long j_0] (fun u : Unit => []) (fun (r : Int32) (u : Unit) => ((0 = r) ∨ (1 = r ∧ mm_rl j_0 0 9999))) 0 0 := by
  refine mm_begin (lv := [(0, .long j_0)]) (by decide) (Nat.le_of_ble_eq_true rfl) rfl ?_
  intro p e s m below meth c A ls R args Q H locs hRe hQ hAe hx hb hr hlocks hml hown hnm hts hsz hA hS hP hK hD hZ hl
  have hRf : R.frames = 1 := by rw [hRe]
  have hRl : R.locals = 25 := by rw [hRe]
  have hRc : R.cells = 0 := by rw [hRe]
  have hRs : R.slots = 0 := by rw [hRe]
  refine lv_lload_n hx hb dX12_isStock_0 rfl (lv_at hl 0 rfl) ?_
  refine lv_lconst (v := 0) hx hb dX12_isStock_1 (by decide) ?_
  refine lv_ldc2 (v := 9999) hx hb hown (mm_h hts mm_w925) dX12_isStock_2 ?_
  refine mm_finir (va_runS (As := [.long j_0, .long 0, .long 9999]) (rest := []) ⟨hx, hb, hml, hown, hts⟩ (M7_X12_in l G cy H.size j_0 9999 ) (va_cwS 3 hts (mm_gS mm_w191 mm_w192 mm_w5 mm_w193) rfl rfl rfl hs_X12_in ⟨by rw [hRf]; exact Nat.le_of_ble_eq_true rfl, by rw [hRl]; exact Nat.le_of_ble_eq_true rfl⟩) (mm_preS hK hZ hS hA hP hD [] rfl rfl) rfl rfl hl.1 rfl (lv_room (Nat.le_of_ble_eq_true rfl)) dX12_isStock_5 ⟨by rw [hRc]; exact Nat.le_of_ble_eq_true rfl, by rw [hRs]; exact Nat.le_of_ble_eq_true rfl⟩) hP hD hS hA [] rfl (fun _ => rfl) ?_
  clear hP hD hS
  clear H locs
  intro v1 _u H locs hw hP hD hS
  rcases hw with ⟨rfl, w2⟩ | ⟨rfl, w3, w4, w5, w6⟩
  · subst hAe
    rw [hQ]
    exact W.zret (v := 0) hx hb hr rfl (fun t ht hW => ⟨⟨0, (), rfl, (Or.inl rfl), by rw [ht]; exact hP, hK.warm hW, hD⟩, hS.F ht⟩) hS.2.2 dX12_isStock_8
  · have q7 := mm_leLl w5 w3 mm_kl9999
    subst hAe
    rw [hQ]
    exact W.zret (v := 1) hx hb hr rfl (fun t ht hW => ⟨⟨1, (), rfl, (Or.inr ⟨rfl, q7⟩), by rw [ht]; exact hP, hK.warm hW, hD⟩, hS.F ht⟩) hS.2.2 dX12_isStock_8

set_option maxHeartbeats 4000000 in
set_option maxRecDepth 100000 in
theorem M200_X12_whyNot (l : Launch) (G : va_G) (cy : Nat → ClassId) (sz : Nat) (a_0 : Nat) (i_0 : Int32) (i_1 : Int32) (a_1 : Nat) (a_2 : Nat) (a_3 : Nat) (a_4 : Nat) (a_5 : Nat) (i_2 : Int32) (i_3 : Int32) (i_4 : Int32) (i_5 : Int32) (i_6 : Int32) (j_0 : Int64) (i_7 : Int32) (i_8 : Int32) (i_9 : Int32) (i_10 : Int32) (a_6 : Nat) (a_7 : Nat) (a_8 : Nat) (a_9 : Nat) (a_10 : Nat) (a_11 : Nat) (a_12 : Nat) (a_13 : Nat) (a_14 : Nat) (a_15 : Nat) (a_16 : Nat) (a_17 : Nat) (a_18 : Nat) (i_11 : Int32) (i_12 : Int32) (i_13 : Int32) (i_14 : Int32) (i_15 : Int32) (i_16 : Int32) (a_19 : Nat) (i_17 : Int32) (a_20 : Nat) (f_0 : Nat → Int32) (f_1 : Nat → Int32) (f_2 : Nat → Int64) (i_18 : Int32) (i_19 : Int32) (i_20 : Int32) (i_21 : Int32) (i_22 : Int32) (i_23 : Int32) (i_24 : Int32) (i_25 : Int32) (i_26 : Int32) (i_27 : Int32) (i_28 : Int32) (i_29 : Int32) (i_30 : Int32) (i_31 : Int32) (i_32 : Int32) (i_33 : Int32) (i_34 : Int32) (i_35 : Int32) (i_36 : Int32) (i_37 : Int32) (i_38 : Int32) (i_39 : Int32) (i_40 : Int32) (i_41 : Int32) (i_42 : Int32) (i_43 : Int32) (i_44 : Int32) (i_45 : Int32) (i_46 : Int32) (i_47 : Int32) (h0 : mm_ar f_0 (-1) 3) (h1 : mm_ar f_1 0 60) (h2 : mm_rg i_18 0 10) (h3 : mm_rg i_19 0 99) (h4 : mm_rg i_20 0 9) (h5 : mm_rg i_21 0 3) (h6 : mm_rg i_22 0 6) (h7 : mm_rg i_23 0 30) (h8 : mm_rg i_24 0 10) (h9 : mm_rg i_25 0 99) (h10 : mm_rg i_26 0 9) (h11 : mm_rg i_27 0 3) (h12 : mm_rg i_28 0 6) (h13 : mm_rg i_29 0 30) (h14 : mm_rg i_30 0 10) (h15 : mm_rg i_31 0 99) (h16 : mm_rg i_32 0 9) (h17 : mm_rg i_33 0 3) (h18 : mm_rg i_34 0 6) (h19 : mm_rg i_35 0 30) (h20 : mm_rg i_36 0 10) (h21 : mm_rg i_37 0 99) (h22 : mm_rg i_38 0 9) (h23 : mm_rg i_39 0 3) (h24 : mm_rg i_40 0 6) (h25 : mm_rg i_41 0 30) (h26 : mm_rg i_42 0 10) (h27 : mm_rg i_43 0 99) (h28 : mm_rg i_44 0 9) (h29 : mm_rg i_45 0 3) (h30 : mm_rg i_46 0 6) (h31 : mm_rg i_47 0 30)  : mm_CI l yX12_whyNot (mm_ws yX12_whyNot cX12_whyNot 4 (some .int)) ({ frames := 2, cells := 0, slots := 0, locals := 47 } : Room) G cy sz [(a_0, .inr (12, [.int i_1, .ref a_1, .ref a_2, .ref a_3, .ref a_4, .ref a_5, .int i_2, .int i_3, .int i_4, .int i_5, .int i_6, .long j_0, .int i_7, .int i_8, .int i_9, .int i_10, .ref a_6, .ref a_7, .ref a_8, .ref a_9, .ref a_10, .ref a_11, .ref a_12, .ref a_13, .ref a_14, .ref a_15, .ref a_16, .ref a_17, .ref a_18, .int i_11, .int i_12, .int i_13, .int i_14, .int i_15, .int i_16, .ref a_19, .int i_17, .ref a_20])), (a_1, .inl (cy 1, 4, .inl f_0)), (a_2, .inl (cy 1, 4, .inl f_1)), (a_3, .inl (cy 2, 240, .inr (.inl f_2))), (a_7, .inl (cy 1, 30, .inl (mm_g [i_18, i_19, i_20, i_21, i_22, i_23, i_24, i_25, i_26, i_27, i_28, i_29, i_30, i_31, i_32, i_33, i_34, i_35, i_36, i_37, i_38, i_39, i_40, i_41, i_42, i_43, i_44, i_45, i_46, i_47])))] [.ref a_0, .int i_0, .int 1] (fun u : Unit => [(a_0, .inr (12, [.int i_1, .ref a_1, .ref a_2, .ref a_3, .ref a_4, .ref a_5, .int i_2, .int i_3, .int i_4, .int i_5, .int i_6, .long j_0, .int i_7, .int i_8, .int i_9, .int i_10, .ref a_6, .ref a_7, .ref a_8, .ref a_9, .ref a_10, .ref a_11, .ref a_12, .ref a_13, .ref a_14, .ref a_15, .ref a_16, .ref a_17, .ref a_18, .int i_11, .int i_12, .int i_13, .int i_14, .int i_15, .int i_16, .ref a_19, .int i_17, .ref a_20])), (a_1, .inl (cy 1, 4, .inl f_0)), (a_2, .inl (cy 1, 4, .inl f_1)), (a_3, .inl (cy 2, 240, .inr (.inl f_2))), (a_7, .inl (cy 1, 30, .inl (mm_g [i_18, i_19, i_20, i_21, i_22, i_23, i_24, i_25, i_26, i_27, i_28, i_29, i_30, i_31, i_32, i_33, i_34, i_35, i_36, i_37, i_38, i_39, i_40, i_41, i_42, i_43, i_44, i_45, i_46, i_47])))]) (fun (r : Int32) (u : Unit) => (((-2) = r) ∨ ((-6) = r ∧ mm_rg i_0 0 3) ∨ (0 = r ∧ mm_rg i_0 0 3 ∧ mm_wn f_2 f_1 i_0 i_22))) 0 0 := by
  refine mm_begin (lv := [(0, .ref a_0), (1, .int i_0), (2, .int 1)]) (by decide) (Nat.le_of_ble_eq_true rfl) rfl ?_
  intro p e s m below meth c A ls R args Q H locs hRe hQ hAe hx hb hr hlocks hml hown hnm hts hsz hA hS hP hK hD hZ hl
  have hRf : R.frames = 2 := by rw [hRe]
  have hRl : R.locals = 47 := by rw [hRe]
  have hRc : R.cells = 0 := by rw [hRe]
  have hRs : R.slots = 0 := by rw [hRe]
  refine lv_iload_n hx hb dX12_whyNot_0 rfl (lv_at hl 1 rfl) ?_
  refine mm_finir (va_runS (As := [.int i_0]) (rest := []) ⟨hx, hb, hml, hown, hts⟩ (M197_X12_isSlot l G cy H.size i_0 ) (va_cwS 1 hts (mm_gS mm_w1269 mm_w1270 mm_w5 mm_w1271) rfl rfl rfl hs_X12_isSlot ⟨by rw [hRf]; exact Nat.le_of_ble_eq_true rfl, by rw [hRl]; exact Nat.le_of_ble_eq_true rfl⟩) (mm_preS hK hZ hS hA hP hD [] rfl rfl) rfl rfl hl.1 rfl (lv_room (Nat.le_of_ble_eq_true rfl)) dX12_whyNot_1 ⟨by rw [hRc]; exact Nat.le_of_ble_eq_true rfl, by rw [hRs]; exact Nat.le_of_ble_eq_true rfl⟩) hP hD hS hA [] rfl (fun _ => rfl) ?_
  clear hP hD hS
  clear H locs
  intro v1 _u H locs hw hP hD hS
  rcases hw with rfl | ⟨rfl, w2⟩
  · refine lv_if_eq (tgt := 11) hx hb dX12_whyNot_4 (by decide) (fun c3 => ?_) (fun c3 => ?_)
    · refine lv_bipush (v := (-2)) hx hb dX12_whyNot_11 (by decide) ?_
      subst hAe
      rw [hQ]
      exact W.iret (v := (-2)) hx hb hr (fun t ht hW => ⟨⟨(-2), (), rfl, (Or.inl rfl), by rw [ht]; exact hP, hK.warm hW, hD⟩, hS.F ht⟩) hS.2.2 dX12_whyNot_13
    · exact absurd rfl (mm_ne c3)
  · refine lv_if_eq (tgt := 11) hx hb dX12_whyNot_4 (by decide) (fun c4 => ?_) (fun c4 => ?_)
    · exact mm_eqN c4.symm mm_k0 mm_k1 (by decide)
    · refine lv_iload_n hx hb dX12_whyNot_7 rfl (lv_at hl 2 rfl) ?_
      refine lv_if_ne (tgt := 14) hx hb dX12_whyNot_8 (by decide) (fun c5 => ?_) (fun c5 => ?_)
      · refine lv_aload_n hx hb dX12_whyNot_14 rfl (lv_at hl 0 rfl) ?_
        refine va_get (D := G) (ci := 12) (v := .ref a_1) (C := RX12) (T := TX12) (N := 38) hx hb hts (mm_i inlX12) hown hK.1 hP 0 rfl rfl 1 (by decide) (mm_h hts mm_w142) (fun _ h9 => h9) rfl dX12_whyNot_15 ?_
        refine lv_iload_n hx hb dX12_whyNot_18 rfl (lv_at hl 1 rfl) ?_
        refine va_iald hx hb hK.1 hP 1 1 rfl rfl (mm_in w2 (by decide)) dX12_whyNot_19 ?_
        refine lv_topi (fun v6 ev6 => ?_)
        have rv6 : mm_rg v6 (-1) 3 := mm_eqv ev6 (h0 _)
        refine lv_iconst (v := (-1)) hx hb dX12_whyNot_20 (by decide) ?_
        refine lv_icmp_ne (tgt := 27) hx hb dX12_whyNot_21 (by decide) (fun c7 => ?_) (fun c7 => ?_)
        · have q8 := mm_neL (lo := 0) (mm_ne c7) rv6 mm_km1 (by decide) (by decide)
          refine lv_aload_n hx hb dX12_whyNot_27 rfl (lv_at hl 0 rfl) ?_
          refine va_get (D := G) (ci := 12) (v := .ref a_2) (C := RX12) (T := TX12) (N := 38) hx hb hts (mm_i inlX12) hown hK.1 hP 0 rfl rfl 2 (by decide) (mm_h hts mm_w143) (fun _ h9 => h9) rfl dX12_whyNot_28 ?_
          refine lv_iload_n hx hb dX12_whyNot_31 rfl (lv_at hl 1 rfl) ?_
          refine va_iald hx hb hK.1 hP 2 1 rfl rfl (mm_in w2 (by decide)) dX12_whyNot_32 ?_
          refine lv_topi (fun v9 ev9 => ?_)
          have rv9 : mm_rg v9 0 60 := mm_eqv ev9 (h1 _)
          refine lv_iconst (v := 2) hx hb dX12_whyNot_33 (by decide) ?_
          refine lv_irem hx hb dX12_whyNot_34 (mm_nz mm_k2 (by decide)) ?_
          refine lv_topi (fun v10 ev10 => ?_)
          have rv10 : mm_rg v10 0 1 := mm_rem ev10 rv9 mm_k2 (by decide) (by decide)
          refine lv_if_eq (tgt := 41) hx hb dX12_whyNot_35 (by decide) (fun c11 => ?_) (fun c11 => ?_)
          · have q12 := mm_eqI (lo := 0) (hi := 0) c11 rv10 mm_k0 (by decide)
            refine lv_iconst (v := 0) hx hb dX12_whyNot_41 (by decide) ?_
            refine lv_istore_n (lv' := [(3, .int 0), (0, .ref a_0), (1, .int i_0), (2, .int 1)]) hx hb dX12_whyNot_42 rfl hl (by decide) rfl ?_
            clear hl
            clear ls
            intro ls hl
            have L43_205 : ∀ (n : Nat) (x43_3_203 : Int32), mm_rg x43_3_203 0 60 → mm_evn x43_3_203 → mm_wns f_2 i_0 x43_3_203 i_22 → (60 - x43_3_203.toInt).toNat < n → ∀ (H : Heap) (locs : List Loc), va_P G vwCl [(a_0, .inr (12, [.int i_1, .ref a_1, .ref a_2, .ref a_3, .ref a_4, .ref a_5, .int i_2, .int i_3, .int i_4, .int i_5, .int i_6, .long j_0, .int i_7, .int i_8, .int i_9, .int i_10, .ref a_6, .ref a_7, .ref a_8, .ref a_9, .ref a_10, .ref a_11, .ref a_12, .ref a_13, .ref a_14, .ref a_15, .ref a_16, .ref a_17, .ref a_18, .int i_11, .int i_12, .int i_13, .int i_14, .int i_15, .int i_16, .ref a_19, .int i_17, .ref a_20])), (a_1, .inl (cy 1, 4, .inl f_0)), (a_2, .inl (cy 1, 4, .inl f_1)), (a_3, .inl (cy 2, 240, .inr (.inl f_2))), (a_7, .inl (cy 1, 30, .inl (mm_g [i_18, i_19, i_20, i_21, i_22, i_23, i_24, i_25, i_26, i_27, i_28, i_29, i_30, i_31, i_32, i_33, i_34, i_35, i_36, i_37, i_38, i_39, i_40, i_41, i_42, i_43, i_44, i_45, i_46, i_47])))] H → va_D A [(a_0, .inr (12, [.int i_1, .ref a_1, .ref a_2, .ref a_3, .ref a_4, .ref a_5, .int i_2, .int i_3, .int i_4, .int i_5, .int i_6, .long j_0, .int i_7, .int i_8, .int i_9, .int i_10, .ref a_6, .ref a_7, .ref a_8, .ref a_9, .ref a_10, .ref a_11, .ref a_12, .ref a_13, .ref a_14, .ref a_15, .ref a_16, .ref a_17, .ref a_18, .int i_11, .int i_12, .int i_13, .int i_14, .int i_15, .int i_16, .ref a_19, .int i_17, .ref a_20])), (a_1, .inl (cy 1, 4, .inl f_0)), (a_2, .inl (cy 1, 4, .inl f_1)), (a_3, .inl (cy 2, 240, .inr (.inl f_2))), (a_7, .inl (cy 1, 30, .inl (mm_g [i_18, i_19, i_20, i_21, i_22, i_23, i_24, i_25, i_26, i_27, i_28, i_29, i_30, i_31, i_32, i_33, i_34, i_35, i_36, i_37, i_38, i_39, i_40, i_41, i_42, i_43, i_44, i_45, i_46, i_47])))] → va_S A s.heap H locs → ∀ (ls : Array Slot), lv_has ls 4 [(3, .int x43_3_203), (0, .ref a_0), (1, .int i_0), (2, .int 1)] → W p l e R s m args below meth c H locs 0 0 Q (F0 m 43 ls []) := by
              intro n
              induction n with
              | zero => intro x43_3_203 rx43_3_203 w204 w205 hm; exact absurd hm (Nat.not_lt_zero _)
              | succ n ih43 =>
                intro x43_3_203 rx43_3_203 w204 w205 hm43 H locs hP hD hS ls hl
                refine lv_iload_n hx hb dX12_whyNot_43 rfl (lv_at hl 0 rfl) ?_
                refine lv_aload_n hx hb dX12_whyNot_44 rfl (lv_at hl 1 rfl) ?_
                refine va_get (D := G) (ci := 12) (v := .ref a_2) (C := RX12) (T := TX12) (N := 38) hx hb hts (mm_i inlX12) hown hK.1 hP 0 rfl rfl 2 (by decide) (mm_h hts mm_w143) (fun _ h9 => h9) rfl dX12_whyNot_45 ?_
                refine lv_iload_n hx hb dX12_whyNot_48 rfl (lv_at hl 2 rfl) ?_
                refine va_iald hx hb hK.1 hP 2 1 rfl rfl (mm_in w2 (by decide)) dX12_whyNot_49 ?_
                refine lv_topi (fun v207 ev207 => ?_)
                have rv207 : mm_rg v207 0 60 := mm_eqv ev207 (h1 _)
                obtain rfl : v9 = v207 := ev9.trans ev207.symm
                refine lv_icmp_ge (tgt := 99) hx hb dX12_whyNot_50 (by decide) (fun c208 => ?_) (fun c208 => ?_)
                · refine lv_iconst (v := 0) hx hb dX12_whyNot_99 (by decide) ?_
                  have w209 : mm_wn f_2 f_1 i_0 i_22 := (mm_wn_of w205 ev9 (mm_le c208))
                  subst hAe
                  rw [hQ]
                  exact W.iret (v := 0) hx hb hr (fun t ht hW => ⟨⟨0, (), rfl, (Or.inr (Or.inr ⟨rfl, w2, w209⟩)), by rw [ht]; exact hP, hK.warm hW, hD⟩, hS.F ht⟩) hS.2.2 dX12_whyNot_100
                · have q210 := mm_ltL (h := 59) (mm_nle c208) rx43_3_203 rv9 (by decide)
                  have q211 := mm_ltR (lo := 1) (mm_nle c208) rx43_3_203 rv9 (by decide)
                  have q212 : mm_rg x43_3_203 0 58 := mm_evn_d w204 q210 (by decide)
                  refine lv_aload_n hx hb dX12_whyNot_53 rfl (lv_at hl 1 rfl) ?_
                  refine lv_aload_n hx hb dX12_whyNot_54 rfl (lv_at hl 1 rfl) ?_
                  refine va_get (D := G) (ci := 12) (v := .ref a_3) (C := RX12) (T := TX12) (N := 38) hx hb hts (mm_i inlX12) hown hK.1 hP 0 rfl rfl 3 (by decide) (mm_h hts mm_w144) (fun _ h9 => h9) rfl dX12_whyNot_55 ?_
                  refine lv_bipush (v := 60) hx hb dX12_whyNot_58 (by decide) ?_
                  refine lv_iload_n hx hb dX12_whyNot_60 rfl (lv_at hl 2 rfl) ?_
                  refine lv_imul hx hb dX12_whyNot_61 ?_
                  refine lv_topi (fun v213 ev213 => ?_)
                  have rv213 : mm_rg v213 0 180 := mm_mul ev213 mm_k60 w2 (by decide) (by decide)
                  have tv213 := mm_mulEc ev213 mm_k60 w2 (by decide) (k := 60) (by decide)
                  refine lv_iload_n hx hb dX12_whyNot_62 rfl (lv_at hl 0 rfl) ?_
                  refine lv_iadd hx hb dX12_whyNot_63 ?_
                  refine lv_topi (fun v214 ev214 => ?_)
                  have rv214 : mm_rg v214 0 238 := mm_add ev214 rv213 q212 (by decide) (by decide)
                  have tv214 := mm_addE ev214 rv213 q212 (by decide)
                  refine va_lald hx hb hK.1 hP 3 2 rfl rfl (mm_in rv214 (by decide)) dX12_whyNot_64 ?_
                  refine lv_topl (fun v215 ev215 => ?_)
                  refine mm_finir (va_runV (As := [.long v215]) (rest := []) ⟨hx, hb, hml, hown, hts⟩ (M96_X12_isText l G cy H.size a_0 v215 i_1 a_1 a_2 a_3 a_4 a_5 i_2 i_3 i_4 i_5 i_6 j_0 i_7 i_8 i_9 i_10 a_6 a_7 a_8 a_9 a_10 a_11 a_12 a_13 a_14 a_15 a_16 a_17 a_18 i_11 i_12 i_13 i_14 i_15 i_16 a_19 i_17 a_20 i_18 i_19 i_20 i_21 i_22 i_23 i_24 i_25 i_26 i_27 i_28 i_29 i_30 i_31 i_32 i_33 i_34 i_35 i_36 i_37 i_38 i_39 i_40 i_41 i_42 i_43 i_44 i_45 i_46 i_47 h2 h3 h4 h5 h6 h7 h8 h9 h10 h11 h12 h13 h14 h15 h16 h17 h18 h19 h20 h21 h22 h23 h24 h25 h26 h27 h28 h29 h30 h31) (cwV 1 hts (mm_gV mm_w613 mm_w614 mm_w615 mm_w5 mm_w616) rfl rfl rfl hd_X12_isText ⟨by rw [hRf]; exact Nat.le_of_ble_eq_true rfl, by rw [hRl]; exact Nat.le_of_ble_eq_true rfl⟩) (mm_preV hK hZ hS hA hP hD [0, 4] rfl rfl 0 rfl rfl rfl) rfl rfl hl.1 rfl (lv_room (Nat.le_of_ble_eq_true rfl)) dX12_whyNot_65 ⟨by rw [hRc]; exact Nat.le_of_ble_eq_true rfl, by rw [hRs]; exact Nat.le_of_ble_eq_true rfl⟩) hP hD hS hA [0, 4] rfl (fun _ => rfl) ?_
                  clear hP hD hS
                  clear H locs
                  intro v216 _u H locs hw hP hD hS
                  rcases hw with rfl | ⟨rfl, w217, w218⟩
                  · refine lv_if_eq (tgt := 90) hx hb dX12_whyNot_68 (by decide) (fun c219 => ?_) (fun c219 => ?_)
                    · refine lv_bipush (v := (-2)) hx hb dX12_whyNot_90 (by decide) ?_
                      subst hAe
                      rw [hQ]
                      exact W.iret (v := (-2)) hx hb hr (fun t ht hW => ⟨⟨(-2), (), rfl, (Or.inl rfl), by rw [ht]; exact hP, hK.warm hW, hD⟩, hS.F ht⟩) hS.2.2 dX12_whyNot_92
                    · exact absurd rfl (mm_ne c219)
                  · refine lv_if_eq (tgt := 90) hx hb dX12_whyNot_68 (by decide) (fun c220 => ?_) (fun c220 => ?_)
                    · exact mm_eqN c220.symm mm_k0 mm_k1 (by decide)
                    · refine lv_aload_n hx hb dX12_whyNot_71 rfl (lv_at hl 1 rfl) ?_
                      refine va_get (D := G) (ci := 12) (v := .ref a_3) (C := RX12) (T := TX12) (N := 38) hx hb hts (mm_i inlX12) hown hK.1 hP 0 rfl rfl 3 (by decide) (mm_h hts mm_w144) (fun _ h9 => h9) rfl dX12_whyNot_72 ?_
                      refine lv_bipush (v := 60) hx hb dX12_whyNot_75 (by decide) ?_
                      refine lv_iload_n hx hb dX12_whyNot_77 rfl (lv_at hl 2 rfl) ?_
                      refine lv_imul hx hb dX12_whyNot_78 ?_
                      refine lv_topi (fun v221 ev221 => ?_)
                      have rv221 : mm_rg v221 0 180 := mm_mul ev221 mm_k60 w2 (by decide) (by decide)
                      have tv221 := mm_mulEc ev221 mm_k60 w2 (by decide) (k := 60) (by decide)
                      refine lv_iload_n hx hb dX12_whyNot_79 rfl (lv_at hl 0 rfl) ?_
                      refine lv_iadd hx hb dX12_whyNot_80 ?_
                      refine lv_topi (fun v222 ev222 => ?_)
                      have rv222 : mm_rg v222 0 238 := mm_add ev222 rv221 q212 (by decide) (by decide)
                      have tv222 := mm_addE ev222 rv221 q212 (by decide)
                      refine lv_iconst (v := 1) hx hb dX12_whyNot_81 (by decide) ?_
                      refine lv_iadd hx hb dX12_whyNot_82 ?_
                      refine lv_topi (fun v223 ev223 => ?_)
                      have rv223 : mm_rg v223 1 239 := mm_add ev223 rv222 mm_k1 (by decide) (by decide)
                      have tv223 := mm_addEc ev223 rv222 mm_k1 (by decide) (k := 1) (by decide)
                      refine va_lald hx hb hK.1 hP 3 2 rfl rfl (mm_in rv223 (by decide)) dX12_whyNot_83 ?_
                      refine lv_topl (fun v224 ev224 => ?_)
                      refine mm_finir (va_runS (As := [.long v224]) (rest := []) ⟨hx, hb, hml, hown, hts⟩ (M199_X12_isStock l G cy H.size v224 ) (va_cwS 1 hts (mm_gS mm_w922 mm_w923 mm_w5 mm_w924) rfl rfl rfl hs_X12_isStock ⟨by rw [hRf]; exact Nat.le_of_ble_eq_true rfl, by rw [hRl]; exact Nat.le_of_ble_eq_true rfl⟩) (mm_preS hK hZ hS hA hP hD [] rfl rfl) rfl rfl hl.1 rfl (lv_room (Nat.le_of_ble_eq_true rfl)) dX12_whyNot_84 ⟨by rw [hRc]; exact Nat.le_of_ble_eq_true rfl, by rw [hRs]; exact Nat.le_of_ble_eq_true rfl⟩) hP hD hS hA [] rfl (fun _ => rfl) ?_
                      clear hP hD hS
                      clear H locs
                      intro v225 _u H locs hw hP hD hS
                      rcases hw with rfl | ⟨rfl, w226⟩
                      · refine lv_if_ne (tgt := 93) hx hb dX12_whyNot_87 (by decide) (fun c227 => ?_) (fun c227 => ?_)
                        · exact absurd rfl (mm_ne c227)
                        · refine lv_bipush (v := (-2)) hx hb dX12_whyNot_90 (by decide) ?_
                          subst hAe
                          rw [hQ]
                          exact W.iret (v := (-2)) hx hb hr (fun t ht hW => ⟨⟨(-2), (), rfl, (Or.inl rfl), by rw [ht]; exact hP, hK.warm hW, hD⟩, hS.F ht⟩) hS.2.2 dX12_whyNot_92
                      · refine lv_if_ne (tgt := 93) hx hb dX12_whyNot_87 (by decide) (fun c228 => ?_) (fun c228 => ?_)
                        · obtain ⟨v229, ev229⟩ : ∃ y : Int32, y = x43_3_203 + 2 := ⟨_, rfl⟩
                          refine lv_iinc (v := v229) (lv' := [(3, .int v229), (0, .ref a_0), (1, .int i_0), (2, .int 1)]) hx hb dX12_whyNot_93 hl (k := 0) rfl (by rw [ev229]; rfl) (by decide) rfl ?_
                          clear hl
                          clear ls
                          intro ls hl
                          have rv229 : mm_rg v229 2 60 := mm_add ev229 q212 mm_k2 (by decide) (by decide)
                          have tv229 := mm_addEc ev229 q212 mm_k2 (by decide) (k := 2) (by decide)
                          refine lv_goto (tgt := 43) hx hb dX12_whyNot_96 (by decide) ?_
                          exact ih43 v229 (mm_wk rv229 (by decide)) (mm_evn_s w204 tv229) (mm_wns_s w205 tv229 ev215 w218 (by have := tv214; have := tv213; omega) q212 w2 (by decide)) (mm_mu hm43 tv229 (by decide) (rv229).2 (by decide)) H locs hP hD hS ls (lv_sub hl [0, 1, 2, 3] rfl)
                        · exact mm_eqN c228.symm mm_k0 mm_k1 (by decide)
            exact L43_205 _ 0 (mm_wk mm_k0 (by decide)) mm_evn_0 (mm_wns_0 _ _ _) (Nat.lt_succ_self _) H locs hP hD hS ls (lv_sub hl [0, 1, 2, 3] rfl)
          · have q230 := mm_neL (lo := 1) (mm_ne c11) rv10 mm_k0 (by decide) (by decide)
            refine lv_bipush (v := (-2)) hx hb dX12_whyNot_38 (by decide) ?_
            subst hAe
            rw [hQ]
            exact W.iret (v := (-2)) hx hb hr (fun t ht hW => ⟨⟨(-2), (), rfl, (Or.inl rfl), by rw [ht]; exact hP, hK.warm hW, hD⟩, hS.F ht⟩) hS.2.2 dX12_whyNot_40
        · have q231 := mm_eqI (lo := (-1)) (hi := (-1)) c7 rv6 mm_km1 (by decide)
          refine lv_bipush (v := (-6)) hx hb dX12_whyNot_24 (by decide) ?_
          subst hAe
          rw [hQ]
          exact W.iret (v := (-6)) hx hb hr (fun t ht hW => ⟨⟨(-6), (), rfl, (Or.inr (Or.inl ⟨rfl, w2⟩)), by rw [ht]; exact hP, hK.warm hW, hD⟩, hS.F ht⟩) hS.2.2 dX12_whyNot_26
      · exact mm_eqN c5.symm mm_k0 mm_k1 (by decide)

set_option maxHeartbeats 4000000 in
set_option maxRecDepth 100000 in
theorem M201_X12_isSo (l : Launch) (G : va_G) (cy : Nat → ClassId) (sz : Nat) (a_0 : Nat) (i_0 : Int32) (i_1 : Int32) (i_2 : Int32) (i_3 : Int32) (a_1 : Nat) (a_2 : Nat) (a_3 : Nat) (a_4 : Nat) (a_5 : Nat) (i_4 : Int32) (i_5 : Int32) (i_6 : Int32) (i_7 : Int32) (i_8 : Int32) (j_0 : Int64) (i_9 : Int32) (i_10 : Int32) (i_11 : Int32) (i_12 : Int32) (a_6 : Nat) (a_7 : Nat) (a_8 : Nat) (a_9 : Nat) (a_10 : Nat) (a_11 : Nat) (a_12 : Nat) (a_13 : Nat) (a_14 : Nat) (a_15 : Nat) (a_16 : Nat) (a_17 : Nat) (a_18 : Nat) (i_13 : Int32) (i_14 : Int32) (i_15 : Int32) (i_16 : Int32) (i_17 : Int32) (i_18 : Int32) (a_19 : Nat) (i_19 : Int32) (a_20 : Nat) (f_0 : Nat → Int32) (f_1 : Nat → Int64) (i_20 : Int32) (i_21 : Int32) (i_22 : Int32) (i_23 : Int32) (i_24 : Int32) (i_25 : Int32) (i_26 : Int32) (i_27 : Int32) (i_28 : Int32) (i_29 : Int32) (i_30 : Int32) (i_31 : Int32) (i_32 : Int32) (i_33 : Int32) (i_34 : Int32) (i_35 : Int32) (i_36 : Int32) (i_37 : Int32) (i_38 : Int32) (i_39 : Int32) (i_40 : Int32) (i_41 : Int32) (i_42 : Int32) (i_43 : Int32) (i_44 : Int32) (i_45 : Int32) (i_46 : Int32) (i_47 : Int32) (i_48 : Int32) (i_49 : Int32) (f_2 : Nat → Int32) (f_3 : Nat → Int32) (f_4 : Nat → Int32) (f_5 : Nat → Int32) (f_6 : Nat → Int32) (f_7 : Nat → Int32) (f_8 : Nat → Int32) (h0 : mm_rg i_0 0 3) (h1 : mm_rg i_1 0 2) (h2 : mm_rg i_2 0 1100000000) (h3 : mm_rg i_13 0 8) (h4 : mm_ar f_0 0 60) (h5 : mm_rg i_20 0 10) (h6 : mm_rg i_21 0 99) (h7 : mm_rg i_22 0 9) (h8 : mm_rg i_23 0 3) (h9 : mm_rg i_24 0 6) (h10 : mm_rg i_25 0 30) (h11 : mm_rg i_26 0 10) (h12 : mm_rg i_27 0 99) (h13 : mm_rg i_28 0 9) (h14 : mm_rg i_29 0 3) (h15 : mm_rg i_30 0 6) (h16 : mm_rg i_31 0 30) (h17 : mm_rg i_32 0 10) (h18 : mm_rg i_33 0 99) (h19 : mm_rg i_34 0 9) (h20 : mm_rg i_35 0 3) (h21 : mm_rg i_36 0 6) (h22 : mm_rg i_37 0 30) (h23 : mm_rg i_38 0 10) (h24 : mm_rg i_39 0 99) (h25 : mm_rg i_40 0 9) (h26 : mm_rg i_41 0 3) (h27 : mm_rg i_42 0 6) (h28 : mm_rg i_43 0 30) (h29 : mm_rg i_44 0 10) (h30 : mm_rg i_45 0 99) (h31 : mm_rg i_46 0 9) (h32 : mm_rg i_47 0 3) (h33 : mm_rg i_48 0 6) (h34 : mm_rg i_49 0 30) (h35 : mm_ar f_2 0 99) (h36 : mm_ar f_3 0 8) (h37 : mm_ar f_4 0 9) (h38 : mm_ar f_5 (-1) 99) (h39 : mm_ar f_6 0 9) (h40 : mm_ar f_7 0 210) (h41 : mm_ar f_8 0 9) (h42 : mm_txs f_3 f_4 0 i_22 i_24) (h43 : mm_acs f_5 0 i_22 i_23 i_25) (h44 : mm_txs f_3 f_4 1 i_28 i_30) (h45 : mm_acs f_5 1 i_28 i_29 i_31) (h46 : mm_txs f_3 f_4 2 i_34 i_36) (h47 : mm_acs f_5 2 i_34 i_35 i_37) (h48 : mm_txs f_3 f_4 3 i_40 i_42) (h49 : mm_acs f_5 3 i_40 i_41 i_43) (h50 : mm_f1 f_7 i_1) (h51 : mm_wn f_1 f_0 i_0 i_24)  : mm_CI l yX12_isSo (mm_ws yX12_isSo cX12_isSo 5 (some .boolean)) ({ frames := 3, cells := 0, slots := 0, locals := 73 } : Room) G cy sz [(a_0, .inr (12, [.int i_3, .ref a_1, .ref a_2, .ref a_3, .ref a_4, .ref a_5, .int i_4, .int i_5, .int i_6, .int i_7, .int i_8, .long j_0, .int i_9, .int i_10, .int i_11, .int i_12, .ref a_6, .ref a_7, .ref a_8, .ref a_9, .ref a_10, .ref a_11, .ref a_12, .ref a_13, .ref a_14, .ref a_15, .ref a_16, .ref a_17, .ref a_18, .int i_13, .int i_14, .int i_15, .int i_16, .int i_17, .int i_18, .ref a_19, .int i_19, .ref a_20])), (a_2, .inl (cy 1, 4, .inl f_0)), (a_3, .inl (cy 2, 240, .inr (.inl f_1))), (a_7, .inl (cy 1, 30, .inl (mm_g [i_20, i_21, i_22, i_23, i_24, i_25, i_26, i_27, i_28, i_29, i_30, i_31, i_32, i_33, i_34, i_35, i_36, i_37, i_38, i_39, i_40, i_41, i_42, i_43, i_44, i_45, i_46, i_47, i_48, i_49]))), (a_8, .inl (cy 1, 90, .inl f_2)), (a_11, .inl (cy 1, 30, .inl f_3)), (a_12, .inl (cy 1, 240, .inl f_4)), (a_13, .inl (cy 1, 450, .inl f_5)), (a_15, .inl (cy 1, 7200, .inl f_6)), (a_16, .inl (cy 1, 3, .inl f_7)), (a_18, .inl (cy 1, 8, .inl f_8))] [.ref a_0, .int i_0, .int i_1, .int i_2] (fun u : Int32 × Int32 × Int32 × (Nat → Int32) => [(a_0, .inr (12, [.int i_3, .ref a_1, .ref a_2, .ref a_3, .ref a_4, .ref a_5, .int i_4, .int i_5, .int i_6, .int i_7, .int i_8, .long j_0, .int i_9, .int i_10, .int i_11, .int i_12, .ref a_6, .ref a_7, .ref a_8, .ref a_9, .ref a_10, .ref a_11, .ref a_12, .ref a_13, .ref a_14, .ref a_15, .ref a_16, .ref a_17, .ref a_18, .int u.1, .int u.2.1, .int u.2.2.1, .int i_16, .int i_17, .int i_18, .ref a_19, .int i_19, .ref a_20])), (a_2, .inl (cy 1, 4, .inl f_0)), (a_3, .inl (cy 2, 240, .inr (.inl f_1))), (a_7, .inl (cy 1, 30, .inl (mm_g [i_20, i_21, i_22, i_23, i_24, i_25, i_26, i_27, i_28, i_29, i_30, i_31, i_32, i_33, i_34, i_35, i_36, i_37, i_38, i_39, i_40, i_41, i_42, i_43, i_44, i_45, i_46, i_47, i_48, i_49]))), (a_8, .inl (cy 1, 90, .inl f_2)), (a_11, .inl (cy 1, 30, .inl f_3)), (a_12, .inl (cy 1, 240, .inl f_4)), (a_13, .inl (cy 1, 450, .inl f_5)), (a_15, .inl (cy 1, 7200, .inl f_6)), (a_16, .inl (cy 1, 3, .inl f_7)), (a_18, .inl (cy 1, 8, .inl u.2.2.2))]) (fun (r : Int32) (u : Int32 × Int32 × Int32 × (Nat → Int32)) => mm_rg u.1 0 8 ∧ mm_ar u.2.2.2 0 9 ∧ ((0 = r) ∨ (1 = r))) 0 0 := by
  refine mm_begin (lv := [(0, .ref a_0), (1, .int i_0), (2, .int i_1), (3, .int i_2)]) (by decide) (Nat.le_of_ble_eq_true rfl) rfl ?_
  intro p e s m below meth c A ls R args Q H locs hRe hQ hAe hx hb hr hlocks hml hown hnm hts hsz hA hS hP hK hD hZ hl
  have hRf : R.frames = 3 := by rw [hRe]
  have hRl : R.locals = 73 := by rw [hRe]
  have hRc : R.cells = 0 := by rw [hRe]
  have hRs : R.slots = 0 := by rw [hRe]
  refine lv_iconst (v := 0) hx hb dX12_isSo_0 (by decide) ?_
  refine lv_istore (lv' := [(4, .int 0), (0, .ref a_0), (1, .int i_0), (2, .int i_1), (3, .int i_2)]) hx hb dX12_isSo_1 hl (by decide) rfl ?_
  clear hl
  clear ls
  intro ls hl
  have L3_249 : ∀ (n : Nat) (x3_4_244 : Int32) (y3_0_29_245 : Int32) (y3_0_30_246 : Int32) (y3_0_31_247 : Int32) (z3_10_248 : Nat → Int32), mm_rg x3_4_244 0 60 → mm_rg y3_0_29_245 0 8 → mm_ar z3_10_248 0 9 → mm_evn x3_4_244 → (60 - x3_4_244.toInt).toNat < n → ∀ (H : Heap) (locs : List Loc), va_P G vwCl [(a_0, .inr (12, [.int i_3, .ref a_1, .ref a_2, .ref a_3, .ref a_4, .ref a_5, .int i_4, .int i_5, .int i_6, .int i_7, .int i_8, .long j_0, .int i_9, .int i_10, .int i_11, .int i_12, .ref a_6, .ref a_7, .ref a_8, .ref a_9, .ref a_10, .ref a_11, .ref a_12, .ref a_13, .ref a_14, .ref a_15, .ref a_16, .ref a_17, .ref a_18, .int y3_0_29_245, .int y3_0_30_246, .int y3_0_31_247, .int i_16, .int i_17, .int i_18, .ref a_19, .int i_19, .ref a_20])), (a_2, .inl (cy 1, 4, .inl f_0)), (a_3, .inl (cy 2, 240, .inr (.inl f_1))), (a_7, .inl (cy 1, 30, .inl (mm_g [i_20, i_21, i_22, i_23, i_24, i_25, i_26, i_27, i_28, i_29, i_30, i_31, i_32, i_33, i_34, i_35, i_36, i_37, i_38, i_39, i_40, i_41, i_42, i_43, i_44, i_45, i_46, i_47, i_48, i_49]))), (a_8, .inl (cy 1, 90, .inl f_2)), (a_11, .inl (cy 1, 30, .inl f_3)), (a_12, .inl (cy 1, 240, .inl f_4)), (a_13, .inl (cy 1, 450, .inl f_5)), (a_15, .inl (cy 1, 7200, .inl f_6)), (a_16, .inl (cy 1, 3, .inl f_7)), (a_18, .inl (cy 1, 8, .inl z3_10_248))] H → va_D A [(a_0, .inr (12, [.int i_3, .ref a_1, .ref a_2, .ref a_3, .ref a_4, .ref a_5, .int i_4, .int i_5, .int i_6, .int i_7, .int i_8, .long j_0, .int i_9, .int i_10, .int i_11, .int i_12, .ref a_6, .ref a_7, .ref a_8, .ref a_9, .ref a_10, .ref a_11, .ref a_12, .ref a_13, .ref a_14, .ref a_15, .ref a_16, .ref a_17, .ref a_18, .int y3_0_29_245, .int y3_0_30_246, .int y3_0_31_247, .int i_16, .int i_17, .int i_18, .ref a_19, .int i_19, .ref a_20])), (a_2, .inl (cy 1, 4, .inl f_0)), (a_3, .inl (cy 2, 240, .inr (.inl f_1))), (a_7, .inl (cy 1, 30, .inl (mm_g [i_20, i_21, i_22, i_23, i_24, i_25, i_26, i_27, i_28, i_29, i_30, i_31, i_32, i_33, i_34, i_35, i_36, i_37, i_38, i_39, i_40, i_41, i_42, i_43, i_44, i_45, i_46, i_47, i_48, i_49]))), (a_8, .inl (cy 1, 90, .inl f_2)), (a_11, .inl (cy 1, 30, .inl f_3)), (a_12, .inl (cy 1, 240, .inl f_4)), (a_13, .inl (cy 1, 450, .inl f_5)), (a_15, .inl (cy 1, 7200, .inl f_6)), (a_16, .inl (cy 1, 3, .inl f_7)), (a_18, .inl (cy 1, 8, .inl z3_10_248))] → va_S A s.heap H locs → ∀ (ls : Array Slot), lv_has ls 5 [(4, .int x3_4_244), (0, .ref a_0), (1, .int i_0), (2, .int i_1), (3, .int i_2)] → W p l e R s m args below meth c H locs 0 0 Q (F0 m 3 ls []) := by
    intro n
    induction n with
    | zero => intro x3_4_244 y3_0_29_245 y3_0_30_246 y3_0_31_247 z3_10_248 rx3_4_244 ry3_0_29_245 rz3_10_248 w249 hm; exact absurd hm (Nat.not_lt_zero _)
    | succ n ih3 =>
      intro x3_4_244 y3_0_29_245 y3_0_30_246 y3_0_31_247 z3_10_248 rx3_4_244 ry3_0_29_245 rz3_10_248 w249 hm3 H locs hP hD hS ls hl
      refine lv_iload hx hb dX12_isSo_3 (lv_at hl 0 rfl) ?_
      refine lv_aload_n hx hb dX12_isSo_5 rfl (lv_at hl 1 rfl) ?_
      refine va_get (D := G) (ci := 12) (v := .ref a_2) (C := RX12) (T := TX12) (N := 38) hx hb hts (mm_i inlX12) hown hK.1 hP 0 rfl rfl 2 (by decide) (mm_h hts mm_w143) (fun _ h9 => h9) rfl dX12_isSo_6 ?_
      refine lv_iload_n hx hb dX12_isSo_9 rfl (lv_at hl 2 rfl) ?_
      refine va_iald hx hb hK.1 hP 1 1 rfl rfl (mm_in h0 (by decide)) dX12_isSo_10 ?_
      refine lv_topi (fun v251 ev251 => ?_)
      have rv251 : mm_rg v251 0 60 := mm_eqv ev251 (h4 _)
      refine lv_icmp_ge (tgt := 60) hx hb dX12_isSo_11 (by decide) (fun c252 => ?_) (fun c252 => ?_)
      · refine lv_iconst (v := 1) hx hb dX12_isSo_60 (by decide) ?_
        subst hAe
        rw [hQ]
        exact W.zret (v := 1) hx hb hr rfl (fun t ht hW => ⟨⟨1, (y3_0_29_245, y3_0_30_246, y3_0_31_247, z3_10_248), rfl, ⟨ry3_0_29_245, rz3_10_248, (Or.inr rfl)⟩, by rw [ht]; exact hP, hK.warm hW, hD⟩, hS.F ht⟩) hS.2.2 dX12_isSo_61
      · have q253 := mm_ltL (h := 59) (mm_nle c252) rx3_4_244 rv251 (by decide)
        have q254 := mm_ltR (lo := 1) (mm_nle c252) rx3_4_244 rv251 (by decide)
        have q255 : mm_rg x3_4_244 0 58 := mm_evn_d w249 q253 (by decide)
        refine lv_aload_n hx hb dX12_isSo_14 rfl (lv_at hl 1 rfl) ?_
        refine lv_iload_n hx hb dX12_isSo_15 rfl (lv_at hl 3 rfl) ?_
        refine lv_iload_n hx hb dX12_isSo_16 rfl (lv_at hl 4 rfl) ?_
        refine lv_aload_n hx hb dX12_isSo_17 rfl (lv_at hl 1 rfl) ?_
        refine va_get (D := G) (ci := 12) (v := .ref a_3) (C := RX12) (T := TX12) (N := 38) hx hb hts (mm_i inlX12) hown hK.1 hP 0 rfl rfl 3 (by decide) (mm_h hts mm_w144) (fun _ h9 => h9) rfl dX12_isSo_18 ?_
        refine lv_bipush (v := 60) hx hb dX12_isSo_21 (by decide) ?_
        refine lv_iload_n hx hb dX12_isSo_23 rfl (lv_at hl 2 rfl) ?_
        refine lv_imul hx hb dX12_isSo_24 ?_
        refine lv_topi (fun v256 ev256 => ?_)
        have rv256 : mm_rg v256 0 180 := mm_mul ev256 mm_k60 h0 (by decide) (by decide)
        have tv256 := mm_mulEc ev256 mm_k60 h0 (by decide) (k := 60) (by decide)
        refine lv_iload hx hb dX12_isSo_25 (lv_at hl 0 rfl) ?_
        refine lv_iadd hx hb dX12_isSo_27 ?_
        refine lv_topi (fun v257 ev257 => ?_)
        have rv257 : mm_rg v257 0 238 := mm_add ev257 rv256 q255 (by decide) (by decide)
        have tv257 := mm_addE ev257 rv256 q255 (by decide)
        refine va_lald hx hb hK.1 hP 2 2 rfl rfl (mm_in rv257 (by decide)) dX12_isSo_28 ?_
        refine lv_topl (fun v258 ev258 => ?_)
        have q259 : mm_rl v258 0 5 := mm_wn_ld h51 w249 ev258 (by have := tv257; have := tv256; omega) ev251 (mm_nle c252) q255 h0 h9 (by decide)
        obtain ⟨v260, ev260⟩ : ∃ y : Int32, y = v258.toInt32 := ⟨_, rfl⟩
        refine lv_l2i hx hb dX12_isSo_29 ev260.symm ?_
        have rv260 : mm_rg v260 0 5 := mm_l2i ev260 q259 (by decide)
        refine mm_fini (va_runV (As := [.int i_1, .int i_2, .int v260]) (rest := []) ⟨hx, hb, hml, hown, hts⟩ (M141_X12_reads l G cy H.size a_0 i_1 i_2 v260 i_3 a_1 a_2 a_3 a_4 a_5 i_4 i_5 i_6 i_7 i_8 j_0 i_9 i_10 i_11 i_12 a_6 a_7 a_8 a_9 a_10 a_11 a_12 a_13 a_14 a_15 a_16 a_17 a_18 y3_0_29_245 y3_0_30_246 y3_0_31_247 i_16 i_17 i_18 a_19 i_19 a_20 i_20 i_21 i_22 i_23 i_24 i_25 i_26 i_27 i_28 i_29 i_30 i_31 i_32 i_33 i_34 i_35 i_36 i_37 i_38 i_39 i_40 i_41 i_42 i_43 i_44 i_45 i_46 i_47 i_48 i_49 f_2 f_3 f_4 f_5 f_6 f_7 z3_10_248 h1 h2 rv260 ry3_0_29_245 h5 h6 h7 h8 h9 h10 h11 h12 h13 h14 h15 h16 h17 h18 h19 h20 h21 h22 h23 h24 h25 h26 h27 h28 h29 h30 h31 h32 h33 h34 h35 h36 h37 h38 h39 h40 rz3_10_248 h42 h43 h44 h45 h46 h47 h48 h49 h50) (cwV 3 hts (mm_gV mm_w852 mm_w853 mm_w854 mm_w5 mm_w855) rfl rfl rfl hd_X12_reads ⟨by rw [hRf]; exact Nat.le_of_ble_eq_true rfl, by rw [hRl]; exact Nat.le_of_ble_eq_true rfl⟩) (mm_preV hK hZ hS hA hP hD [0, 3, 4, 5, 6, 7, 8, 9, 10] rfl rfl 0 rfl rfl rfl) rfl rfl hl.1 rfl (lv_room (Nat.le_of_ble_eq_true rfl)) dX12_isSo_30 ⟨by rw [hRc]; exact Nat.le_of_ble_eq_true rfl, by rw [hRs]; exact Nat.le_of_ble_eq_true rfl⟩) hP hD hS hA (fun u : Int32 × Int32 × Int32 × (Nat → Int32) => [(a_0, .inr (12, [.int i_3, .ref a_1, .ref a_2, .ref a_3, .ref a_4, .ref a_5, .int i_4, .int i_5, .int i_6, .int i_7, .int i_8, .long j_0, .int i_9, .int i_10, .int i_11, .int i_12, .ref a_6, .ref a_7, .ref a_8, .ref a_9, .ref a_10, .ref a_11, .ref a_12, .ref a_13, .ref a_14, .ref a_15, .ref a_16, .ref a_17, .ref a_18, .int u.1, .int u.2.1, .int u.2.2.1, .int i_16, .int i_17, .int i_18, .ref a_19, .int i_19, .ref a_20])), (a_2, .inl (cy 1, 4, .inl f_0)), (a_3, .inl (cy 2, 240, .inr (.inl f_1))), (a_7, .inl (cy 1, 30, .inl (mm_g [i_20, i_21, i_22, i_23, i_24, i_25, i_26, i_27, i_28, i_29, i_30, i_31, i_32, i_33, i_34, i_35, i_36, i_37, i_38, i_39, i_40, i_41, i_42, i_43, i_44, i_45, i_46, i_47, i_48, i_49]))), (a_8, .inl (cy 1, 90, .inl f_2)), (a_11, .inl (cy 1, 30, .inl f_3)), (a_12, .inl (cy 1, 240, .inl f_4)), (a_13, .inl (cy 1, 450, .inl f_5)), (a_15, .inl (cy 1, 7200, .inl f_6)), (a_16, .inl (cy 1, 3, .inl f_7)), (a_18, .inl (cy 1, 8, .inl u.2.2.2))]) [0, 3, 4, 5, 6, 7, 8, 9, 10] [1, 2] (n := 11) (fun _ => rfl) (by decide +kernel) (by decide +kernel) rfl (fun _ => rfl) (wr := [(a_2, .inl (cy 1, 4, .inl f_0)), (a_3, .inl (cy 2, 240, .inr (.inl f_1)))]) rfl (fun _ => rfl) (fun _ => @rfl _ ([a_0, a_7, a_8, a_11, a_12, a_13, a_15, a_16, a_18] : List Nat)) ?_
        clear hP hD hS
        clear H locs
        intro v265 u
        obtain ⟨n261, n262, n263, n264⟩ := u
        intro H locs hw (hP : va_P G vwCl [(a_0, .inr (12, [.int i_3, .ref a_1, .ref a_2, .ref a_3, .ref a_4, .ref a_5, .int i_4, .int i_5, .int i_6, .int i_7, .int i_8, .long j_0, .int i_9, .int i_10, .int i_11, .int i_12, .ref a_6, .ref a_7, .ref a_8, .ref a_9, .ref a_10, .ref a_11, .ref a_12, .ref a_13, .ref a_14, .ref a_15, .ref a_16, .ref a_17, .ref a_18, .int n261, .int n262, .int n263, .int i_16, .int i_17, .int i_18, .ref a_19, .int i_19, .ref a_20])), (a_2, .inl (cy 1, 4, .inl f_0)), (a_3, .inl (cy 2, 240, .inr (.inl f_1))), (a_7, .inl (cy 1, 30, .inl (mm_g [i_20, i_21, i_22, i_23, i_24, i_25, i_26, i_27, i_28, i_29, i_30, i_31, i_32, i_33, i_34, i_35, i_36, i_37, i_38, i_39, i_40, i_41, i_42, i_43, i_44, i_45, i_46, i_47, i_48, i_49]))), (a_8, .inl (cy 1, 90, .inl f_2)), (a_11, .inl (cy 1, 30, .inl f_3)), (a_12, .inl (cy 1, 240, .inl f_4)), (a_13, .inl (cy 1, 450, .inl f_5)), (a_15, .inl (cy 1, 7200, .inl f_6)), (a_16, .inl (cy 1, 3, .inl f_7)), (a_18, .inl (cy 1, 8, .inl n264))] H) (hD : va_D A [(a_0, .inr (12, [.int i_3, .ref a_1, .ref a_2, .ref a_3, .ref a_4, .ref a_5, .int i_4, .int i_5, .int i_6, .int i_7, .int i_8, .long j_0, .int i_9, .int i_10, .int i_11, .int i_12, .ref a_6, .ref a_7, .ref a_8, .ref a_9, .ref a_10, .ref a_11, .ref a_12, .ref a_13, .ref a_14, .ref a_15, .ref a_16, .ref a_17, .ref a_18, .int n261, .int n262, .int n263, .int i_16, .int i_17, .int i_18, .ref a_19, .int i_19, .ref a_20])), (a_2, .inl (cy 1, 4, .inl f_0)), (a_3, .inl (cy 2, 240, .inr (.inl f_1))), (a_7, .inl (cy 1, 30, .inl (mm_g [i_20, i_21, i_22, i_23, i_24, i_25, i_26, i_27, i_28, i_29, i_30, i_31, i_32, i_33, i_34, i_35, i_36, i_37, i_38, i_39, i_40, i_41, i_42, i_43, i_44, i_45, i_46, i_47, i_48, i_49]))), (a_8, .inl (cy 1, 90, .inl f_2)), (a_11, .inl (cy 1, 30, .inl f_3)), (a_12, .inl (cy 1, 240, .inl f_4)), (a_13, .inl (cy 1, 450, .inl f_5)), (a_15, .inl (cy 1, 7200, .inl f_6)), (a_16, .inl (cy 1, 3, .inl f_7)), (a_18, .inl (cy 1, 8, .inl n264))]) hS
        obtain ⟨w266, w267, hw⟩ := hw
        obtain ⟨w268, w269⟩ := hw
        replace w269 : mm_rd f_6 f_7 f_2 f_3 f_4 f_5 i_1 i_2 v260 i_21 i_22 i_25 v265 := w269
        obtain ⟨v270, ev270⟩ : ∃ y : Int64, y = v265.toInt64 := ⟨_, rfl⟩
        refine lv_i2l hx hb dX12_isSo_33 ev270.symm ?_
        have rv270 : mm_rl v270 0 9999 := mm_i2l ev270 w268
        refine lv_aload_n hx hb dX12_isSo_34 rfl (lv_at hl 1 rfl) ?_
        refine va_get (D := G) (ci := 12) (v := .ref a_3) (C := RX12) (T := TX12) (N := 38) hx hb hts (mm_i inlX12) hown hK.1 hP 0 rfl rfl 3 (by decide) (mm_h hts mm_w144) (fun _ h9 => h9) rfl dX12_isSo_35 ?_
        refine lv_bipush (v := 60) hx hb dX12_isSo_38 (by decide) ?_
        refine lv_iload_n hx hb dX12_isSo_40 rfl (lv_at hl 2 rfl) ?_
        refine lv_imul hx hb dX12_isSo_41 ?_
        refine lv_topi (fun v271 ev271 => ?_)
        have rv271 : mm_rg v271 0 180 := mm_mul ev271 mm_k60 h0 (by decide) (by decide)
        have tv271 := mm_mulEc ev271 mm_k60 h0 (by decide) (k := 60) (by decide)
        refine lv_iload hx hb dX12_isSo_42 (lv_at hl 0 rfl) ?_
        refine lv_iadd hx hb dX12_isSo_44 ?_
        refine lv_topi (fun v272 ev272 => ?_)
        have rv272 : mm_rg v272 0 238 := mm_add ev272 rv271 q255 (by decide) (by decide)
        have tv272 := mm_addE ev272 rv271 q255 (by decide)
        refine lv_iconst (v := 1) hx hb dX12_isSo_45 (by decide) ?_
        refine lv_iadd hx hb dX12_isSo_46 ?_
        refine lv_topi (fun v273 ev273 => ?_)
        have rv273 : mm_rg v273 1 239 := mm_add ev273 rv272 mm_k1 (by decide) (by decide)
        have tv273 := mm_addEc ev273 rv272 mm_k1 (by decide) (k := 1) (by decide)
        refine va_lald hx hb hK.1 hP 2 2 rfl rfl (mm_in rv273 (by decide)) dX12_isSo_47 ?_
        refine lv_topl (fun v274 ev274 => ?_)
        refine W.lcmp hx hb dX12_isSo_48 ?_
        refine lv_topi (fun v275 ev275 => ?_)
        refine lv_if_eq (tgt := 54) hx hb dX12_isSo_49 (by decide) (fun c276 => ?_) (fun c276 => ?_)
        · have q277 := mm_eqIl (lo := 0) (hi := 9999) (mm_cmp_eq ev275 c276).symm (mm_topl v274) rv270 (by decide)
          obtain ⟨v278, ev278⟩ : ∃ y : Int32, y = x3_4_244 + 2 := ⟨_, rfl⟩
          refine lv_iinc (v := v278) (lv' := [(4, .int v278), (0, .ref a_0), (1, .int i_0), (2, .int i_1), (3, .int i_2)]) hx hb dX12_isSo_54 hl (k := 0) rfl (by rw [ev278]; rfl) (by decide) rfl ?_
          clear hl
          clear ls
          intro ls hl
          have rv278 : mm_rg v278 2 60 := mm_add ev278 q255 mm_k2 (by decide) (by decide)
          have tv278 := mm_addEc ev278 q255 mm_k2 (by decide) (k := 2) (by decide)
          refine lv_goto (tgt := 3) hx hb dX12_isSo_57 (by decide) ?_
          exact ih3 v278 n261 n262 n263 n264 (mm_wk rv278 (by decide)) w266 w267 (mm_evn_s w249 tv278) (mm_mu hm3 tv278 (by decide) (rv278).2 (by decide)) H locs hP hD hS ls (lv_sub hl [0, 1, 2, 3, 4] rfl)
        · refine lv_iconst (v := 0) hx hb dX12_isSo_52 (by decide) ?_
          subst hAe
          rw [hQ]
          exact W.zret (v := 0) hx hb hr rfl (fun t ht hW => ⟨⟨0, (n261, n262, n263, n264), rfl, ⟨w266, w267, (Or.inl rfl)⟩, by rw [ht]; exact hP, hK.warm hW, hD⟩, hS.F ht⟩) hS.2.2 dX12_isSo_53
  exact L3_249 _ 0 i_13 i_14 i_15 f_8 (mm_wk mm_k0 (by decide)) h3 h41 mm_evn_0 (Nat.lt_succ_self _) H locs hP hD hS ls (lv_sub hl [0, 1, 2, 3, 4] rfl)

set_option maxHeartbeats 4000000 in
set_option maxRecDepth 100000 in
theorem M202_X12_laysTorn (l : Launch) (G : va_G) (cy : Nat → ClassId) (sz : Nat) (a_0 : Nat) (i_0 : Int32) (i_1 : Int32) (i_2 : Int32) (a_1 : Nat) (a_2 : Nat) (a_3 : Nat) (a_4 : Nat) (a_5 : Nat) (i_3 : Int32) (i_4 : Int32) (i_5 : Int32) (i_6 : Int32) (i_7 : Int32) (j_0 : Int64) (i_8 : Int32) (i_9 : Int32) (i_10 : Int32) (i_11 : Int32) (a_6 : Nat) (a_7 : Nat) (a_8 : Nat) (a_9 : Nat) (a_10 : Nat) (a_11 : Nat) (a_12 : Nat) (a_13 : Nat) (a_14 : Nat) (a_15 : Nat) (a_16 : Nat) (a_17 : Nat) (a_18 : Nat) (i_12 : Int32) (i_13 : Int32) (i_14 : Int32) (i_15 : Int32) (i_16 : Int32) (i_17 : Int32) (a_19 : Nat) (i_18 : Int32) (a_20 : Nat) (f_0 : Nat → Int32) (f_1 : Nat → Int64) (i_19 : Int32) (i_20 : Int32) (i_21 : Int32) (i_22 : Int32) (i_23 : Int32) (i_24 : Int32) (i_25 : Int32) (i_26 : Int32) (i_27 : Int32) (i_28 : Int32) (i_29 : Int32) (i_30 : Int32) (i_31 : Int32) (i_32 : Int32) (i_33 : Int32) (i_34 : Int32) (i_35 : Int32) (i_36 : Int32) (i_37 : Int32) (i_38 : Int32) (i_39 : Int32) (i_40 : Int32) (i_41 : Int32) (i_42 : Int32) (i_43 : Int32) (i_44 : Int32) (i_45 : Int32) (i_46 : Int32) (i_47 : Int32) (i_48 : Int32) (i_49 : Int32) (i_50 : Int32) (i_51 : Int32) (i_52 : Int32) (i_53 : Int32) (f_2 : Nat → Int32) (f_3 : Nat → Int32) (f_4 : Nat → Int32) (f_5 : Nat → Int32) (f_6 : Nat → Int32) (f_7 : Nat → Int32) (f_8 : Nat → Int32) (f_9 : Nat → Int32) (f_10 : Nat → Int32) (f_11 : Nat → Int32) (f_12 : Nat → Int32) (h0 : mm_rg i_0 0 3) (h1 : mm_rg i_1 0 2) (h2 : mm_rg i_12 0 8) (h3 : mm_ar f_0 0 60) (h4 : mm_rg i_19 0 601) (h5 : mm_rg i_20 0 601) (h6 : mm_rg i_21 0 601) (h7 : mm_rg i_22 0 601) (h8 : mm_rg i_23 0 601) (h9 : mm_rg i_24 0 10) (h10 : mm_rg i_25 0 99) (h11 : mm_rg i_26 0 9) (h12 : mm_rg i_27 0 3) (h13 : mm_rg i_28 0 6) (h14 : mm_rg i_29 0 30) (h15 : mm_rg i_30 0 10) (h16 : mm_rg i_31 0 99) (h17 : mm_rg i_32 0 9) (h18 : mm_rg i_33 0 3) (h19 : mm_rg i_34 0 6) (h20 : mm_rg i_35 0 30) (h21 : mm_rg i_36 0 10) (h22 : mm_rg i_37 0 99) (h23 : mm_rg i_38 0 9) (h24 : mm_rg i_39 0 3) (h25 : mm_rg i_40 0 6) (h26 : mm_rg i_41 0 30) (h27 : mm_rg i_42 0 10) (h28 : mm_rg i_43 0 99) (h29 : mm_rg i_44 0 9) (h30 : mm_rg i_45 0 3) (h31 : mm_rg i_46 0 6) (h32 : mm_rg i_47 0 30) (h33 : mm_rg i_48 0 10) (h34 : mm_rg i_49 0 99) (h35 : mm_rg i_50 0 9) (h36 : mm_rg i_51 0 3) (h37 : mm_rg i_52 0 6) (h38 : mm_rg i_53 0 30) (h39 : mm_ar f_2 0 99) (h40 : mm_ar f_3 0 7) (h41 : mm_ar f_4 0 9) (h42 : mm_ar f_5 0 8) (h43 : mm_ar f_6 0 9) (h44 : mm_ar f_7 (-1) 99) (h45 : mm_ar f_8 0 9) (h46 : mm_ar f_9 0 210) (h47 : mm_ar f_10 0 210) (h48 : mm_ar f_11 0 9) (h49 : mm_ar f_12 0 1) (h50 : mm_rls f_3 f_4 0 i_26 i_27) (h51 : mm_txs f_5 f_6 0 i_26 i_28) (h52 : mm_acs f_7 0 i_26 i_27 i_29) (h53 : mm_tl i_19 i_27 i_28) (h54 : mm_rls f_3 f_4 1 i_32 i_33) (h55 : mm_txs f_5 f_6 1 i_32 i_34) (h56 : mm_acs f_7 1 i_32 i_33 i_35) (h57 : mm_tl i_20 i_33 i_34) (h58 : mm_rls f_3 f_4 2 i_38 i_39) (h59 : mm_txs f_5 f_6 2 i_38 i_40) (h60 : mm_acs f_7 2 i_38 i_39 i_41) (h61 : mm_tl i_21 i_39 i_40) (h62 : mm_rls f_3 f_4 3 i_44 i_45) (h63 : mm_txs f_5 f_6 3 i_44 i_46) (h64 : mm_acs f_7 3 i_44 i_45 i_47) (h65 : mm_tl i_22 i_45 i_46) (h66 : (i_1 : Int32).toInt < (i_27 : Int32).toInt) (h67 : mm_wn f_1 f_0 i_0 i_28)  : mm_CV l yX12_laysTorn (mm_ws yX12_laysTorn cX12_laysTorn 4 (none)) ({ frames := 14, cells := 0, slots := 0, locals := 300 } : Room) G cy sz [(a_0, .inr (12, [.int i_2, .ref a_1, .ref a_2, .ref a_3, .ref a_4, .ref a_5, .int i_3, .int i_4, .int i_5, .int i_6, .int i_7, .long j_0, .int i_8, .int i_9, .int i_10, .int i_11, .ref a_6, .ref a_7, .ref a_8, .ref a_9, .ref a_10, .ref a_11, .ref a_12, .ref a_13, .ref a_14, .ref a_15, .ref a_16, .ref a_17, .ref a_18, .int i_12, .int i_13, .int i_14, .int i_15, .int i_16, .int i_17, .ref a_19, .int i_18, .ref a_20])), (a_2, .inl (cy 1, 4, .inl f_0)), (a_3, .inl (cy 2, 240, .inr (.inl f_1))), (a_6, .inl (cy 1, 5, .inl (mm_g [i_19, i_20, i_21, i_22, i_23]))), (a_7, .inl (cy 1, 30, .inl (mm_g [i_24, i_25, i_26, i_27, i_28, i_29, i_30, i_31, i_32, i_33, i_34, i_35, i_36, i_37, i_38, i_39, i_40, i_41, i_42, i_43, i_44, i_45, i_46, i_47, i_48, i_49, i_50, i_51, i_52, i_53]))), (a_8, .inl (cy 1, 90, .inl f_2)), (a_9, .inl (cy 1, 15, .inl f_3)), (a_10, .inl (cy 1, 1050, .inl f_4)), (a_11, .inl (cy 1, 30, .inl f_5)), (a_12, .inl (cy 1, 240, .inl f_6)), (a_13, .inl (cy 1, 450, .inl f_7)), (a_15, .inl (cy 1, 7200, .inl f_8)), (a_16, .inl (cy 1, 3, .inl f_9)), (a_17, .inl (cy 1, 3, .inl f_10)), (a_18, .inl (cy 1, 8, .inl f_11)), (a_19, .inl (cy 3, 240, .inl f_12))] [.ref a_0, .int i_0, .int i_1] (fun u : Int32 × Int32 × Int32 × Int32 × (Nat → Int32) × (Nat → Int32) × (Nat → Int32) × (Nat → Int32) × (Nat → Int32) => [(a_0, .inr (12, [.int i_2, .ref a_1, .ref a_2, .ref a_3, .ref a_4, .ref a_5, .int i_3, .int i_4, .int i_5, .int i_6, .int i_7, .long j_0, .int i_8, .int i_9, .int i_10, .int i_11, .ref a_6, .ref a_7, .ref a_8, .ref a_9, .ref a_10, .ref a_11, .ref a_12, .ref a_13, .ref a_14, .ref a_15, .ref a_16, .ref a_17, .ref a_18, .int u.1, .int u.2.1, .int u.2.2.1, .int u.2.2.2.1, .int i_16, .int i_17, .ref a_19, .int i_18, .ref a_20])), (a_2, .inl (cy 1, 4, .inl f_0)), (a_3, .inl (cy 2, 240, .inr (.inl f_1))), (a_6, .inl (cy 1, 5, .inl (mm_g [i_19, i_20, i_21, i_22, i_23]))), (a_7, .inl (cy 1, 30, .inl (mm_g [i_24, i_25, i_26, i_27, i_28, i_29, i_30, i_31, i_32, i_33, i_34, i_35, i_36, i_37, i_38, i_39, i_40, i_41, i_42, i_43, i_44, i_45, i_46, i_47, i_48, i_49, i_50, i_51, i_52, i_53]))), (a_8, .inl (cy 1, 90, .inl f_2)), (a_9, .inl (cy 1, 15, .inl f_3)), (a_10, .inl (cy 1, 1050, .inl f_4)), (a_11, .inl (cy 1, 30, .inl f_5)), (a_12, .inl (cy 1, 240, .inl f_6)), (a_13, .inl (cy 1, 450, .inl f_7)), (a_15, .inl (cy 1, 7200, .inl u.2.2.2.2.1)), (a_16, .inl (cy 1, 3, .inl u.2.2.2.2.2.1)), (a_17, .inl (cy 1, 3, .inl u.2.2.2.2.2.2.1)), (a_18, .inl (cy 1, 8, .inl u.2.2.2.2.2.2.2.1)), (a_19, .inl (cy 3, 240, .inl u.2.2.2.2.2.2.2.2))]) (fun u : Int32 × Int32 × Int32 × Int32 × (Nat → Int32) × (Nat → Int32) × (Nat → Int32) × (Nat → Int32) × (Nat → Int32) => mm_rg u.1 0 8 ∧ mm_ar u.2.2.2.2.1 0 9 ∧ mm_ar u.2.2.2.2.2.1 0 210 ∧ mm_ar u.2.2.2.2.2.2.1 0 210 ∧ mm_ar u.2.2.2.2.2.2.2.1 0 9 ∧ mm_ar u.2.2.2.2.2.2.2.2 0 1 ∧ mm_laid u.2.2.2.2.2.1 u.2.2.2.2.2.2.1 i_27) 0 0 := by
  refine mm_begin (lv := [(0, .ref a_0), (1, .int i_0), (2, .int i_1)]) (by decide) (Nat.le_of_ble_eq_true rfl) rfl ?_
  intro p e s m below meth c A ls R args Q H locs hRe hQ hAe hx hb hr hlocks hml hown hnm hts hsz hA hS hP hK hD hZ hl
  have hRf : R.frames = 14 := by rw [hRe]
  have hRl : R.locals = 300 := by rw [hRe]
  have hRc : R.cells = 0 := by rw [hRe]
  have hRs : R.slots = 0 := by rw [hRe]
  have q1 := mm_ltR (lo := 1) h66 h1 h12 (by decide)
  have q2 : mm_rg i_19 1 601 := mm_tl_3 h53 q1 h4 (by decide)
  refine lv_aload_n hx hb dX12_laysTorn_0 rfl (lv_at hl 0 rfl) ?_
  refine mm_finv (va_runV (As := []) (rest := []) ⟨hx, hb, hml, hown, hts⟩ (M125_X12_lays l G cy H.size a_0 i_2 a_1 a_2 a_3 a_4 a_5 i_3 i_4 i_5 i_6 i_7 j_0 i_8 i_9 i_10 i_11 a_6 a_7 a_8 a_9 a_10 a_11 a_12 a_13 a_14 a_15 a_16 a_17 a_18 i_12 i_13 i_14 i_15 i_16 i_17 a_19 i_18 a_20 i_19 i_20 i_21 i_22 i_23 i_24 i_25 i_26 i_27 i_28 i_29 i_30 i_31 i_32 i_33 i_34 i_35 i_36 i_37 i_38 i_39 i_40 i_41 i_42 i_43 i_44 i_45 i_46 i_47 i_48 i_49 i_50 i_51 i_52 i_53 f_3 f_4 f_7 f_8 f_9 f_10 (mm_wk q2 (by decide)) h5 h6 h7 h8 h9 h10 h11 (mm_wk q1 (by decide)) h13 h14 h15 h16 h17 h18 h19 h20 h21 h22 h23 h24 h25 h26 h27 h28 h29 h30 h31 h32 h33 h34 h35 h36 h37 h38 h40 h41 h44 h45 h46 h47 h50 h52 h53 h54 h56 h57 h58 h60 h61 h62 h64 h65) (cwV 0 hts (mm_gV mm_w686 mm_w687 mm_w688 mm_w5 mm_w689) rfl rfl rfl hd_X12_lays ⟨by rw [hRf]; exact Nat.le_of_ble_eq_true rfl, by rw [hRl]; exact Nat.le_of_ble_eq_true rfl⟩) (mm_preV hK hZ hS hA hP hD [0, 3, 4, 6, 7, 10, 11, 12, 13] rfl rfl 0 rfl rfl rfl) rfl rfl hl.1 rfl (lv_room (Nat.le_of_ble_eq_true rfl)) dX12_laysTorn_1 ⟨by rw [hRc]; exact Nat.le_of_ble_eq_true rfl, by rw [hRs]; exact Nat.le_of_ble_eq_true rfl⟩) hP hD hS hA (fun u : (Nat → Int32) × (Nat → Int32) × (Nat → Int32) => [(a_0, .inr (12, [.int i_2, .ref a_1, .ref a_2, .ref a_3, .ref a_4, .ref a_5, .int i_3, .int i_4, .int i_5, .int i_6, .int i_7, .long j_0, .int i_8, .int i_9, .int i_10, .int i_11, .ref a_6, .ref a_7, .ref a_8, .ref a_9, .ref a_10, .ref a_11, .ref a_12, .ref a_13, .ref a_14, .ref a_15, .ref a_16, .ref a_17, .ref a_18, .int i_12, .int i_13, .int i_14, .int i_15, .int i_16, .int i_17, .ref a_19, .int i_18, .ref a_20])), (a_2, .inl (cy 1, 4, .inl f_0)), (a_3, .inl (cy 2, 240, .inr (.inl f_1))), (a_6, .inl (cy 1, 5, .inl (mm_g [i_19, i_20, i_21, i_22, i_23]))), (a_7, .inl (cy 1, 30, .inl (mm_g [i_24, i_25, i_26, i_27, i_28, i_29, i_30, i_31, i_32, i_33, i_34, i_35, i_36, i_37, i_38, i_39, i_40, i_41, i_42, i_43, i_44, i_45, i_46, i_47, i_48, i_49, i_50, i_51, i_52, i_53]))), (a_8, .inl (cy 1, 90, .inl f_2)), (a_9, .inl (cy 1, 15, .inl f_3)), (a_10, .inl (cy 1, 1050, .inl f_4)), (a_11, .inl (cy 1, 30, .inl f_5)), (a_12, .inl (cy 1, 240, .inl f_6)), (a_13, .inl (cy 1, 450, .inl f_7)), (a_15, .inl (cy 1, 7200, .inl u.1)), (a_16, .inl (cy 1, 3, .inl u.2.1)), (a_17, .inl (cy 1, 3, .inl u.2.2)), (a_18, .inl (cy 1, 8, .inl f_11)), (a_19, .inl (cy 3, 240, .inl f_12))]) [0, 3, 4, 6, 7, 10, 11, 12, 13] [1, 2, 5, 8, 9, 14, 15] (n := 16) (fun _ => rfl) (by decide +kernel) (by decide +kernel) rfl (fun _ => rfl) (wr := [(a_2, .inl (cy 1, 4, .inl f_0)), (a_3, .inl (cy 2, 240, .inr (.inl f_1))), (a_8, .inl (cy 1, 90, .inl f_2)), (a_11, .inl (cy 1, 30, .inl f_5)), (a_12, .inl (cy 1, 240, .inl f_6)), (a_18, .inl (cy 1, 8, .inl f_11)), (a_19, .inl (cy 3, 240, .inl f_12))]) rfl (fun _ => rfl) (fun _ => @rfl _ ([a_0, a_6, a_7, a_9, a_10, a_13, a_15, a_16, a_17] : List Nat)) ?_
  clear hP hD hS
  clear H locs
  intro u
  obtain ⟨n3, n4, n5⟩ := u
  intro H locs hw (hP : va_P G vwCl [(a_0, .inr (12, [.int i_2, .ref a_1, .ref a_2, .ref a_3, .ref a_4, .ref a_5, .int i_3, .int i_4, .int i_5, .int i_6, .int i_7, .long j_0, .int i_8, .int i_9, .int i_10, .int i_11, .ref a_6, .ref a_7, .ref a_8, .ref a_9, .ref a_10, .ref a_11, .ref a_12, .ref a_13, .ref a_14, .ref a_15, .ref a_16, .ref a_17, .ref a_18, .int i_12, .int i_13, .int i_14, .int i_15, .int i_16, .int i_17, .ref a_19, .int i_18, .ref a_20])), (a_2, .inl (cy 1, 4, .inl f_0)), (a_3, .inl (cy 2, 240, .inr (.inl f_1))), (a_6, .inl (cy 1, 5, .inl (mm_g [i_19, i_20, i_21, i_22, i_23]))), (a_7, .inl (cy 1, 30, .inl (mm_g [i_24, i_25, i_26, i_27, i_28, i_29, i_30, i_31, i_32, i_33, i_34, i_35, i_36, i_37, i_38, i_39, i_40, i_41, i_42, i_43, i_44, i_45, i_46, i_47, i_48, i_49, i_50, i_51, i_52, i_53]))), (a_8, .inl (cy 1, 90, .inl f_2)), (a_9, .inl (cy 1, 15, .inl f_3)), (a_10, .inl (cy 1, 1050, .inl f_4)), (a_11, .inl (cy 1, 30, .inl f_5)), (a_12, .inl (cy 1, 240, .inl f_6)), (a_13, .inl (cy 1, 450, .inl f_7)), (a_15, .inl (cy 1, 7200, .inl n3)), (a_16, .inl (cy 1, 3, .inl n4)), (a_17, .inl (cy 1, 3, .inl n5)), (a_18, .inl (cy 1, 8, .inl f_11)), (a_19, .inl (cy 3, 240, .inl f_12))] H) (hD : va_D A [(a_0, .inr (12, [.int i_2, .ref a_1, .ref a_2, .ref a_3, .ref a_4, .ref a_5, .int i_3, .int i_4, .int i_5, .int i_6, .int i_7, .long j_0, .int i_8, .int i_9, .int i_10, .int i_11, .ref a_6, .ref a_7, .ref a_8, .ref a_9, .ref a_10, .ref a_11, .ref a_12, .ref a_13, .ref a_14, .ref a_15, .ref a_16, .ref a_17, .ref a_18, .int i_12, .int i_13, .int i_14, .int i_15, .int i_16, .int i_17, .ref a_19, .int i_18, .ref a_20])), (a_2, .inl (cy 1, 4, .inl f_0)), (a_3, .inl (cy 2, 240, .inr (.inl f_1))), (a_6, .inl (cy 1, 5, .inl (mm_g [i_19, i_20, i_21, i_22, i_23]))), (a_7, .inl (cy 1, 30, .inl (mm_g [i_24, i_25, i_26, i_27, i_28, i_29, i_30, i_31, i_32, i_33, i_34, i_35, i_36, i_37, i_38, i_39, i_40, i_41, i_42, i_43, i_44, i_45, i_46, i_47, i_48, i_49, i_50, i_51, i_52, i_53]))), (a_8, .inl (cy 1, 90, .inl f_2)), (a_9, .inl (cy 1, 15, .inl f_3)), (a_10, .inl (cy 1, 1050, .inl f_4)), (a_11, .inl (cy 1, 30, .inl f_5)), (a_12, .inl (cy 1, 240, .inl f_6)), (a_13, .inl (cy 1, 450, .inl f_7)), (a_15, .inl (cy 1, 7200, .inl n3)), (a_16, .inl (cy 1, 3, .inl n4)), (a_17, .inl (cy 1, 3, .inl n5)), (a_18, .inl (cy 1, 8, .inl f_11)), (a_19, .inl (cy 3, 240, .inl f_12))]) hS
  obtain ⟨w6, w7, w8, w9, w10⟩ := hw
  replace w9 : mm_laid n4 n5 i_27 := w9
  replace w10 : mm_tab n3 n4 i_26 i_27 := w10
  refine lv_aload_n hx hb dX12_laysTorn_4 rfl (lv_at hl 0 rfl) ?_
  refine lv_iconst (v := 0) hx hb dX12_laysTorn_5 (by decide) ?_
  refine va_put (D := G) (ci := 12) (v := .int 0) (ty := tyX12 32) (C := RX12) (T := TX12) (N := 38) hx hb hts (mm_i inlX12) tyX12 tyX12_ok nmX12 hown hK.1 hP hD hS 0 rfl rfl 32 (by decide) (mm_h hts mm_w1264) (fun _ h9 => h9) rfl (tyX12_ok 32 (by decide)) rfl rfl (Nat.le_of_ble_eq_true rfl) dX12_laysTorn_6 ?_
  clear hP hD hS
  clear H locs
  intro H locs (hP : va_P G vwCl [(a_0, .inr (12, [.int i_2, .ref a_1, .ref a_2, .ref a_3, .ref a_4, .ref a_5, .int i_3, .int i_4, .int i_5, .int i_6, .int i_7, .long j_0, .int i_8, .int i_9, .int i_10, .int i_11, .ref a_6, .ref a_7, .ref a_8, .ref a_9, .ref a_10, .ref a_11, .ref a_12, .ref a_13, .ref a_14, .ref a_15, .ref a_16, .ref a_17, .ref a_18, .int i_12, .int i_13, .int i_14, .int 0, .int i_16, .int i_17, .ref a_19, .int i_18, .ref a_20])), (a_2, .inl (cy 1, 4, .inl f_0)), (a_3, .inl (cy 2, 240, .inr (.inl f_1))), (a_6, .inl (cy 1, 5, .inl (mm_g [i_19, i_20, i_21, i_22, i_23]))), (a_7, .inl (cy 1, 30, .inl (mm_g [i_24, i_25, i_26, i_27, i_28, i_29, i_30, i_31, i_32, i_33, i_34, i_35, i_36, i_37, i_38, i_39, i_40, i_41, i_42, i_43, i_44, i_45, i_46, i_47, i_48, i_49, i_50, i_51, i_52, i_53]))), (a_8, .inl (cy 1, 90, .inl f_2)), (a_9, .inl (cy 1, 15, .inl f_3)), (a_10, .inl (cy 1, 1050, .inl f_4)), (a_11, .inl (cy 1, 30, .inl f_5)), (a_12, .inl (cy 1, 240, .inl f_6)), (a_13, .inl (cy 1, 450, .inl f_7)), (a_15, .inl (cy 1, 7200, .inl n3)), (a_16, .inl (cy 1, 3, .inl n4)), (a_17, .inl (cy 1, 3, .inl n5)), (a_18, .inl (cy 1, 8, .inl f_11)), (a_19, .inl (cy 3, 240, .inl f_12))] H) (hD : va_D A [(a_0, .inr (12, [.int i_2, .ref a_1, .ref a_2, .ref a_3, .ref a_4, .ref a_5, .int i_3, .int i_4, .int i_5, .int i_6, .int i_7, .long j_0, .int i_8, .int i_9, .int i_10, .int i_11, .ref a_6, .ref a_7, .ref a_8, .ref a_9, .ref a_10, .ref a_11, .ref a_12, .ref a_13, .ref a_14, .ref a_15, .ref a_16, .ref a_17, .ref a_18, .int i_12, .int i_13, .int i_14, .int 0, .int i_16, .int i_17, .ref a_19, .int i_18, .ref a_20])), (a_2, .inl (cy 1, 4, .inl f_0)), (a_3, .inl (cy 2, 240, .inr (.inl f_1))), (a_6, .inl (cy 1, 5, .inl (mm_g [i_19, i_20, i_21, i_22, i_23]))), (a_7, .inl (cy 1, 30, .inl (mm_g [i_24, i_25, i_26, i_27, i_28, i_29, i_30, i_31, i_32, i_33, i_34, i_35, i_36, i_37, i_38, i_39, i_40, i_41, i_42, i_43, i_44, i_45, i_46, i_47, i_48, i_49, i_50, i_51, i_52, i_53]))), (a_8, .inl (cy 1, 90, .inl f_2)), (a_9, .inl (cy 1, 15, .inl f_3)), (a_10, .inl (cy 1, 1050, .inl f_4)), (a_11, .inl (cy 1, 30, .inl f_5)), (a_12, .inl (cy 1, 240, .inl f_6)), (a_13, .inl (cy 1, 450, .inl f_7)), (a_15, .inl (cy 1, 7200, .inl n3)), (a_16, .inl (cy 1, 3, .inl n4)), (a_17, .inl (cy 1, 3, .inl n5)), (a_18, .inl (cy 1, 8, .inl f_11)), (a_19, .inl (cy 3, 240, .inl f_12))]) hS
  refine lv_iconst (v := 0) hx hb dX12_laysTorn_9 (by decide) ?_
  refine lv_istore_n (lv' := [(3, .int 0), (0, .ref a_0), (1, .int i_0), (2, .int i_1)]) hx hb dX12_laysTorn_10 rfl hl (by decide) rfl ?_
  clear hl
  clear ls
  intro ls hl
  have L11_731 : ∀ (n : Nat) (x11_3_725 : Int32) (y11_0_29_726 : Int32) (y11_0_30_727 : Int32) (y11_0_31_728 : Int32) (y11_0_32_729 : Int32) (z11_14_730 : Nat → Int32) (z11_15_731 : Nat → Int32), mm_rg x11_3_725 0 210 → mm_rg y11_0_29_726 0 8 → mm_ar z11_14_730 0 9 → mm_ar z11_15_731 0 1 → (210 - x11_3_725.toInt).toNat < n → ∀ (H : Heap) (locs : List Loc), va_P G vwCl [(a_0, .inr (12, [.int i_2, .ref a_1, .ref a_2, .ref a_3, .ref a_4, .ref a_5, .int i_3, .int i_4, .int i_5, .int i_6, .int i_7, .long j_0, .int i_8, .int i_9, .int i_10, .int i_11, .ref a_6, .ref a_7, .ref a_8, .ref a_9, .ref a_10, .ref a_11, .ref a_12, .ref a_13, .ref a_14, .ref a_15, .ref a_16, .ref a_17, .ref a_18, .int y11_0_29_726, .int y11_0_30_727, .int y11_0_31_728, .int y11_0_32_729, .int i_16, .int i_17, .ref a_19, .int i_18, .ref a_20])), (a_2, .inl (cy 1, 4, .inl f_0)), (a_3, .inl (cy 2, 240, .inr (.inl f_1))), (a_6, .inl (cy 1, 5, .inl (mm_g [i_19, i_20, i_21, i_22, i_23]))), (a_7, .inl (cy 1, 30, .inl (mm_g [i_24, i_25, i_26, i_27, i_28, i_29, i_30, i_31, i_32, i_33, i_34, i_35, i_36, i_37, i_38, i_39, i_40, i_41, i_42, i_43, i_44, i_45, i_46, i_47, i_48, i_49, i_50, i_51, i_52, i_53]))), (a_8, .inl (cy 1, 90, .inl f_2)), (a_9, .inl (cy 1, 15, .inl f_3)), (a_10, .inl (cy 1, 1050, .inl f_4)), (a_11, .inl (cy 1, 30, .inl f_5)), (a_12, .inl (cy 1, 240, .inl f_6)), (a_13, .inl (cy 1, 450, .inl f_7)), (a_15, .inl (cy 1, 7200, .inl n3)), (a_16, .inl (cy 1, 3, .inl n4)), (a_17, .inl (cy 1, 3, .inl n5)), (a_18, .inl (cy 1, 8, .inl z11_14_730)), (a_19, .inl (cy 3, 240, .inl z11_15_731))] H → va_D A [(a_0, .inr (12, [.int i_2, .ref a_1, .ref a_2, .ref a_3, .ref a_4, .ref a_5, .int i_3, .int i_4, .int i_5, .int i_6, .int i_7, .long j_0, .int i_8, .int i_9, .int i_10, .int i_11, .ref a_6, .ref a_7, .ref a_8, .ref a_9, .ref a_10, .ref a_11, .ref a_12, .ref a_13, .ref a_14, .ref a_15, .ref a_16, .ref a_17, .ref a_18, .int y11_0_29_726, .int y11_0_30_727, .int y11_0_31_728, .int y11_0_32_729, .int i_16, .int i_17, .ref a_19, .int i_18, .ref a_20])), (a_2, .inl (cy 1, 4, .inl f_0)), (a_3, .inl (cy 2, 240, .inr (.inl f_1))), (a_6, .inl (cy 1, 5, .inl (mm_g [i_19, i_20, i_21, i_22, i_23]))), (a_7, .inl (cy 1, 30, .inl (mm_g [i_24, i_25, i_26, i_27, i_28, i_29, i_30, i_31, i_32, i_33, i_34, i_35, i_36, i_37, i_38, i_39, i_40, i_41, i_42, i_43, i_44, i_45, i_46, i_47, i_48, i_49, i_50, i_51, i_52, i_53]))), (a_8, .inl (cy 1, 90, .inl f_2)), (a_9, .inl (cy 1, 15, .inl f_3)), (a_10, .inl (cy 1, 1050, .inl f_4)), (a_11, .inl (cy 1, 30, .inl f_5)), (a_12, .inl (cy 1, 240, .inl f_6)), (a_13, .inl (cy 1, 450, .inl f_7)), (a_15, .inl (cy 1, 7200, .inl n3)), (a_16, .inl (cy 1, 3, .inl n4)), (a_17, .inl (cy 1, 3, .inl n5)), (a_18, .inl (cy 1, 8, .inl z11_14_730)), (a_19, .inl (cy 3, 240, .inl z11_15_731))] → va_S A s.heap H locs → ∀ (ls : Array Slot), lv_has ls 4 [(3, .int x11_3_725), (0, .ref a_0), (1, .int i_0), (2, .int i_1)] → W p l e R s m args below meth c H locs 0 0 Q (F0 m 11 ls []) := by
    intro n
    induction n with
    | zero => intro x11_3_725 y11_0_29_726 y11_0_30_727 y11_0_31_728 y11_0_32_729 z11_14_730 z11_15_731 rx11_3_725 ry11_0_29_726 rz11_14_730 rz11_15_731 hm; exact absurd hm (Nat.not_lt_zero _)
    | succ n ih11 =>
      intro x11_3_725 y11_0_29_726 y11_0_30_727 y11_0_31_728 y11_0_32_729 z11_14_730 z11_15_731 rx11_3_725 ry11_0_29_726 rz11_14_730 rz11_15_731 hm11 H locs hP hD hS ls hl
      refine lv_iload_n hx hb dX12_laysTorn_11 rfl (lv_at hl 0 rfl) ?_
      refine lv_aload_n hx hb dX12_laysTorn_12 rfl (lv_at hl 1 rfl) ?_
      refine va_get (D := G) (ci := 12) (v := .ref a_17) (C := RX12) (T := TX12) (N := 38) hx hb hts (mm_i inlX12) hown hK.1 hP 0 rfl rfl 27 (by decide) (mm_h hts mm_w159) (fun _ h9 => h9) rfl dX12_laysTorn_13 ?_
      refine lv_iload_n hx hb dX12_laysTorn_16 rfl (lv_at hl 3 rfl) ?_
      refine va_iald hx hb hK.1 hP 13 1 rfl rfl (mm_in h1 (by decide)) dX12_laysTorn_17 ?_
      refine lv_topi (fun v733 ev733 => ?_)
      have rv733 : mm_rg v733 0 210 := mm_eqv ev733 (w8 _)
      have q734 : mm_rg v733 1 210 := mm_laid_ld1 w9 h66 ev733 h1 rv733 (by decide)
      refine lv_icmp_ge (tgt := 63) hx hb dX12_laysTorn_18 (by decide) (fun c735 => ?_) (fun c735 => ?_)
      · have q736 := mm_leR (mm_le c735) q734 rx11_3_725
        subst hAe
        rw [hQ]
        exact W.vret hx hb hr (fun t ht hW => ⟨⟨(y11_0_29_726, y11_0_30_727, y11_0_31_728, y11_0_32_729, n3, n4, n5, z11_14_730, z11_15_731), rfl, ⟨ry11_0_29_726, w6, w7, w8, rz11_14_730, rz11_15_731, w9⟩, by rw [ht]; exact hP, hK.warm hW, hD⟩, hS.F ht⟩) hS.2.2 dX12_laysTorn_63
      · have q737 := mm_ltL (h := 209) (mm_nle c735) rx11_3_725 q734 (by decide)
        refine lv_aload_n hx hb dX12_laysTorn_21 rfl (lv_at hl 1 rfl) ?_
        refine va_get (D := G) (ci := 12) (v := .ref a_19) (C := RX12) (T := TX12) (N := 38) hx hb hts (mm_i inlX12) hown hK.1 hP 0 rfl rfl 35 (by decide) (mm_h hts mm_w161) (fun _ h9 => h9) rfl dX12_laysTorn_22 ?_
        refine lv_iload_n hx hb dX12_laysTorn_25 rfl (lv_at hl 0 rfl) ?_
        refine lv_aload_n hx hb dX12_laysTorn_26 rfl (lv_at hl 1 rfl) ?_
        refine lv_iload_n hx hb dX12_laysTorn_27 rfl (lv_at hl 2 rfl) ?_
        refine lv_iload_n hx hb dX12_laysTorn_28 rfl (lv_at hl 3 rfl) ?_
        refine lv_iload_n hx hb dX12_laysTorn_29 rfl (lv_at hl 0 rfl) ?_
        refine mm_fini (va_runV (As := [.int i_0, .int i_1, .int x11_3_725]) (rest := [.int x11_3_725, .ref a_19]) ⟨hx, hb, hml, hown, hts⟩ (M201_X12_isSo l G cy H.size a_0 i_0 i_1 x11_3_725 i_2 a_1 a_2 a_3 a_4 a_5 i_3 i_4 i_5 i_6 i_7 j_0 i_8 i_9 i_10 i_11 a_6 a_7 a_8 a_9 a_10 a_11 a_12 a_13 a_14 a_15 a_16 a_17 a_18 y11_0_29_726 y11_0_30_727 y11_0_31_728 y11_0_32_729 i_16 i_17 a_19 i_18 a_20 f_0 f_1 i_24 i_25 i_26 i_27 i_28 i_29 i_30 i_31 i_32 i_33 i_34 i_35 i_36 i_37 i_38 i_39 i_40 i_41 i_42 i_43 i_44 i_45 i_46 i_47 i_48 i_49 i_50 i_51 i_52 i_53 f_2 f_5 f_6 f_7 n3 n4 z11_14_730 h0 h1 (mm_wk q737 (by decide)) ry11_0_29_726 h3 h9 h10 h11 (mm_wk q1 (by decide)) h13 h14 h15 h16 h17 h18 h19 h20 h21 h22 h23 h24 h25 h26 h27 h28 h29 h30 h31 h32 h33 h34 h35 h36 h37 h38 h39 h42 h43 h44 w6 w7 rz11_14_730 h51 h52 h55 h56 h59 h60 h63 h64 (mm_f1_l w9 h66 h1 (by decide)) h67) (cwV 3 hts (mm_gV mm_w1277 mm_w1278 mm_w1279 mm_w5 mm_w1280) rfl rfl rfl hd_X12_isSo ⟨by rw [hRf]; exact Nat.le_of_ble_eq_true rfl, by rw [hRl]; exact Nat.le_of_ble_eq_true rfl⟩) (mm_preV hK hZ hS hA hP hD [0, 1, 2, 4, 5, 8, 9, 10, 11, 12, 14] rfl rfl 0 rfl rfl rfl) rfl rfl hl.1 rfl (lv_room (Nat.le_of_ble_eq_true rfl)) dX12_laysTorn_30 ⟨by rw [hRc]; exact Nat.le_of_ble_eq_true rfl, by rw [hRs]; exact Nat.le_of_ble_eq_true rfl⟩) hP hD hS hA (fun u : Int32 × Int32 × Int32 × (Nat → Int32) => [(a_0, .inr (12, [.int i_2, .ref a_1, .ref a_2, .ref a_3, .ref a_4, .ref a_5, .int i_3, .int i_4, .int i_5, .int i_6, .int i_7, .long j_0, .int i_8, .int i_9, .int i_10, .int i_11, .ref a_6, .ref a_7, .ref a_8, .ref a_9, .ref a_10, .ref a_11, .ref a_12, .ref a_13, .ref a_14, .ref a_15, .ref a_16, .ref a_17, .ref a_18, .int u.1, .int u.2.1, .int u.2.2.1, .int y11_0_32_729, .int i_16, .int i_17, .ref a_19, .int i_18, .ref a_20])), (a_2, .inl (cy 1, 4, .inl f_0)), (a_3, .inl (cy 2, 240, .inr (.inl f_1))), (a_6, .inl (cy 1, 5, .inl (mm_g [i_19, i_20, i_21, i_22, i_23]))), (a_7, .inl (cy 1, 30, .inl (mm_g [i_24, i_25, i_26, i_27, i_28, i_29, i_30, i_31, i_32, i_33, i_34, i_35, i_36, i_37, i_38, i_39, i_40, i_41, i_42, i_43, i_44, i_45, i_46, i_47, i_48, i_49, i_50, i_51, i_52, i_53]))), (a_8, .inl (cy 1, 90, .inl f_2)), (a_9, .inl (cy 1, 15, .inl f_3)), (a_10, .inl (cy 1, 1050, .inl f_4)), (a_11, .inl (cy 1, 30, .inl f_5)), (a_12, .inl (cy 1, 240, .inl f_6)), (a_13, .inl (cy 1, 450, .inl f_7)), (a_15, .inl (cy 1, 7200, .inl n3)), (a_16, .inl (cy 1, 3, .inl n4)), (a_17, .inl (cy 1, 3, .inl n5)), (a_18, .inl (cy 1, 8, .inl u.2.2.2)), (a_19, .inl (cy 3, 240, .inl z11_15_731))]) [0, 1, 2, 4, 5, 8, 9, 10, 11, 12, 14] [3, 6, 7, 13, 15] (n := 16) (fun _ => rfl) (by decide +kernel) (by decide +kernel) rfl (fun _ => rfl) (wr := [(a_6, .inl (cy 1, 5, .inl (mm_g [i_19, i_20, i_21, i_22, i_23]))), (a_9, .inl (cy 1, 15, .inl f_3)), (a_10, .inl (cy 1, 1050, .inl f_4)), (a_17, .inl (cy 1, 3, .inl n5)), (a_19, .inl (cy 3, 240, .inl z11_15_731))]) rfl (fun _ => rfl) (fun _ => @rfl _ ([a_0, a_2, a_3, a_7, a_8, a_11, a_12, a_13, a_15, a_16, a_18] : List Nat)) ?_
        clear hP hD hS
        clear H locs
        intro v742 u
        obtain ⟨n738, n739, n740, n741⟩ := u
        intro H locs hw (hP : va_P G vwCl [(a_0, .inr (12, [.int i_2, .ref a_1, .ref a_2, .ref a_3, .ref a_4, .ref a_5, .int i_3, .int i_4, .int i_5, .int i_6, .int i_7, .long j_0, .int i_8, .int i_9, .int i_10, .int i_11, .ref a_6, .ref a_7, .ref a_8, .ref a_9, .ref a_10, .ref a_11, .ref a_12, .ref a_13, .ref a_14, .ref a_15, .ref a_16, .ref a_17, .ref a_18, .int n738, .int n739, .int n740, .int y11_0_32_729, .int i_16, .int i_17, .ref a_19, .int i_18, .ref a_20])), (a_2, .inl (cy 1, 4, .inl f_0)), (a_3, .inl (cy 2, 240, .inr (.inl f_1))), (a_6, .inl (cy 1, 5, .inl (mm_g [i_19, i_20, i_21, i_22, i_23]))), (a_7, .inl (cy 1, 30, .inl (mm_g [i_24, i_25, i_26, i_27, i_28, i_29, i_30, i_31, i_32, i_33, i_34, i_35, i_36, i_37, i_38, i_39, i_40, i_41, i_42, i_43, i_44, i_45, i_46, i_47, i_48, i_49, i_50, i_51, i_52, i_53]))), (a_8, .inl (cy 1, 90, .inl f_2)), (a_9, .inl (cy 1, 15, .inl f_3)), (a_10, .inl (cy 1, 1050, .inl f_4)), (a_11, .inl (cy 1, 30, .inl f_5)), (a_12, .inl (cy 1, 240, .inl f_6)), (a_13, .inl (cy 1, 450, .inl f_7)), (a_15, .inl (cy 1, 7200, .inl n3)), (a_16, .inl (cy 1, 3, .inl n4)), (a_17, .inl (cy 1, 3, .inl n5)), (a_18, .inl (cy 1, 8, .inl n741)), (a_19, .inl (cy 3, 240, .inl z11_15_731))] H) (hD : va_D A [(a_0, .inr (12, [.int i_2, .ref a_1, .ref a_2, .ref a_3, .ref a_4, .ref a_5, .int i_3, .int i_4, .int i_5, .int i_6, .int i_7, .long j_0, .int i_8, .int i_9, .int i_10, .int i_11, .ref a_6, .ref a_7, .ref a_8, .ref a_9, .ref a_10, .ref a_11, .ref a_12, .ref a_13, .ref a_14, .ref a_15, .ref a_16, .ref a_17, .ref a_18, .int n738, .int n739, .int n740, .int y11_0_32_729, .int i_16, .int i_17, .ref a_19, .int i_18, .ref a_20])), (a_2, .inl (cy 1, 4, .inl f_0)), (a_3, .inl (cy 2, 240, .inr (.inl f_1))), (a_6, .inl (cy 1, 5, .inl (mm_g [i_19, i_20, i_21, i_22, i_23]))), (a_7, .inl (cy 1, 30, .inl (mm_g [i_24, i_25, i_26, i_27, i_28, i_29, i_30, i_31, i_32, i_33, i_34, i_35, i_36, i_37, i_38, i_39, i_40, i_41, i_42, i_43, i_44, i_45, i_46, i_47, i_48, i_49, i_50, i_51, i_52, i_53]))), (a_8, .inl (cy 1, 90, .inl f_2)), (a_9, .inl (cy 1, 15, .inl f_3)), (a_10, .inl (cy 1, 1050, .inl f_4)), (a_11, .inl (cy 1, 30, .inl f_5)), (a_12, .inl (cy 1, 240, .inl f_6)), (a_13, .inl (cy 1, 450, .inl f_7)), (a_15, .inl (cy 1, 7200, .inl n3)), (a_16, .inl (cy 1, 3, .inl n4)), (a_17, .inl (cy 1, 3, .inl n5)), (a_18, .inl (cy 1, 8, .inl n741)), (a_19, .inl (cy 3, 240, .inl z11_15_731))]) hS
        obtain ⟨w743, w744, hw⟩ := hw
        rcases hw with rfl | rfl
        · refine va_zast hx hb hK.1 hP hD hS 15 3 rfl rfl (mm_in q737 (by decide)) dX12_laysTorn_33 ?_
          clear hP hD hS
          clear H locs
          obtain ⟨g745, eg745⟩ : ∃ z : Nat → Int32, z = upd z11_15_731 x11_3_725.toNatClampNeg (vp_nar .boolean 0) := ⟨_, rfl⟩
          rw [← eg745]
          intro H locs (hP : va_P G vwCl [(a_0, .inr (12, [.int i_2, .ref a_1, .ref a_2, .ref a_3, .ref a_4, .ref a_5, .int i_3, .int i_4, .int i_5, .int i_6, .int i_7, .long j_0, .int i_8, .int i_9, .int i_10, .int i_11, .ref a_6, .ref a_7, .ref a_8, .ref a_9, .ref a_10, .ref a_11, .ref a_12, .ref a_13, .ref a_14, .ref a_15, .ref a_16, .ref a_17, .ref a_18, .int n738, .int n739, .int n740, .int y11_0_32_729, .int i_16, .int i_17, .ref a_19, .int i_18, .ref a_20])), (a_2, .inl (cy 1, 4, .inl f_0)), (a_3, .inl (cy 2, 240, .inr (.inl f_1))), (a_6, .inl (cy 1, 5, .inl (mm_g [i_19, i_20, i_21, i_22, i_23]))), (a_7, .inl (cy 1, 30, .inl (mm_g [i_24, i_25, i_26, i_27, i_28, i_29, i_30, i_31, i_32, i_33, i_34, i_35, i_36, i_37, i_38, i_39, i_40, i_41, i_42, i_43, i_44, i_45, i_46, i_47, i_48, i_49, i_50, i_51, i_52, i_53]))), (a_8, .inl (cy 1, 90, .inl f_2)), (a_9, .inl (cy 1, 15, .inl f_3)), (a_10, .inl (cy 1, 1050, .inl f_4)), (a_11, .inl (cy 1, 30, .inl f_5)), (a_12, .inl (cy 1, 240, .inl f_6)), (a_13, .inl (cy 1, 450, .inl f_7)), (a_15, .inl (cy 1, 7200, .inl n3)), (a_16, .inl (cy 1, 3, .inl n4)), (a_17, .inl (cy 1, 3, .inl n5)), (a_18, .inl (cy 1, 8, .inl n741)), (a_19, .inl (cy 3, 240, .inl g745))] H) (hD : va_D A [(a_0, .inr (12, [.int i_2, .ref a_1, .ref a_2, .ref a_3, .ref a_4, .ref a_5, .int i_3, .int i_4, .int i_5, .int i_6, .int i_7, .long j_0, .int i_8, .int i_9, .int i_10, .int i_11, .ref a_6, .ref a_7, .ref a_8, .ref a_9, .ref a_10, .ref a_11, .ref a_12, .ref a_13, .ref a_14, .ref a_15, .ref a_16, .ref a_17, .ref a_18, .int n738, .int n739, .int n740, .int y11_0_32_729, .int i_16, .int i_17, .ref a_19, .int i_18, .ref a_20])), (a_2, .inl (cy 1, 4, .inl f_0)), (a_3, .inl (cy 2, 240, .inr (.inl f_1))), (a_6, .inl (cy 1, 5, .inl (mm_g [i_19, i_20, i_21, i_22, i_23]))), (a_7, .inl (cy 1, 30, .inl (mm_g [i_24, i_25, i_26, i_27, i_28, i_29, i_30, i_31, i_32, i_33, i_34, i_35, i_36, i_37, i_38, i_39, i_40, i_41, i_42, i_43, i_44, i_45, i_46, i_47, i_48, i_49, i_50, i_51, i_52, i_53]))), (a_8, .inl (cy 1, 90, .inl f_2)), (a_9, .inl (cy 1, 15, .inl f_3)), (a_10, .inl (cy 1, 1050, .inl f_4)), (a_11, .inl (cy 1, 30, .inl f_5)), (a_12, .inl (cy 1, 240, .inl f_6)), (a_13, .inl (cy 1, 450, .inl f_7)), (a_15, .inl (cy 1, 7200, .inl n3)), (a_16, .inl (cy 1, 3, .inl n4)), (a_17, .inl (cy 1, 3, .inl n5)), (a_18, .inl (cy 1, 8, .inl n741)), (a_19, .inl (cy 3, 240, .inl g745))]) hS
          have rg745 : mm_ar g745 0 1 := by rw [eg745]; exact mm_ar_upd (mm_ar_wk rz11_15_731 (by decide)) (mm_nz1 0) _
          refine lv_aload_n hx hb dX12_laysTorn_34 rfl (lv_at hl 1 rfl) ?_
          refine lv_dup hx hb dX12_laysTorn_35 rfl ?_
          refine va_get (D := G) (ci := 12) (v := .int y11_0_32_729) (C := RX12) (T := TX12) (N := 38) hx hb hts (mm_i inlX12) hown hK.1 hP 0 rfl rfl 32 (by decide) (mm_h hts mm_w1264) (fun _ h9 => h9) rfl dX12_laysTorn_36 ?_
          refine lv_aload_n hx hb dX12_laysTorn_39 rfl (lv_at hl 1 rfl) ?_
          refine va_get (D := G) (ci := 12) (v := .ref a_19) (C := RX12) (T := TX12) (N := 38) hx hb hts (mm_i inlX12) hown hK.1 hP 0 rfl rfl 35 (by decide) (mm_h hts mm_w161) (fun _ h9 => h9) rfl dX12_laysTorn_40 ?_
          refine lv_iload_n hx hb dX12_laysTorn_43 rfl (lv_at hl 0 rfl) ?_
          refine va_zald hx hb hK.1 hP 15 3 rfl rfl (mm_in q737 (by decide)) dX12_laysTorn_44 ?_
          refine lv_topi (fun v746 ev746 => ?_)
          have rv746 : mm_rg v746 0 1 := mm_eqv ev746 (rg745 _)
          refine lv_if_eq (tgt := 52) hx hb dX12_laysTorn_45 (by decide) (fun c747 => ?_) (fun c747 => ?_)
          · have q748 := mm_eqI (lo := 0) (hi := 0) c747 rv746 mm_k0 (by decide)
            refine lv_iconst (v := 0) hx hb dX12_laysTorn_52 (by decide) ?_
            refine lv_iadd hx hb dX12_laysTorn_53 ?_
            refine lv_topi (fun v749 ev749 => ?_)
            have rv749 : mm_rg v749 (-2147483648) 2147483647 := mm_add ev749 (mm_top y11_0_32_729) mm_k0 (by decide) (by decide)
            have tv749 := mm_addEc ev749 (mm_top y11_0_32_729) mm_k0 (by decide) (k := 0) (by decide)
            refine va_put (D := G) (ci := 12) (v := .int v749) (ty := tyX12 32) (C := RX12) (T := TX12) (N := 38) hx hb hts (mm_i inlX12) tyX12 tyX12_ok nmX12 hown hK.1 hP hD hS 0 rfl rfl 32 (by decide) (mm_h hts mm_w1264) (fun _ h9 => h9) rfl (tyX12_ok 32 (by decide)) rfl rfl (Nat.le_of_ble_eq_true rfl) dX12_laysTorn_54 ?_
            clear hP hD hS
            clear H locs
            intro H locs (hP : va_P G vwCl [(a_0, .inr (12, [.int i_2, .ref a_1, .ref a_2, .ref a_3, .ref a_4, .ref a_5, .int i_3, .int i_4, .int i_5, .int i_6, .int i_7, .long j_0, .int i_8, .int i_9, .int i_10, .int i_11, .ref a_6, .ref a_7, .ref a_8, .ref a_9, .ref a_10, .ref a_11, .ref a_12, .ref a_13, .ref a_14, .ref a_15, .ref a_16, .ref a_17, .ref a_18, .int n738, .int n739, .int n740, .int v749, .int i_16, .int i_17, .ref a_19, .int i_18, .ref a_20])), (a_2, .inl (cy 1, 4, .inl f_0)), (a_3, .inl (cy 2, 240, .inr (.inl f_1))), (a_6, .inl (cy 1, 5, .inl (mm_g [i_19, i_20, i_21, i_22, i_23]))), (a_7, .inl (cy 1, 30, .inl (mm_g [i_24, i_25, i_26, i_27, i_28, i_29, i_30, i_31, i_32, i_33, i_34, i_35, i_36, i_37, i_38, i_39, i_40, i_41, i_42, i_43, i_44, i_45, i_46, i_47, i_48, i_49, i_50, i_51, i_52, i_53]))), (a_8, .inl (cy 1, 90, .inl f_2)), (a_9, .inl (cy 1, 15, .inl f_3)), (a_10, .inl (cy 1, 1050, .inl f_4)), (a_11, .inl (cy 1, 30, .inl f_5)), (a_12, .inl (cy 1, 240, .inl f_6)), (a_13, .inl (cy 1, 450, .inl f_7)), (a_15, .inl (cy 1, 7200, .inl n3)), (a_16, .inl (cy 1, 3, .inl n4)), (a_17, .inl (cy 1, 3, .inl n5)), (a_18, .inl (cy 1, 8, .inl n741)), (a_19, .inl (cy 3, 240, .inl g745))] H) (hD : va_D A [(a_0, .inr (12, [.int i_2, .ref a_1, .ref a_2, .ref a_3, .ref a_4, .ref a_5, .int i_3, .int i_4, .int i_5, .int i_6, .int i_7, .long j_0, .int i_8, .int i_9, .int i_10, .int i_11, .ref a_6, .ref a_7, .ref a_8, .ref a_9, .ref a_10, .ref a_11, .ref a_12, .ref a_13, .ref a_14, .ref a_15, .ref a_16, .ref a_17, .ref a_18, .int n738, .int n739, .int n740, .int v749, .int i_16, .int i_17, .ref a_19, .int i_18, .ref a_20])), (a_2, .inl (cy 1, 4, .inl f_0)), (a_3, .inl (cy 2, 240, .inr (.inl f_1))), (a_6, .inl (cy 1, 5, .inl (mm_g [i_19, i_20, i_21, i_22, i_23]))), (a_7, .inl (cy 1, 30, .inl (mm_g [i_24, i_25, i_26, i_27, i_28, i_29, i_30, i_31, i_32, i_33, i_34, i_35, i_36, i_37, i_38, i_39, i_40, i_41, i_42, i_43, i_44, i_45, i_46, i_47, i_48, i_49, i_50, i_51, i_52, i_53]))), (a_8, .inl (cy 1, 90, .inl f_2)), (a_9, .inl (cy 1, 15, .inl f_3)), (a_10, .inl (cy 1, 1050, .inl f_4)), (a_11, .inl (cy 1, 30, .inl f_5)), (a_12, .inl (cy 1, 240, .inl f_6)), (a_13, .inl (cy 1, 450, .inl f_7)), (a_15, .inl (cy 1, 7200, .inl n3)), (a_16, .inl (cy 1, 3, .inl n4)), (a_17, .inl (cy 1, 3, .inl n5)), (a_18, .inl (cy 1, 8, .inl n741)), (a_19, .inl (cy 3, 240, .inl g745))]) hS
            obtain ⟨v750, ev750⟩ : ∃ y : Int32, y = x11_3_725 + 1 := ⟨_, rfl⟩
            refine lv_iinc (v := v750) (lv' := [(3, .int v750), (0, .ref a_0), (1, .int i_0), (2, .int i_1)]) hx hb dX12_laysTorn_57 hl (k := 0) rfl (by rw [ev750]; rfl) (by decide) rfl ?_
            clear hl
            clear ls
            intro ls hl
            have rv750 : mm_rg v750 1 210 := mm_add ev750 q737 mm_k1 (by decide) (by decide)
            have tv750 := mm_addEc ev750 q737 mm_k1 (by decide) (k := 1) (by decide)
            refine lv_goto (tgt := 11) hx hb dX12_laysTorn_60 (by decide) ?_
            exact ih11 v750 n738 n739 n740 v749 n741 g745 (mm_wk rv750 (by decide)) w743 w744 rg745 (mm_mu hm11 tv750 (by decide) (rv750).2 (by decide)) H locs hP hD hS ls (lv_sub hl [0, 1, 2, 3] rfl)
          · have q751 := mm_neL (lo := 1) (mm_ne c747) rv746 mm_k0 (by decide) (by decide)
            refine lv_iconst (v := 1) hx hb dX12_laysTorn_48 (by decide) ?_
            refine lv_goto (tgt := 53) hx hb dX12_laysTorn_49 (by decide) ?_
            refine lv_iadd hx hb dX12_laysTorn_53 ?_
            refine lv_topi (fun v752 ev752 => ?_)
            refine va_put (D := G) (ci := 12) (v := .int v752) (ty := tyX12 32) (C := RX12) (T := TX12) (N := 38) hx hb hts (mm_i inlX12) tyX12 tyX12_ok nmX12 hown hK.1 hP hD hS 0 rfl rfl 32 (by decide) (mm_h hts mm_w1264) (fun _ h9 => h9) rfl (tyX12_ok 32 (by decide)) rfl rfl (Nat.le_of_ble_eq_true rfl) dX12_laysTorn_54 ?_
            clear hP hD hS
            clear H locs
            intro H locs (hP : va_P G vwCl [(a_0, .inr (12, [.int i_2, .ref a_1, .ref a_2, .ref a_3, .ref a_4, .ref a_5, .int i_3, .int i_4, .int i_5, .int i_6, .int i_7, .long j_0, .int i_8, .int i_9, .int i_10, .int i_11, .ref a_6, .ref a_7, .ref a_8, .ref a_9, .ref a_10, .ref a_11, .ref a_12, .ref a_13, .ref a_14, .ref a_15, .ref a_16, .ref a_17, .ref a_18, .int n738, .int n739, .int n740, .int v752, .int i_16, .int i_17, .ref a_19, .int i_18, .ref a_20])), (a_2, .inl (cy 1, 4, .inl f_0)), (a_3, .inl (cy 2, 240, .inr (.inl f_1))), (a_6, .inl (cy 1, 5, .inl (mm_g [i_19, i_20, i_21, i_22, i_23]))), (a_7, .inl (cy 1, 30, .inl (mm_g [i_24, i_25, i_26, i_27, i_28, i_29, i_30, i_31, i_32, i_33, i_34, i_35, i_36, i_37, i_38, i_39, i_40, i_41, i_42, i_43, i_44, i_45, i_46, i_47, i_48, i_49, i_50, i_51, i_52, i_53]))), (a_8, .inl (cy 1, 90, .inl f_2)), (a_9, .inl (cy 1, 15, .inl f_3)), (a_10, .inl (cy 1, 1050, .inl f_4)), (a_11, .inl (cy 1, 30, .inl f_5)), (a_12, .inl (cy 1, 240, .inl f_6)), (a_13, .inl (cy 1, 450, .inl f_7)), (a_15, .inl (cy 1, 7200, .inl n3)), (a_16, .inl (cy 1, 3, .inl n4)), (a_17, .inl (cy 1, 3, .inl n5)), (a_18, .inl (cy 1, 8, .inl n741)), (a_19, .inl (cy 3, 240, .inl g745))] H) (hD : va_D A [(a_0, .inr (12, [.int i_2, .ref a_1, .ref a_2, .ref a_3, .ref a_4, .ref a_5, .int i_3, .int i_4, .int i_5, .int i_6, .int i_7, .long j_0, .int i_8, .int i_9, .int i_10, .int i_11, .ref a_6, .ref a_7, .ref a_8, .ref a_9, .ref a_10, .ref a_11, .ref a_12, .ref a_13, .ref a_14, .ref a_15, .ref a_16, .ref a_17, .ref a_18, .int n738, .int n739, .int n740, .int v752, .int i_16, .int i_17, .ref a_19, .int i_18, .ref a_20])), (a_2, .inl (cy 1, 4, .inl f_0)), (a_3, .inl (cy 2, 240, .inr (.inl f_1))), (a_6, .inl (cy 1, 5, .inl (mm_g [i_19, i_20, i_21, i_22, i_23]))), (a_7, .inl (cy 1, 30, .inl (mm_g [i_24, i_25, i_26, i_27, i_28, i_29, i_30, i_31, i_32, i_33, i_34, i_35, i_36, i_37, i_38, i_39, i_40, i_41, i_42, i_43, i_44, i_45, i_46, i_47, i_48, i_49, i_50, i_51, i_52, i_53]))), (a_8, .inl (cy 1, 90, .inl f_2)), (a_9, .inl (cy 1, 15, .inl f_3)), (a_10, .inl (cy 1, 1050, .inl f_4)), (a_11, .inl (cy 1, 30, .inl f_5)), (a_12, .inl (cy 1, 240, .inl f_6)), (a_13, .inl (cy 1, 450, .inl f_7)), (a_15, .inl (cy 1, 7200, .inl n3)), (a_16, .inl (cy 1, 3, .inl n4)), (a_17, .inl (cy 1, 3, .inl n5)), (a_18, .inl (cy 1, 8, .inl n741)), (a_19, .inl (cy 3, 240, .inl g745))]) hS
            obtain ⟨v753, ev753⟩ : ∃ y : Int32, y = x11_3_725 + 1 := ⟨_, rfl⟩
            refine lv_iinc (v := v753) (lv' := [(3, .int v753), (0, .ref a_0), (1, .int i_0), (2, .int i_1)]) hx hb dX12_laysTorn_57 hl (k := 0) rfl (by rw [ev753]; rfl) (by decide) rfl ?_
            clear hl
            clear ls
            intro ls hl
            have rv753 : mm_rg v753 1 210 := mm_add ev753 q737 mm_k1 (by decide) (by decide)
            have tv753 := mm_addEc ev753 q737 mm_k1 (by decide) (k := 1) (by decide)
            refine lv_goto (tgt := 11) hx hb dX12_laysTorn_60 (by decide) ?_
            exact ih11 v753 n738 n739 n740 v752 n741 g745 (mm_wk rv753 (by decide)) w743 w744 rg745 (mm_mu hm11 tv753 (by decide) (rv753).2 (by decide)) H locs hP hD hS ls (lv_sub hl [0, 1, 2, 3] rfl)
        · refine va_zast hx hb hK.1 hP hD hS 15 3 rfl rfl (mm_in q737 (by decide)) dX12_laysTorn_33 ?_
          clear hP hD hS
          clear H locs
          obtain ⟨g754, eg754⟩ : ∃ z : Nat → Int32, z = upd z11_15_731 x11_3_725.toNatClampNeg (vp_nar .boolean 1) := ⟨_, rfl⟩
          rw [← eg754]
          intro H locs (hP : va_P G vwCl [(a_0, .inr (12, [.int i_2, .ref a_1, .ref a_2, .ref a_3, .ref a_4, .ref a_5, .int i_3, .int i_4, .int i_5, .int i_6, .int i_7, .long j_0, .int i_8, .int i_9, .int i_10, .int i_11, .ref a_6, .ref a_7, .ref a_8, .ref a_9, .ref a_10, .ref a_11, .ref a_12, .ref a_13, .ref a_14, .ref a_15, .ref a_16, .ref a_17, .ref a_18, .int n738, .int n739, .int n740, .int y11_0_32_729, .int i_16, .int i_17, .ref a_19, .int i_18, .ref a_20])), (a_2, .inl (cy 1, 4, .inl f_0)), (a_3, .inl (cy 2, 240, .inr (.inl f_1))), (a_6, .inl (cy 1, 5, .inl (mm_g [i_19, i_20, i_21, i_22, i_23]))), (a_7, .inl (cy 1, 30, .inl (mm_g [i_24, i_25, i_26, i_27, i_28, i_29, i_30, i_31, i_32, i_33, i_34, i_35, i_36, i_37, i_38, i_39, i_40, i_41, i_42, i_43, i_44, i_45, i_46, i_47, i_48, i_49, i_50, i_51, i_52, i_53]))), (a_8, .inl (cy 1, 90, .inl f_2)), (a_9, .inl (cy 1, 15, .inl f_3)), (a_10, .inl (cy 1, 1050, .inl f_4)), (a_11, .inl (cy 1, 30, .inl f_5)), (a_12, .inl (cy 1, 240, .inl f_6)), (a_13, .inl (cy 1, 450, .inl f_7)), (a_15, .inl (cy 1, 7200, .inl n3)), (a_16, .inl (cy 1, 3, .inl n4)), (a_17, .inl (cy 1, 3, .inl n5)), (a_18, .inl (cy 1, 8, .inl n741)), (a_19, .inl (cy 3, 240, .inl g754))] H) (hD : va_D A [(a_0, .inr (12, [.int i_2, .ref a_1, .ref a_2, .ref a_3, .ref a_4, .ref a_5, .int i_3, .int i_4, .int i_5, .int i_6, .int i_7, .long j_0, .int i_8, .int i_9, .int i_10, .int i_11, .ref a_6, .ref a_7, .ref a_8, .ref a_9, .ref a_10, .ref a_11, .ref a_12, .ref a_13, .ref a_14, .ref a_15, .ref a_16, .ref a_17, .ref a_18, .int n738, .int n739, .int n740, .int y11_0_32_729, .int i_16, .int i_17, .ref a_19, .int i_18, .ref a_20])), (a_2, .inl (cy 1, 4, .inl f_0)), (a_3, .inl (cy 2, 240, .inr (.inl f_1))), (a_6, .inl (cy 1, 5, .inl (mm_g [i_19, i_20, i_21, i_22, i_23]))), (a_7, .inl (cy 1, 30, .inl (mm_g [i_24, i_25, i_26, i_27, i_28, i_29, i_30, i_31, i_32, i_33, i_34, i_35, i_36, i_37, i_38, i_39, i_40, i_41, i_42, i_43, i_44, i_45, i_46, i_47, i_48, i_49, i_50, i_51, i_52, i_53]))), (a_8, .inl (cy 1, 90, .inl f_2)), (a_9, .inl (cy 1, 15, .inl f_3)), (a_10, .inl (cy 1, 1050, .inl f_4)), (a_11, .inl (cy 1, 30, .inl f_5)), (a_12, .inl (cy 1, 240, .inl f_6)), (a_13, .inl (cy 1, 450, .inl f_7)), (a_15, .inl (cy 1, 7200, .inl n3)), (a_16, .inl (cy 1, 3, .inl n4)), (a_17, .inl (cy 1, 3, .inl n5)), (a_18, .inl (cy 1, 8, .inl n741)), (a_19, .inl (cy 3, 240, .inl g754))]) hS
          have rg754 : mm_ar g754 0 1 := by rw [eg754]; exact mm_ar_upd (mm_ar_wk rz11_15_731 (by decide)) (mm_nz1 1) _
          refine lv_aload_n hx hb dX12_laysTorn_34 rfl (lv_at hl 1 rfl) ?_
          refine lv_dup hx hb dX12_laysTorn_35 rfl ?_
          refine va_get (D := G) (ci := 12) (v := .int y11_0_32_729) (C := RX12) (T := TX12) (N := 38) hx hb hts (mm_i inlX12) hown hK.1 hP 0 rfl rfl 32 (by decide) (mm_h hts mm_w1264) (fun _ h9 => h9) rfl dX12_laysTorn_36 ?_
          refine lv_aload_n hx hb dX12_laysTorn_39 rfl (lv_at hl 1 rfl) ?_
          refine va_get (D := G) (ci := 12) (v := .ref a_19) (C := RX12) (T := TX12) (N := 38) hx hb hts (mm_i inlX12) hown hK.1 hP 0 rfl rfl 35 (by decide) (mm_h hts mm_w161) (fun _ h9 => h9) rfl dX12_laysTorn_40 ?_
          refine lv_iload_n hx hb dX12_laysTorn_43 rfl (lv_at hl 0 rfl) ?_
          refine va_zald hx hb hK.1 hP 15 3 rfl rfl (mm_in q737 (by decide)) dX12_laysTorn_44 ?_
          refine lv_topi (fun v755 ev755 => ?_)
          have rv755 : mm_rg v755 0 1 := mm_eqv ev755 (rg754 _)
          refine lv_if_eq (tgt := 52) hx hb dX12_laysTorn_45 (by decide) (fun c756 => ?_) (fun c756 => ?_)
          · have q757 := mm_eqI (lo := 0) (hi := 0) c756 rv755 mm_k0 (by decide)
            refine lv_iconst (v := 0) hx hb dX12_laysTorn_52 (by decide) ?_
            refine lv_iadd hx hb dX12_laysTorn_53 ?_
            refine lv_topi (fun v758 ev758 => ?_)
            have rv758 : mm_rg v758 (-2147483648) 2147483647 := mm_add ev758 (mm_top y11_0_32_729) mm_k0 (by decide) (by decide)
            have tv758 := mm_addEc ev758 (mm_top y11_0_32_729) mm_k0 (by decide) (k := 0) (by decide)
            refine va_put (D := G) (ci := 12) (v := .int v758) (ty := tyX12 32) (C := RX12) (T := TX12) (N := 38) hx hb hts (mm_i inlX12) tyX12 tyX12_ok nmX12 hown hK.1 hP hD hS 0 rfl rfl 32 (by decide) (mm_h hts mm_w1264) (fun _ h9 => h9) rfl (tyX12_ok 32 (by decide)) rfl rfl (Nat.le_of_ble_eq_true rfl) dX12_laysTorn_54 ?_
            clear hP hD hS
            clear H locs
            intro H locs (hP : va_P G vwCl [(a_0, .inr (12, [.int i_2, .ref a_1, .ref a_2, .ref a_3, .ref a_4, .ref a_5, .int i_3, .int i_4, .int i_5, .int i_6, .int i_7, .long j_0, .int i_8, .int i_9, .int i_10, .int i_11, .ref a_6, .ref a_7, .ref a_8, .ref a_9, .ref a_10, .ref a_11, .ref a_12, .ref a_13, .ref a_14, .ref a_15, .ref a_16, .ref a_17, .ref a_18, .int n738, .int n739, .int n740, .int v758, .int i_16, .int i_17, .ref a_19, .int i_18, .ref a_20])), (a_2, .inl (cy 1, 4, .inl f_0)), (a_3, .inl (cy 2, 240, .inr (.inl f_1))), (a_6, .inl (cy 1, 5, .inl (mm_g [i_19, i_20, i_21, i_22, i_23]))), (a_7, .inl (cy 1, 30, .inl (mm_g [i_24, i_25, i_26, i_27, i_28, i_29, i_30, i_31, i_32, i_33, i_34, i_35, i_36, i_37, i_38, i_39, i_40, i_41, i_42, i_43, i_44, i_45, i_46, i_47, i_48, i_49, i_50, i_51, i_52, i_53]))), (a_8, .inl (cy 1, 90, .inl f_2)), (a_9, .inl (cy 1, 15, .inl f_3)), (a_10, .inl (cy 1, 1050, .inl f_4)), (a_11, .inl (cy 1, 30, .inl f_5)), (a_12, .inl (cy 1, 240, .inl f_6)), (a_13, .inl (cy 1, 450, .inl f_7)), (a_15, .inl (cy 1, 7200, .inl n3)), (a_16, .inl (cy 1, 3, .inl n4)), (a_17, .inl (cy 1, 3, .inl n5)), (a_18, .inl (cy 1, 8, .inl n741)), (a_19, .inl (cy 3, 240, .inl g754))] H) (hD : va_D A [(a_0, .inr (12, [.int i_2, .ref a_1, .ref a_2, .ref a_3, .ref a_4, .ref a_5, .int i_3, .int i_4, .int i_5, .int i_6, .int i_7, .long j_0, .int i_8, .int i_9, .int i_10, .int i_11, .ref a_6, .ref a_7, .ref a_8, .ref a_9, .ref a_10, .ref a_11, .ref a_12, .ref a_13, .ref a_14, .ref a_15, .ref a_16, .ref a_17, .ref a_18, .int n738, .int n739, .int n740, .int v758, .int i_16, .int i_17, .ref a_19, .int i_18, .ref a_20])), (a_2, .inl (cy 1, 4, .inl f_0)), (a_3, .inl (cy 2, 240, .inr (.inl f_1))), (a_6, .inl (cy 1, 5, .inl (mm_g [i_19, i_20, i_21, i_22, i_23]))), (a_7, .inl (cy 1, 30, .inl (mm_g [i_24, i_25, i_26, i_27, i_28, i_29, i_30, i_31, i_32, i_33, i_34, i_35, i_36, i_37, i_38, i_39, i_40, i_41, i_42, i_43, i_44, i_45, i_46, i_47, i_48, i_49, i_50, i_51, i_52, i_53]))), (a_8, .inl (cy 1, 90, .inl f_2)), (a_9, .inl (cy 1, 15, .inl f_3)), (a_10, .inl (cy 1, 1050, .inl f_4)), (a_11, .inl (cy 1, 30, .inl f_5)), (a_12, .inl (cy 1, 240, .inl f_6)), (a_13, .inl (cy 1, 450, .inl f_7)), (a_15, .inl (cy 1, 7200, .inl n3)), (a_16, .inl (cy 1, 3, .inl n4)), (a_17, .inl (cy 1, 3, .inl n5)), (a_18, .inl (cy 1, 8, .inl n741)), (a_19, .inl (cy 3, 240, .inl g754))]) hS
            obtain ⟨v759, ev759⟩ : ∃ y : Int32, y = x11_3_725 + 1 := ⟨_, rfl⟩
            refine lv_iinc (v := v759) (lv' := [(3, .int v759), (0, .ref a_0), (1, .int i_0), (2, .int i_1)]) hx hb dX12_laysTorn_57 hl (k := 0) rfl (by rw [ev759]; rfl) (by decide) rfl ?_
            clear hl
            clear ls
            intro ls hl
            have rv759 : mm_rg v759 1 210 := mm_add ev759 q737 mm_k1 (by decide) (by decide)
            have tv759 := mm_addEc ev759 q737 mm_k1 (by decide) (k := 1) (by decide)
            refine lv_goto (tgt := 11) hx hb dX12_laysTorn_60 (by decide) ?_
            exact ih11 v759 n738 n739 n740 v758 n741 g754 (mm_wk rv759 (by decide)) w743 w744 rg754 (mm_mu hm11 tv759 (by decide) (rv759).2 (by decide)) H locs hP hD hS ls (lv_sub hl [0, 1, 2, 3] rfl)
          · have q760 := mm_neL (lo := 1) (mm_ne c756) rv755 mm_k0 (by decide) (by decide)
            refine lv_iconst (v := 1) hx hb dX12_laysTorn_48 (by decide) ?_
            refine lv_goto (tgt := 53) hx hb dX12_laysTorn_49 (by decide) ?_
            refine lv_iadd hx hb dX12_laysTorn_53 ?_
            refine lv_topi (fun v761 ev761 => ?_)
            refine va_put (D := G) (ci := 12) (v := .int v761) (ty := tyX12 32) (C := RX12) (T := TX12) (N := 38) hx hb hts (mm_i inlX12) tyX12 tyX12_ok nmX12 hown hK.1 hP hD hS 0 rfl rfl 32 (by decide) (mm_h hts mm_w1264) (fun _ h9 => h9) rfl (tyX12_ok 32 (by decide)) rfl rfl (Nat.le_of_ble_eq_true rfl) dX12_laysTorn_54 ?_
            clear hP hD hS
            clear H locs
            intro H locs (hP : va_P G vwCl [(a_0, .inr (12, [.int i_2, .ref a_1, .ref a_2, .ref a_3, .ref a_4, .ref a_5, .int i_3, .int i_4, .int i_5, .int i_6, .int i_7, .long j_0, .int i_8, .int i_9, .int i_10, .int i_11, .ref a_6, .ref a_7, .ref a_8, .ref a_9, .ref a_10, .ref a_11, .ref a_12, .ref a_13, .ref a_14, .ref a_15, .ref a_16, .ref a_17, .ref a_18, .int n738, .int n739, .int n740, .int v761, .int i_16, .int i_17, .ref a_19, .int i_18, .ref a_20])), (a_2, .inl (cy 1, 4, .inl f_0)), (a_3, .inl (cy 2, 240, .inr (.inl f_1))), (a_6, .inl (cy 1, 5, .inl (mm_g [i_19, i_20, i_21, i_22, i_23]))), (a_7, .inl (cy 1, 30, .inl (mm_g [i_24, i_25, i_26, i_27, i_28, i_29, i_30, i_31, i_32, i_33, i_34, i_35, i_36, i_37, i_38, i_39, i_40, i_41, i_42, i_43, i_44, i_45, i_46, i_47, i_48, i_49, i_50, i_51, i_52, i_53]))), (a_8, .inl (cy 1, 90, .inl f_2)), (a_9, .inl (cy 1, 15, .inl f_3)), (a_10, .inl (cy 1, 1050, .inl f_4)), (a_11, .inl (cy 1, 30, .inl f_5)), (a_12, .inl (cy 1, 240, .inl f_6)), (a_13, .inl (cy 1, 450, .inl f_7)), (a_15, .inl (cy 1, 7200, .inl n3)), (a_16, .inl (cy 1, 3, .inl n4)), (a_17, .inl (cy 1, 3, .inl n5)), (a_18, .inl (cy 1, 8, .inl n741)), (a_19, .inl (cy 3, 240, .inl g754))] H) (hD : va_D A [(a_0, .inr (12, [.int i_2, .ref a_1, .ref a_2, .ref a_3, .ref a_4, .ref a_5, .int i_3, .int i_4, .int i_5, .int i_6, .int i_7, .long j_0, .int i_8, .int i_9, .int i_10, .int i_11, .ref a_6, .ref a_7, .ref a_8, .ref a_9, .ref a_10, .ref a_11, .ref a_12, .ref a_13, .ref a_14, .ref a_15, .ref a_16, .ref a_17, .ref a_18, .int n738, .int n739, .int n740, .int v761, .int i_16, .int i_17, .ref a_19, .int i_18, .ref a_20])), (a_2, .inl (cy 1, 4, .inl f_0)), (a_3, .inl (cy 2, 240, .inr (.inl f_1))), (a_6, .inl (cy 1, 5, .inl (mm_g [i_19, i_20, i_21, i_22, i_23]))), (a_7, .inl (cy 1, 30, .inl (mm_g [i_24, i_25, i_26, i_27, i_28, i_29, i_30, i_31, i_32, i_33, i_34, i_35, i_36, i_37, i_38, i_39, i_40, i_41, i_42, i_43, i_44, i_45, i_46, i_47, i_48, i_49, i_50, i_51, i_52, i_53]))), (a_8, .inl (cy 1, 90, .inl f_2)), (a_9, .inl (cy 1, 15, .inl f_3)), (a_10, .inl (cy 1, 1050, .inl f_4)), (a_11, .inl (cy 1, 30, .inl f_5)), (a_12, .inl (cy 1, 240, .inl f_6)), (a_13, .inl (cy 1, 450, .inl f_7)), (a_15, .inl (cy 1, 7200, .inl n3)), (a_16, .inl (cy 1, 3, .inl n4)), (a_17, .inl (cy 1, 3, .inl n5)), (a_18, .inl (cy 1, 8, .inl n741)), (a_19, .inl (cy 3, 240, .inl g754))]) hS
            obtain ⟨v762, ev762⟩ : ∃ y : Int32, y = x11_3_725 + 1 := ⟨_, rfl⟩
            refine lv_iinc (v := v762) (lv' := [(3, .int v762), (0, .ref a_0), (1, .int i_0), (2, .int i_1)]) hx hb dX12_laysTorn_57 hl (k := 0) rfl (by rw [ev762]; rfl) (by decide) rfl ?_
            clear hl
            clear ls
            intro ls hl
            have rv762 : mm_rg v762 1 210 := mm_add ev762 q737 mm_k1 (by decide) (by decide)
            have tv762 := mm_addEc ev762 q737 mm_k1 (by decide) (k := 1) (by decide)
            refine lv_goto (tgt := 11) hx hb dX12_laysTorn_60 (by decide) ?_
            exact ih11 v762 n738 n739 n740 v761 n741 g754 (mm_wk rv762 (by decide)) w743 w744 rg754 (mm_mu hm11 tv762 (by decide) (rv762).2 (by decide)) H locs hP hD hS ls (lv_sub hl [0, 1, 2, 3] rfl)
  exact L11_731 _ 0 i_12 i_13 i_14 0 f_11 f_12 (mm_wk mm_k0 (by decide)) h2 h48 h49 (Nat.lt_succ_self _) H locs hP hD hS ls (lv_sub hl [0, 1, 2, 3] rfl)

set_option maxHeartbeats 4000000 in
set_option maxRecDepth 100000 in
theorem M203_X12_torn (l : Launch) (G : va_G) (cy : Nat → ClassId) (sz : Nat) (a_0 : Nat) (i_0 : Int32) (i_1 : Int32) (i_2 : Int32) (a_1 : Nat) (a_2 : Nat) (a_3 : Nat) (a_4 : Nat) (a_5 : Nat) (i_3 : Int32) (i_4 : Int32) (i_5 : Int32) (i_6 : Int32) (i_7 : Int32) (j_0 : Int64) (i_8 : Int32) (i_9 : Int32) (i_10 : Int32) (i_11 : Int32) (a_6 : Nat) (a_7 : Nat) (a_8 : Nat) (a_9 : Nat) (a_10 : Nat) (a_11 : Nat) (a_12 : Nat) (a_13 : Nat) (a_14 : Nat) (a_15 : Nat) (a_16 : Nat) (a_17 : Nat) (a_18 : Nat) (i_12 : Int32) (i_13 : Int32) (i_14 : Int32) (i_15 : Int32) (i_16 : Int32) (i_17 : Int32) (a_19 : Nat) (i_18 : Int32) (a_20 : Nat) (f_0 : Nat → Int32) (f_1 : Nat → Int32) (f_2 : Nat → Int64) (i_19 : Int32) (i_20 : Int32) (i_21 : Int32) (i_22 : Int32) (i_23 : Int32) (i_24 : Int32) (i_25 : Int32) (i_26 : Int32) (i_27 : Int32) (i_28 : Int32) (i_29 : Int32) (i_30 : Int32) (i_31 : Int32) (i_32 : Int32) (i_33 : Int32) (i_34 : Int32) (i_35 : Int32) (i_36 : Int32) (i_37 : Int32) (i_38 : Int32) (i_39 : Int32) (i_40 : Int32) (i_41 : Int32) (i_42 : Int32) (i_43 : Int32) (i_44 : Int32) (i_45 : Int32) (i_46 : Int32) (i_47 : Int32) (i_48 : Int32) (i_49 : Int32) (i_50 : Int32) (i_51 : Int32) (i_52 : Int32) (i_53 : Int32) (f_3 : Nat → Int32) (f_4 : Nat → Int32) (f_5 : Nat → Int32) (f_6 : Nat → Int32) (f_7 : Nat → Int32) (f_8 : Nat → Int32) (f_9 : Nat → Int32) (f_10 : Nat → Int32) (f_11 : Nat → Int32) (f_12 : Nat → Int32) (f_13 : Nat → Int32) (h0 : mm_rg i_12 0 8) (h1 : mm_ar f_0 (-1) 3) (h2 : mm_ar f_1 0 60) (h3 : mm_rg i_19 0 601) (h4 : mm_rg i_20 0 601) (h5 : mm_rg i_21 0 601) (h6 : mm_rg i_22 0 601) (h7 : mm_rg i_23 0 601) (h8 : mm_rg i_24 0 10) (h9 : mm_rg i_25 0 99) (h10 : mm_rg i_26 0 9) (h11 : mm_rg i_27 0 3) (h12 : mm_rg i_28 0 6) (h13 : mm_rg i_29 0 30) (h14 : mm_rg i_30 0 10) (h15 : mm_rg i_31 0 99) (h16 : mm_rg i_32 0 9) (h17 : mm_rg i_33 0 3) (h18 : mm_rg i_34 0 6) (h19 : mm_rg i_35 0 30) (h20 : mm_rg i_36 0 10) (h21 : mm_rg i_37 0 99) (h22 : mm_rg i_38 0 9) (h23 : mm_rg i_39 0 3) (h24 : mm_rg i_40 0 6) (h25 : mm_rg i_41 0 30) (h26 : mm_rg i_42 0 10) (h27 : mm_rg i_43 0 99) (h28 : mm_rg i_44 0 9) (h29 : mm_rg i_45 0 3) (h30 : mm_rg i_46 0 6) (h31 : mm_rg i_47 0 30) (h32 : mm_rg i_48 0 10) (h33 : mm_rg i_49 0 99) (h34 : mm_rg i_50 0 9) (h35 : mm_rg i_51 0 3) (h36 : mm_rg i_52 0 6) (h37 : mm_rg i_53 0 30) (h38 : mm_ar f_3 0 99) (h39 : mm_ar f_4 0 7) (h40 : mm_ar f_5 0 9) (h41 : mm_ar f_6 0 8) (h42 : mm_ar f_7 0 9) (h43 : mm_ar f_8 (-1) 99) (h44 : mm_ar f_9 0 9) (h45 : mm_ar f_10 0 210) (h46 : mm_ar f_11 0 210) (h47 : mm_ar f_12 0 9) (h48 : mm_ar f_13 0 1) (h49 : mm_rls f_4 f_5 0 i_26 i_27) (h50 : mm_txs f_6 f_7 0 i_26 i_28) (h51 : mm_acs f_8 0 i_26 i_27 i_29) (h52 : mm_tl i_19 i_27 i_28) (h53 : mm_rls f_4 f_5 1 i_32 i_33) (h54 : mm_txs f_6 f_7 1 i_32 i_34) (h55 : mm_acs f_8 1 i_32 i_33 i_35) (h56 : mm_tl i_20 i_33 i_34) (h57 : mm_rls f_4 f_5 2 i_38 i_39) (h58 : mm_txs f_6 f_7 2 i_38 i_40) (h59 : mm_acs f_8 2 i_38 i_39 i_41) (h60 : mm_tl i_21 i_39 i_40) (h61 : mm_rls f_4 f_5 3 i_44 i_45) (h62 : mm_txs f_6 f_7 3 i_44 i_46) (h63 : mm_acs f_8 3 i_44 i_45 i_47) (h64 : mm_tl i_22 i_45 i_46)  : mm_CI l yX12_torn (mm_ws yX12_torn cX12_torn 4 (some .int)) ({ frames := 15, cells := 0, slots := 0, locals := 323 } : Room) G cy sz [(a_0, .inr (12, [.int i_2, .ref a_1, .ref a_2, .ref a_3, .ref a_4, .ref a_5, .int i_3, .int i_4, .int i_5, .int i_6, .int i_7, .long j_0, .int i_8, .int i_9, .int i_10, .int i_11, .ref a_6, .ref a_7, .ref a_8, .ref a_9, .ref a_10, .ref a_11, .ref a_12, .ref a_13, .ref a_14, .ref a_15, .ref a_16, .ref a_17, .ref a_18, .int i_12, .int i_13, .int i_14, .int i_15, .int i_16, .int i_17, .ref a_19, .int i_18, .ref a_20])), (a_1, .inl (cy 1, 4, .inl f_0)), (a_2, .inl (cy 1, 4, .inl f_1)), (a_3, .inl (cy 2, 240, .inr (.inl f_2))), (a_6, .inl (cy 1, 5, .inl (mm_g [i_19, i_20, i_21, i_22, i_23]))), (a_7, .inl (cy 1, 30, .inl (mm_g [i_24, i_25, i_26, i_27, i_28, i_29, i_30, i_31, i_32, i_33, i_34, i_35, i_36, i_37, i_38, i_39, i_40, i_41, i_42, i_43, i_44, i_45, i_46, i_47, i_48, i_49, i_50, i_51, i_52, i_53]))), (a_8, .inl (cy 1, 90, .inl f_3)), (a_9, .inl (cy 1, 15, .inl f_4)), (a_10, .inl (cy 1, 1050, .inl f_5)), (a_11, .inl (cy 1, 30, .inl f_6)), (a_12, .inl (cy 1, 240, .inl f_7)), (a_13, .inl (cy 1, 450, .inl f_8)), (a_15, .inl (cy 1, 7200, .inl f_9)), (a_16, .inl (cy 1, 3, .inl f_10)), (a_17, .inl (cy 1, 3, .inl f_11)), (a_18, .inl (cy 1, 8, .inl f_12)), (a_19, .inl (cy 3, 240, .inl f_13))] [.ref a_0, .int i_0, .int i_1] (fun u : Int32 × Int32 × Int32 × Int32 × (Nat → Int32) × (Nat → Int32) × (Nat → Int32) × (Nat → Int32) × (Nat → Int32) => [(a_0, .inr (12, [.int 0, .ref a_1, .ref a_2, .ref a_3, .ref a_4, .ref a_5, .int i_3, .int i_4, .int i_5, .int i_6, .int i_7, .long j_0, .int i_8, .int i_9, .int i_10, .int i_11, .ref a_6, .ref a_7, .ref a_8, .ref a_9, .ref a_10, .ref a_11, .ref a_12, .ref a_13, .ref a_14, .ref a_15, .ref a_16, .ref a_17, .ref a_18, .int u.1, .int u.2.1, .int u.2.2.1, .int u.2.2.2.1, .int i_16, .int i_17, .ref a_19, .int i_18, .ref a_20])), (a_1, .inl (cy 1, 4, .inl f_0)), (a_2, .inl (cy 1, 4, .inl f_1)), (a_3, .inl (cy 2, 240, .inr (.inl f_2))), (a_6, .inl (cy 1, 5, .inl (mm_g [i_19, i_20, i_21, i_22, i_23]))), (a_7, .inl (cy 1, 30, .inl (mm_g [i_24, i_25, i_26, i_27, i_28, i_29, i_30, i_31, i_32, i_33, i_34, i_35, i_36, i_37, i_38, i_39, i_40, i_41, i_42, i_43, i_44, i_45, i_46, i_47, i_48, i_49, i_50, i_51, i_52, i_53]))), (a_8, .inl (cy 1, 90, .inl f_3)), (a_9, .inl (cy 1, 15, .inl f_4)), (a_10, .inl (cy 1, 1050, .inl f_5)), (a_11, .inl (cy 1, 30, .inl f_6)), (a_12, .inl (cy 1, 240, .inl f_7)), (a_13, .inl (cy 1, 450, .inl f_8)), (a_15, .inl (cy 1, 7200, .inl u.2.2.2.2.1)), (a_16, .inl (cy 1, 3, .inl u.2.2.2.2.2.1)), (a_17, .inl (cy 1, 3, .inl u.2.2.2.2.2.2.1)), (a_18, .inl (cy 1, 8, .inl u.2.2.2.2.2.2.2.1)), (a_19, .inl (cy 3, 240, .inl u.2.2.2.2.2.2.2.2))]) (fun (r : Int32) (u : Int32 × Int32 × Int32 × Int32 × (Nat → Int32) × (Nat → Int32) × (Nat → Int32) × (Nat → Int32) × (Nat → Int32)) => mm_rg u.1 0 8 ∧ mm_ar u.2.2.2.2.1 0 9 ∧ mm_ar u.2.2.2.2.2.1 0 210 ∧ mm_ar u.2.2.2.2.2.2.1 0 210 ∧ mm_ar u.2.2.2.2.2.2.2.1 0 9 ∧ mm_ar u.2.2.2.2.2.2.2.2 0 1 ∧ True) 0 0 := by
  refine mm_begin (lv := [(0, .ref a_0), (1, .int i_0), (2, .int i_1)]) (by decide) (Nat.le_of_ble_eq_true rfl) rfl ?_
  intro p e s m below meth c A ls R args Q H locs hRe hQ hAe hx hb hr hlocks hml hown hnm hts hsz hA hS hP hK hD hZ hl
  have hRf : R.frames = 15 := by rw [hRe]
  have hRl : R.locals = 323 := by rw [hRe]
  have hRc : R.cells = 0 := by rw [hRe]
  have hRs : R.slots = 0 := by rw [hRe]
  refine lv_aload_n hx hb dX12_torn_0 rfl (lv_at hl 0 rfl) ?_
  refine lv_iconst (v := 0) hx hb dX12_torn_1 (by decide) ?_
  refine va_put (D := G) (ci := 12) (v := .int 0) (ty := tyX12 0) (C := RX12) (T := TX12) (N := 38) hx hb hts (mm_i inlX12) tyX12 tyX12_ok nmX12 hown hK.1 hP hD hS 0 rfl rfl 0 (by decide) (mm_h hts mm_w177) (fun _ h9 => h9) rfl (tyX12_ok 0 (by decide)) rfl rfl (Nat.le_of_ble_eq_true rfl) dX12_torn_2 ?_
  clear hP hD hS
  clear H locs
  intro H locs (hP : va_P G vwCl [(a_0, .inr (12, [.int 0, .ref a_1, .ref a_2, .ref a_3, .ref a_4, .ref a_5, .int i_3, .int i_4, .int i_5, .int i_6, .int i_7, .long j_0, .int i_8, .int i_9, .int i_10, .int i_11, .ref a_6, .ref a_7, .ref a_8, .ref a_9, .ref a_10, .ref a_11, .ref a_12, .ref a_13, .ref a_14, .ref a_15, .ref a_16, .ref a_17, .ref a_18, .int i_12, .int i_13, .int i_14, .int i_15, .int i_16, .int i_17, .ref a_19, .int i_18, .ref a_20])), (a_1, .inl (cy 1, 4, .inl f_0)), (a_2, .inl (cy 1, 4, .inl f_1)), (a_3, .inl (cy 2, 240, .inr (.inl f_2))), (a_6, .inl (cy 1, 5, .inl (mm_g [i_19, i_20, i_21, i_22, i_23]))), (a_7, .inl (cy 1, 30, .inl (mm_g [i_24, i_25, i_26, i_27, i_28, i_29, i_30, i_31, i_32, i_33, i_34, i_35, i_36, i_37, i_38, i_39, i_40, i_41, i_42, i_43, i_44, i_45, i_46, i_47, i_48, i_49, i_50, i_51, i_52, i_53]))), (a_8, .inl (cy 1, 90, .inl f_3)), (a_9, .inl (cy 1, 15, .inl f_4)), (a_10, .inl (cy 1, 1050, .inl f_5)), (a_11, .inl (cy 1, 30, .inl f_6)), (a_12, .inl (cy 1, 240, .inl f_7)), (a_13, .inl (cy 1, 450, .inl f_8)), (a_15, .inl (cy 1, 7200, .inl f_9)), (a_16, .inl (cy 1, 3, .inl f_10)), (a_17, .inl (cy 1, 3, .inl f_11)), (a_18, .inl (cy 1, 8, .inl f_12)), (a_19, .inl (cy 3, 240, .inl f_13))] H) (hD : va_D A [(a_0, .inr (12, [.int 0, .ref a_1, .ref a_2, .ref a_3, .ref a_4, .ref a_5, .int i_3, .int i_4, .int i_5, .int i_6, .int i_7, .long j_0, .int i_8, .int i_9, .int i_10, .int i_11, .ref a_6, .ref a_7, .ref a_8, .ref a_9, .ref a_10, .ref a_11, .ref a_12, .ref a_13, .ref a_14, .ref a_15, .ref a_16, .ref a_17, .ref a_18, .int i_12, .int i_13, .int i_14, .int i_15, .int i_16, .int i_17, .ref a_19, .int i_18, .ref a_20])), (a_1, .inl (cy 1, 4, .inl f_0)), (a_2, .inl (cy 1, 4, .inl f_1)), (a_3, .inl (cy 2, 240, .inr (.inl f_2))), (a_6, .inl (cy 1, 5, .inl (mm_g [i_19, i_20, i_21, i_22, i_23]))), (a_7, .inl (cy 1, 30, .inl (mm_g [i_24, i_25, i_26, i_27, i_28, i_29, i_30, i_31, i_32, i_33, i_34, i_35, i_36, i_37, i_38, i_39, i_40, i_41, i_42, i_43, i_44, i_45, i_46, i_47, i_48, i_49, i_50, i_51, i_52, i_53]))), (a_8, .inl (cy 1, 90, .inl f_3)), (a_9, .inl (cy 1, 15, .inl f_4)), (a_10, .inl (cy 1, 1050, .inl f_5)), (a_11, .inl (cy 1, 30, .inl f_6)), (a_12, .inl (cy 1, 240, .inl f_7)), (a_13, .inl (cy 1, 450, .inl f_8)), (a_15, .inl (cy 1, 7200, .inl f_9)), (a_16, .inl (cy 1, 3, .inl f_10)), (a_17, .inl (cy 1, 3, .inl f_11)), (a_18, .inl (cy 1, 8, .inl f_12)), (a_19, .inl (cy 3, 240, .inl f_13))]) hS
  refine lv_aload_n hx hb dX12_torn_5 rfl (lv_at hl 0 rfl) ?_
  refine lv_iload_n hx hb dX12_torn_6 rfl (lv_at hl 1 rfl) ?_
  refine lv_aload_n hx hb dX12_torn_7 rfl (lv_at hl 0 rfl) ?_
  refine lv_iload_n hx hb dX12_torn_8 rfl (lv_at hl 2 rfl) ?_
  refine mm_finir (va_runV (As := [.int i_1]) (rest := [.int i_0, .ref a_0]) ⟨hx, hb, hml, hown, hts⟩ (M98_X12_isLand l G cy H.size a_0 i_1 0 a_1 a_2 a_3 a_4 a_5 i_3 i_4 i_5 i_6 i_7 j_0 i_8 i_9 i_10 i_11 a_6 a_7 a_8 a_9 a_10 a_11 a_12 a_13 a_14 a_15 a_16 a_17 a_18 i_12 i_13 i_14 i_15 i_16 i_17 a_19 i_18 a_20 i_24 i_25 i_26 i_27 i_28 i_29 i_30 i_31 i_32 i_33 i_34 i_35 i_36 i_37 i_38 i_39 i_40 i_41 i_42 i_43 i_44 i_45 i_46 i_47 i_48 i_49 i_50 i_51 i_52 i_53 h8 h9 h10 h11 h12 h13 h14 h15 h16 h17 h18 h19 h20 h21 h22 h23 h24 h25 h26 h27 h28 h29 h30 h31 h32 h33 h34 h35 h36 h37) (cwV 1 hts (mm_gV mm_w641 mm_w642 mm_w643 mm_w5 mm_w644) rfl rfl rfl hd_X12_isLand ⟨by rw [hRf]; exact Nat.le_of_ble_eq_true rfl, by rw [hRl]; exact Nat.le_of_ble_eq_true rfl⟩) (mm_preV hK hZ hS hA hP hD [0, 5] rfl rfl 0 rfl rfl rfl) rfl rfl hl.1 rfl (lv_room (Nat.le_of_ble_eq_true rfl)) dX12_torn_9 ⟨by rw [hRc]; exact Nat.le_of_ble_eq_true rfl, by rw [hRs]; exact Nat.le_of_ble_eq_true rfl⟩) hP hD hS hA [0, 5] rfl (fun _ => rfl) ?_
  clear hP hD hS
  clear H locs
  intro v1 _u H locs hw hP hD hS
  rcases hw with rfl | ⟨rfl, w2, w3⟩
  · refine mm_finir (va_runV (As := [.int i_0, .int 0]) (rest := []) ⟨hx, hb, hml, hown, hts⟩ (M198_X12_whyNot l G cy H.size a_0 i_0 ) (cwV 2 hts (mm_gV mm_w1265 mm_w1266 mm_w1267 mm_w5 mm_w1268) rfl rfl rfl hd_X12_whyNot ⟨by rw [hRf]; exact Nat.le_of_ble_eq_true rfl, by rw [hRl]; exact Nat.le_of_ble_eq_true rfl⟩) (mm_preV hK hZ hS hA hP hD [] rfl rfl 0 rfl rfl rfl) rfl rfl hl.1 rfl (lv_room (Nat.le_of_ble_eq_true rfl)) dX12_torn_12 ⟨by rw [hRc]; exact Nat.le_of_ble_eq_true rfl, by rw [hRs]; exact Nat.le_of_ble_eq_true rfl⟩) hP hD hS hA [] rfl (fun _ => rfl) ?_
    clear hP hD hS
    clear H locs
    intro v4 _u H locs hw hP hD hS
    subst hw
    refine lv_istore_n (lv' := [(3, .int (-2)), (0, .ref a_0), (1, .int i_0), (2, .int i_1)]) hx hb dX12_torn_15 rfl hl (by decide) rfl ?_
    clear hl
    clear ls
    intro ls hl
    refine lv_iload_n hx hb dX12_torn_16 rfl (lv_at hl 0 rfl) ?_
    refine lv_if_eq (tgt := 22) hx hb dX12_torn_17 (by decide) (fun c5 => ?_) (fun c5 => ?_)
    · exact mm_eqN c5 mm_km2 mm_k0 (by decide)
    · refine lv_iload_n hx hb dX12_torn_20 rfl (lv_at hl 0 rfl) ?_
      subst hAe
      rw [hQ]
      exact W.iret (v := (-2)) hx hb hr (fun t ht hW => ⟨⟨(-2), (i_12, i_13, i_14, i_15, f_9, f_10, f_11, f_12, f_13), rfl, ⟨h0, h44, h45, h46, h47, h48, trivial⟩, by rw [ht]; exact hP, hK.warm hW, hD⟩, hS.F ht⟩) hS.2.2 dX12_torn_21
  · have q6 := mm_ltR (lo := 1) w3 w2 h11 (by decide)
    have q7 : mm_rg i_19 1 601 := mm_tl_3 h52 q6 h3 (by decide)
    refine mm_finir (va_runV (As := [.int i_0, .int 1]) (rest := []) ⟨hx, hb, hml, hown, hts⟩ (M200_X12_whyNot l G cy H.size a_0 i_0 0 a_1 a_2 a_3 a_4 a_5 i_3 i_4 i_5 i_6 i_7 j_0 i_8 i_9 i_10 i_11 a_6 a_7 a_8 a_9 a_10 a_11 a_12 a_13 a_14 a_15 a_16 a_17 a_18 i_12 i_13 i_14 i_15 i_16 i_17 a_19 i_18 a_20 f_0 f_1 f_2 i_24 i_25 i_26 i_27 i_28 i_29 i_30 i_31 i_32 i_33 i_34 i_35 i_36 i_37 i_38 i_39 i_40 i_41 i_42 i_43 i_44 i_45 i_46 i_47 i_48 i_49 i_50 i_51 i_52 i_53 h1 h2 h8 h9 h10 (mm_wk q6 (by decide)) h12 h13 h14 h15 h16 h17 h18 h19 h20 h21 h22 h23 h24 h25 h26 h27 h28 h29 h30 h31 h32 h33 h34 h35 h36 h37) (cwV 2 hts (mm_gV mm_w1265 mm_w1266 mm_w1267 mm_w5 mm_w1268) rfl rfl rfl hd_X12_whyNot ⟨by rw [hRf]; exact Nat.le_of_ble_eq_true rfl, by rw [hRl]; exact Nat.le_of_ble_eq_true rfl⟩) (mm_preV hK hZ hS hA hP hD [0, 1, 2, 3, 5] rfl rfl 0 rfl rfl rfl) rfl rfl hl.1 rfl (lv_room (Nat.le_of_ble_eq_true rfl)) dX12_torn_12 ⟨by rw [hRc]; exact Nat.le_of_ble_eq_true rfl, by rw [hRs]; exact Nat.le_of_ble_eq_true rfl⟩) hP hD hS hA [0, 1, 2, 3, 5] rfl (fun _ => rfl) ?_
    clear hP hD hS
    clear H locs
    intro v8 _u H locs hw hP hD hS
    rcases hw with rfl | ⟨rfl, w9⟩ | ⟨rfl, w10, w11⟩
    · refine lv_istore_n (lv' := [(3, .int (-2)), (0, .ref a_0), (1, .int i_0), (2, .int i_1)]) hx hb dX12_torn_15 rfl hl (by decide) rfl ?_
      clear hl
      clear ls
      intro ls hl
      refine lv_iload_n hx hb dX12_torn_16 rfl (lv_at hl 0 rfl) ?_
      refine lv_if_eq (tgt := 22) hx hb dX12_torn_17 (by decide) (fun c12 => ?_) (fun c12 => ?_)
      · exact mm_eqN c12 mm_km2 mm_k0 (by decide)
      · refine lv_iload_n hx hb dX12_torn_20 rfl (lv_at hl 0 rfl) ?_
        subst hAe
        rw [hQ]
        exact W.iret (v := (-2)) hx hb hr (fun t ht hW => ⟨⟨(-2), (i_12, i_13, i_14, i_15, f_9, f_10, f_11, f_12, f_13), rfl, ⟨h0, h44, h45, h46, h47, h48, trivial⟩, by rw [ht]; exact hP, hK.warm hW, hD⟩, hS.F ht⟩) hS.2.2 dX12_torn_21
    · refine lv_istore_n (lv' := [(3, .int (-6)), (0, .ref a_0), (1, .int i_0), (2, .int i_1)]) hx hb dX12_torn_15 rfl hl (by decide) rfl ?_
      clear hl
      clear ls
      intro ls hl
      refine lv_iload_n hx hb dX12_torn_16 rfl (lv_at hl 0 rfl) ?_
      refine lv_if_eq (tgt := 22) hx hb dX12_torn_17 (by decide) (fun c13 => ?_) (fun c13 => ?_)
      · exact mm_eqN c13 mm_km6 mm_k0 (by decide)
      · refine lv_iload_n hx hb dX12_torn_20 rfl (lv_at hl 0 rfl) ?_
        subst hAe
        rw [hQ]
        exact W.iret (v := (-6)) hx hb hr (fun t ht hW => ⟨⟨(-6), (i_12, i_13, i_14, i_15, f_9, f_10, f_11, f_12, f_13), rfl, ⟨h0, h44, h45, h46, h47, h48, trivial⟩, by rw [ht]; exact hP, hK.warm hW, hD⟩, hS.F ht⟩) hS.2.2 dX12_torn_21
    · refine lv_istore_n (lv' := [(3, .int 0), (0, .ref a_0), (1, .int i_0), (2, .int i_1)]) hx hb dX12_torn_15 rfl hl (by decide) rfl ?_
      clear hl
      clear ls
      intro ls hl
      refine lv_iload_n hx hb dX12_torn_16 rfl (lv_at hl 0 rfl) ?_
      refine lv_if_eq (tgt := 22) hx hb dX12_torn_17 (by decide) (fun c14 => ?_) (fun c14 => ?_)
      · refine lv_aload_n hx hb dX12_torn_22 rfl (lv_at hl 1 rfl) ?_
        refine lv_iload_n hx hb dX12_torn_23 rfl (lv_at hl 2 rfl) ?_
        refine lv_iload_n hx hb dX12_torn_24 rfl (lv_at hl 3 rfl) ?_
        refine mm_finv (va_runV (As := [.int i_0, .int i_1]) (rest := []) ⟨hx, hb, hml, hown, hts⟩ (M202_X12_laysTorn l G cy H.size a_0 i_0 i_1 0 a_1 a_2 a_3 a_4 a_5 i_3 i_4 i_5 i_6 i_7 j_0 i_8 i_9 i_10 i_11 a_6 a_7 a_8 a_9 a_10 a_11 a_12 a_13 a_14 a_15 a_16 a_17 a_18 i_12 i_13 i_14 i_15 i_16 i_17 a_19 i_18 a_20 f_1 f_2 i_19 i_20 i_21 i_22 i_23 i_24 i_25 i_26 i_27 i_28 i_29 i_30 i_31 i_32 i_33 i_34 i_35 i_36 i_37 i_38 i_39 i_40 i_41 i_42 i_43 i_44 i_45 i_46 i_47 i_48 i_49 i_50 i_51 i_52 i_53 f_3 f_4 f_5 f_6 f_7 f_8 f_9 f_10 f_11 f_12 f_13 w10 w2 h0 h2 (mm_wk q7 (by decide)) h4 h5 h6 h7 h8 h9 h10 (mm_wk q6 (by decide)) h12 h13 h14 h15 h16 h17 h18 h19 h20 h21 h22 h23 h24 h25 h26 h27 h28 h29 h30 h31 h32 h33 h34 h35 h36 h37 h38 h39 h40 h41 h42 h43 h44 h45 h46 h47 h48 h49 h50 h51 h52 h53 h54 h55 h56 h57 h58 h59 h60 h61 h62 h63 h64 w3 w11) (cwV 2 hts (mm_gV mm_w1273 mm_w1274 mm_w1275 mm_w5 mm_w1276) rfl rfl rfl hd_X12_laysTorn ⟨by rw [hRf]; exact Nat.le_of_ble_eq_true rfl, by rw [hRl]; exact Nat.le_of_ble_eq_true rfl⟩) (mm_preV hK hZ hS hA hP hD [0, 2, 3, 4, 5, 6, 7, 8, 9, 10, 11, 12, 13, 14, 15, 16] rfl rfl 0 rfl rfl rfl) rfl rfl hl.1 rfl (lv_room (Nat.le_of_ble_eq_true rfl)) dX12_torn_25 ⟨by rw [hRc]; exact Nat.le_of_ble_eq_true rfl, by rw [hRs]; exact Nat.le_of_ble_eq_true rfl⟩) hP hD hS hA (fun u : Int32 × Int32 × Int32 × Int32 × (Nat → Int32) × (Nat → Int32) × (Nat → Int32) × (Nat → Int32) × (Nat → Int32) => [(a_0, .inr (12, [.int 0, .ref a_1, .ref a_2, .ref a_3, .ref a_4, .ref a_5, .int i_3, .int i_4, .int i_5, .int i_6, .int i_7, .long j_0, .int i_8, .int i_9, .int i_10, .int i_11, .ref a_6, .ref a_7, .ref a_8, .ref a_9, .ref a_10, .ref a_11, .ref a_12, .ref a_13, .ref a_14, .ref a_15, .ref a_16, .ref a_17, .ref a_18, .int u.1, .int u.2.1, .int u.2.2.1, .int u.2.2.2.1, .int i_16, .int i_17, .ref a_19, .int i_18, .ref a_20])), (a_1, .inl (cy 1, 4, .inl f_0)), (a_2, .inl (cy 1, 4, .inl f_1)), (a_3, .inl (cy 2, 240, .inr (.inl f_2))), (a_6, .inl (cy 1, 5, .inl (mm_g [i_19, i_20, i_21, i_22, i_23]))), (a_7, .inl (cy 1, 30, .inl (mm_g [i_24, i_25, i_26, i_27, i_28, i_29, i_30, i_31, i_32, i_33, i_34, i_35, i_36, i_37, i_38, i_39, i_40, i_41, i_42, i_43, i_44, i_45, i_46, i_47, i_48, i_49, i_50, i_51, i_52, i_53]))), (a_8, .inl (cy 1, 90, .inl f_3)), (a_9, .inl (cy 1, 15, .inl f_4)), (a_10, .inl (cy 1, 1050, .inl f_5)), (a_11, .inl (cy 1, 30, .inl f_6)), (a_12, .inl (cy 1, 240, .inl f_7)), (a_13, .inl (cy 1, 450, .inl f_8)), (a_15, .inl (cy 1, 7200, .inl u.2.2.2.2.1)), (a_16, .inl (cy 1, 3, .inl u.2.2.2.2.2.1)), (a_17, .inl (cy 1, 3, .inl u.2.2.2.2.2.2.1)), (a_18, .inl (cy 1, 8, .inl u.2.2.2.2.2.2.2.1)), (a_19, .inl (cy 3, 240, .inl u.2.2.2.2.2.2.2.2))]) [0, 2, 3, 4, 5, 6, 7, 8, 9, 10, 11, 12, 13, 14, 15, 16] [1] (n := 17) (fun _ => rfl) (by decide +kernel) (by decide +kernel) rfl (fun _ => rfl) (wr := [(a_1, .inl (cy 1, 4, .inl f_0))]) rfl (fun _ => rfl) (fun _ => @rfl _ ([a_0, a_2, a_3, a_6, a_7, a_8, a_9, a_10, a_11, a_12, a_13, a_15, a_16, a_17, a_18, a_19] : List Nat)) ?_
        clear hP hD hS
        clear H locs
        intro u
        obtain ⟨n15, n16, n17, n18, n19, n20, n21, n22, n23⟩ := u
        intro H locs hw (hP : va_P G vwCl [(a_0, .inr (12, [.int 0, .ref a_1, .ref a_2, .ref a_3, .ref a_4, .ref a_5, .int i_3, .int i_4, .int i_5, .int i_6, .int i_7, .long j_0, .int i_8, .int i_9, .int i_10, .int i_11, .ref a_6, .ref a_7, .ref a_8, .ref a_9, .ref a_10, .ref a_11, .ref a_12, .ref a_13, .ref a_14, .ref a_15, .ref a_16, .ref a_17, .ref a_18, .int n15, .int n16, .int n17, .int n18, .int i_16, .int i_17, .ref a_19, .int i_18, .ref a_20])), (a_1, .inl (cy 1, 4, .inl f_0)), (a_2, .inl (cy 1, 4, .inl f_1)), (a_3, .inl (cy 2, 240, .inr (.inl f_2))), (a_6, .inl (cy 1, 5, .inl (mm_g [i_19, i_20, i_21, i_22, i_23]))), (a_7, .inl (cy 1, 30, .inl (mm_g [i_24, i_25, i_26, i_27, i_28, i_29, i_30, i_31, i_32, i_33, i_34, i_35, i_36, i_37, i_38, i_39, i_40, i_41, i_42, i_43, i_44, i_45, i_46, i_47, i_48, i_49, i_50, i_51, i_52, i_53]))), (a_8, .inl (cy 1, 90, .inl f_3)), (a_9, .inl (cy 1, 15, .inl f_4)), (a_10, .inl (cy 1, 1050, .inl f_5)), (a_11, .inl (cy 1, 30, .inl f_6)), (a_12, .inl (cy 1, 240, .inl f_7)), (a_13, .inl (cy 1, 450, .inl f_8)), (a_15, .inl (cy 1, 7200, .inl n19)), (a_16, .inl (cy 1, 3, .inl n20)), (a_17, .inl (cy 1, 3, .inl n21)), (a_18, .inl (cy 1, 8, .inl n22)), (a_19, .inl (cy 3, 240, .inl n23))] H) (hD : va_D A [(a_0, .inr (12, [.int 0, .ref a_1, .ref a_2, .ref a_3, .ref a_4, .ref a_5, .int i_3, .int i_4, .int i_5, .int i_6, .int i_7, .long j_0, .int i_8, .int i_9, .int i_10, .int i_11, .ref a_6, .ref a_7, .ref a_8, .ref a_9, .ref a_10, .ref a_11, .ref a_12, .ref a_13, .ref a_14, .ref a_15, .ref a_16, .ref a_17, .ref a_18, .int n15, .int n16, .int n17, .int n18, .int i_16, .int i_17, .ref a_19, .int i_18, .ref a_20])), (a_1, .inl (cy 1, 4, .inl f_0)), (a_2, .inl (cy 1, 4, .inl f_1)), (a_3, .inl (cy 2, 240, .inr (.inl f_2))), (a_6, .inl (cy 1, 5, .inl (mm_g [i_19, i_20, i_21, i_22, i_23]))), (a_7, .inl (cy 1, 30, .inl (mm_g [i_24, i_25, i_26, i_27, i_28, i_29, i_30, i_31, i_32, i_33, i_34, i_35, i_36, i_37, i_38, i_39, i_40, i_41, i_42, i_43, i_44, i_45, i_46, i_47, i_48, i_49, i_50, i_51, i_52, i_53]))), (a_8, .inl (cy 1, 90, .inl f_3)), (a_9, .inl (cy 1, 15, .inl f_4)), (a_10, .inl (cy 1, 1050, .inl f_5)), (a_11, .inl (cy 1, 30, .inl f_6)), (a_12, .inl (cy 1, 240, .inl f_7)), (a_13, .inl (cy 1, 450, .inl f_8)), (a_15, .inl (cy 1, 7200, .inl n19)), (a_16, .inl (cy 1, 3, .inl n20)), (a_17, .inl (cy 1, 3, .inl n21)), (a_18, .inl (cy 1, 8, .inl n22)), (a_19, .inl (cy 3, 240, .inl n23))]) hS
        obtain ⟨w24, w25, w26, w27, w28, w29, w30⟩ := hw
        replace w30 : mm_laid n20 n21 i_27 := w30
        refine lv_aload_n hx hb dX12_torn_28 rfl (lv_at hl 1 rfl) ?_
        refine va_get (D := G) (ci := 12) (v := .int n18) (C := RX12) (T := TX12) (N := 38) hx hb hts (mm_i inlX12) hown hK.1 hP 0 rfl rfl 32 (by decide) (mm_h hts mm_w1264) (fun _ h9 => h9) rfl dX12_torn_29 ?_
        subst hAe
        rw [hQ]
        exact W.iret (v := n18) hx hb hr (fun t ht hW => ⟨⟨n18, (n15, n16, n17, n18, n19, n20, n21, n22, n23), rfl, ⟨w24, w25, w26, w27, w28, w29, trivial⟩, by rw [ht]; exact hP, hK.warm hW, hD⟩, hS.F ht⟩) hS.2.2 dX12_torn_32
      · exact absurd rfl (mm_ne c14)

set_option maxHeartbeats 4000000 in
set_option maxRecDepth 100000 in
theorem M204_X12_date (l : Launch) (G : va_G) (cy : Nat → ClassId) (sz : Nat) (a_0 : Nat) (i_0 : Int32) (i_1 : Int32) (i_2 : Int32) (i_3 : Int32) (a_1 : Nat) (a_2 : Nat) (a_3 : Nat) (a_4 : Nat) (a_5 : Nat) (i_4 : Int32) (i_5 : Int32) (i_6 : Int32) (i_7 : Int32) (i_8 : Int32) (j_0 : Int64) (i_9 : Int32) (i_10 : Int32) (i_11 : Int32) (i_12 : Int32) (a_6 : Nat) (a_7 : Nat) (a_8 : Nat) (a_9 : Nat) (a_10 : Nat) (a_11 : Nat) (a_12 : Nat) (a_13 : Nat) (a_14 : Nat) (a_15 : Nat) (a_16 : Nat) (a_17 : Nat) (a_18 : Nat) (i_13 : Int32) (i_14 : Int32) (i_15 : Int32) (i_16 : Int32) (i_17 : Int32) (i_18 : Int32) (a_19 : Nat) (i_19 : Int32) (a_20 : Nat) (f_0 : Nat → Int32) (f_1 : Nat → Int32) (f_2 : Nat → Int64) (i_20 : Int32) (i_21 : Int32) (i_22 : Int32) (i_23 : Int32) (i_24 : Int32) (i_25 : Int32) (i_26 : Int32) (i_27 : Int32) (i_28 : Int32) (i_29 : Int32) (i_30 : Int32) (i_31 : Int32) (i_32 : Int32) (i_33 : Int32) (i_34 : Int32) (i_35 : Int32) (i_36 : Int32) (i_37 : Int32) (i_38 : Int32) (i_39 : Int32) (i_40 : Int32) (i_41 : Int32) (i_42 : Int32) (i_43 : Int32) (i_44 : Int32) (i_45 : Int32) (i_46 : Int32) (i_47 : Int32) (i_48 : Int32) (i_49 : Int32) (i_50 : Int32) (i_51 : Int32) (i_52 : Int32) (i_53 : Int32) (i_54 : Int32) (f_3 : Nat → Int32) (f_4 : Nat → Int32) (f_5 : Nat → Int32) (f_6 : Nat → Int32) (f_7 : Nat → Int32) (f_8 : Nat → Int32) (f_9 : Nat → Int32) (f_10 : Nat → Int32) (f_11 : Nat → Int32) (f_12 : Nat → Int32) (h0 : mm_rg i_13 0 8) (h1 : mm_ar f_0 (-1) 3) (h2 : mm_ar f_1 0 60) (h3 : mm_rg i_20 0 601) (h4 : mm_rg i_21 0 601) (h5 : mm_rg i_22 0 601) (h6 : mm_rg i_23 0 601) (h7 : mm_rg i_24 0 601) (h8 : mm_rg i_25 0 10) (h9 : mm_rg i_26 0 99) (h10 : mm_rg i_27 0 9) (h11 : mm_rg i_28 0 3) (h12 : mm_rg i_29 0 6) (h13 : mm_rg i_30 0 30) (h14 : mm_rg i_31 0 10) (h15 : mm_rg i_32 0 99) (h16 : mm_rg i_33 0 9) (h17 : mm_rg i_34 0 3) (h18 : mm_rg i_35 0 6) (h19 : mm_rg i_36 0 30) (h20 : mm_rg i_37 0 10) (h21 : mm_rg i_38 0 99) (h22 : mm_rg i_39 0 9) (h23 : mm_rg i_40 0 3) (h24 : mm_rg i_41 0 6) (h25 : mm_rg i_42 0 30) (h26 : mm_rg i_43 0 10) (h27 : mm_rg i_44 0 99) (h28 : mm_rg i_45 0 9) (h29 : mm_rg i_46 0 3) (h30 : mm_rg i_47 0 6) (h31 : mm_rg i_48 0 30) (h32 : mm_rg i_49 0 10) (h33 : mm_rg i_50 0 99) (h34 : mm_rg i_51 0 9) (h35 : mm_rg i_52 0 3) (h36 : mm_rg i_53 0 6) (h37 : mm_rg i_54 0 30) (h38 : mm_ar f_3 0 99) (h39 : mm_ar f_4 0 7) (h40 : mm_ar f_5 0 9) (h41 : mm_ar f_6 0 8) (h42 : mm_ar f_7 0 9) (h43 : mm_ar f_8 (-1) 99) (h44 : mm_ar f_9 0 9) (h45 : mm_ar f_10 0 210) (h46 : mm_ar f_11 0 210) (h47 : mm_ar f_12 0 9) (h48 : mm_rls f_4 f_5 0 i_27 i_28) (h49 : mm_txs f_6 f_7 0 i_27 i_29) (h50 : mm_acs f_8 0 i_27 i_28 i_30) (h51 : mm_tl i_20 i_28 i_29) (h52 : mm_rls f_4 f_5 1 i_33 i_34) (h53 : mm_txs f_6 f_7 1 i_33 i_35) (h54 : mm_acs f_8 1 i_33 i_34 i_36) (h55 : mm_tl i_21 i_34 i_35) (h56 : mm_rls f_4 f_5 2 i_39 i_40) (h57 : mm_txs f_6 f_7 2 i_39 i_41) (h58 : mm_acs f_8 2 i_39 i_40 i_42) (h59 : mm_tl i_22 i_40 i_41) (h60 : mm_rls f_4 f_5 3 i_45 i_46) (h61 : mm_txs f_6 f_7 3 i_45 i_47) (h62 : mm_acs f_8 3 i_45 i_46 i_48) (h63 : mm_tl i_23 i_46 i_47)  : mm_CI l yX12_date (mm_ws yX12_date cX12_date 6 (some .int)) ({ frames := 14, cells := 0, slots := 0, locals := 300 } : Room) G cy sz [(a_0, .inr (12, [.int i_3, .ref a_1, .ref a_2, .ref a_3, .ref a_4, .ref a_5, .int i_4, .int i_5, .int i_6, .int i_7, .int i_8, .long j_0, .int i_9, .int i_10, .int i_11, .int i_12, .ref a_6, .ref a_7, .ref a_8, .ref a_9, .ref a_10, .ref a_11, .ref a_12, .ref a_13, .ref a_14, .ref a_15, .ref a_16, .ref a_17, .ref a_18, .int i_13, .int i_14, .int i_15, .int i_16, .int i_17, .int i_18, .ref a_19, .int i_19, .ref a_20])), (a_1, .inl (cy 1, 4, .inl f_0)), (a_2, .inl (cy 1, 4, .inl f_1)), (a_3, .inl (cy 2, 240, .inr (.inl f_2))), (a_6, .inl (cy 1, 5, .inl (mm_g [i_20, i_21, i_22, i_23, i_24]))), (a_7, .inl (cy 1, 30, .inl (mm_g [i_25, i_26, i_27, i_28, i_29, i_30, i_31, i_32, i_33, i_34, i_35, i_36, i_37, i_38, i_39, i_40, i_41, i_42, i_43, i_44, i_45, i_46, i_47, i_48, i_49, i_50, i_51, i_52, i_53, i_54]))), (a_8, .inl (cy 1, 90, .inl f_3)), (a_9, .inl (cy 1, 15, .inl f_4)), (a_10, .inl (cy 1, 1050, .inl f_5)), (a_11, .inl (cy 1, 30, .inl f_6)), (a_12, .inl (cy 1, 240, .inl f_7)), (a_13, .inl (cy 1, 450, .inl f_8)), (a_15, .inl (cy 1, 7200, .inl f_9)), (a_16, .inl (cy 1, 3, .inl f_10)), (a_17, .inl (cy 1, 3, .inl f_11)), (a_18, .inl (cy 1, 8, .inl f_12))] [.ref a_0, .int i_0, .int i_1, .int i_2] (fun u : Int32 × Int32 × Int32 × (Nat → Int32) × (Nat → Int32) × (Nat → Int32) × (Nat → Int32) => [(a_0, .inr (12, [.int 0, .ref a_1, .ref a_2, .ref a_3, .ref a_4, .ref a_5, .int i_4, .int i_5, .int i_6, .int i_7, .int i_8, .long j_0, .int i_9, .int i_10, .int i_11, .int i_12, .ref a_6, .ref a_7, .ref a_8, .ref a_9, .ref a_10, .ref a_11, .ref a_12, .ref a_13, .ref a_14, .ref a_15, .ref a_16, .ref a_17, .ref a_18, .int u.1, .int u.2.1, .int u.2.2.1, .int i_16, .int i_17, .int i_18, .ref a_19, .int i_19, .ref a_20])), (a_1, .inl (cy 1, 4, .inl f_0)), (a_2, .inl (cy 1, 4, .inl f_1)), (a_3, .inl (cy 2, 240, .inr (.inl f_2))), (a_6, .inl (cy 1, 5, .inl (mm_g [i_20, i_21, i_22, i_23, i_24]))), (a_7, .inl (cy 1, 30, .inl (mm_g [i_25, i_26, i_27, i_28, i_29, i_30, i_31, i_32, i_33, i_34, i_35, i_36, i_37, i_38, i_39, i_40, i_41, i_42, i_43, i_44, i_45, i_46, i_47, i_48, i_49, i_50, i_51, i_52, i_53, i_54]))), (a_8, .inl (cy 1, 90, .inl f_3)), (a_9, .inl (cy 1, 15, .inl f_4)), (a_10, .inl (cy 1, 1050, .inl f_5)), (a_11, .inl (cy 1, 30, .inl f_6)), (a_12, .inl (cy 1, 240, .inl f_7)), (a_13, .inl (cy 1, 450, .inl f_8)), (a_15, .inl (cy 1, 7200, .inl u.2.2.2.1)), (a_16, .inl (cy 1, 3, .inl u.2.2.2.2.1)), (a_17, .inl (cy 1, 3, .inl u.2.2.2.2.2.1)), (a_18, .inl (cy 1, 8, .inl u.2.2.2.2.2.2))]) (fun (r : Int32) (u : Int32 × Int32 × Int32 × (Nat → Int32) × (Nat → Int32) × (Nat → Int32) × (Nat → Int32)) => mm_rg u.1 0 8 ∧ mm_ar u.2.2.2.1 0 9 ∧ mm_ar u.2.2.2.2.1 0 210 ∧ mm_ar u.2.2.2.2.2.1 0 210 ∧ mm_ar u.2.2.2.2.2.2 0 9 ∧ mm_rg r (-6) 1000000209) 0 0 := by
  refine mm_begin (lv := [(0, .ref a_0), (1, .int i_0), (2, .int i_1), (3, .int i_2)]) (by decide) (Nat.le_of_ble_eq_true rfl) rfl ?_
  intro p e s m below meth c A ls R args Q H locs hRe hQ hAe hx hb hr hlocks hml hown hnm hts hsz hA hS hP hK hD hZ hl
  have hRf : R.frames = 14 := by rw [hRe]
  have hRl : R.locals = 300 := by rw [hRe]
  have hRc : R.cells = 0 := by rw [hRe]
  have hRs : R.slots = 0 := by rw [hRe]
  refine lv_aload_n hx hb dX12_date_0 rfl (lv_at hl 0 rfl) ?_
  refine lv_iconst (v := 0) hx hb dX12_date_1 (by decide) ?_
  refine va_put (D := G) (ci := 12) (v := .int 0) (ty := tyX12 0) (C := RX12) (T := TX12) (N := 38) hx hb hts (mm_i inlX12) tyX12 tyX12_ok nmX12 hown hK.1 hP hD hS 0 rfl rfl 0 (by decide) (mm_h hts mm_w177) (fun _ h9 => h9) rfl (tyX12_ok 0 (by decide)) rfl rfl (Nat.le_of_ble_eq_true rfl) dX12_date_2 ?_
  clear hP hD hS
  clear H locs
  intro H locs (hP : va_P G vwCl [(a_0, .inr (12, [.int 0, .ref a_1, .ref a_2, .ref a_3, .ref a_4, .ref a_5, .int i_4, .int i_5, .int i_6, .int i_7, .int i_8, .long j_0, .int i_9, .int i_10, .int i_11, .int i_12, .ref a_6, .ref a_7, .ref a_8, .ref a_9, .ref a_10, .ref a_11, .ref a_12, .ref a_13, .ref a_14, .ref a_15, .ref a_16, .ref a_17, .ref a_18, .int i_13, .int i_14, .int i_15, .int i_16, .int i_17, .int i_18, .ref a_19, .int i_19, .ref a_20])), (a_1, .inl (cy 1, 4, .inl f_0)), (a_2, .inl (cy 1, 4, .inl f_1)), (a_3, .inl (cy 2, 240, .inr (.inl f_2))), (a_6, .inl (cy 1, 5, .inl (mm_g [i_20, i_21, i_22, i_23, i_24]))), (a_7, .inl (cy 1, 30, .inl (mm_g [i_25, i_26, i_27, i_28, i_29, i_30, i_31, i_32, i_33, i_34, i_35, i_36, i_37, i_38, i_39, i_40, i_41, i_42, i_43, i_44, i_45, i_46, i_47, i_48, i_49, i_50, i_51, i_52, i_53, i_54]))), (a_8, .inl (cy 1, 90, .inl f_3)), (a_9, .inl (cy 1, 15, .inl f_4)), (a_10, .inl (cy 1, 1050, .inl f_5)), (a_11, .inl (cy 1, 30, .inl f_6)), (a_12, .inl (cy 1, 240, .inl f_7)), (a_13, .inl (cy 1, 450, .inl f_8)), (a_15, .inl (cy 1, 7200, .inl f_9)), (a_16, .inl (cy 1, 3, .inl f_10)), (a_17, .inl (cy 1, 3, .inl f_11)), (a_18, .inl (cy 1, 8, .inl f_12))] H) (hD : va_D A [(a_0, .inr (12, [.int 0, .ref a_1, .ref a_2, .ref a_3, .ref a_4, .ref a_5, .int i_4, .int i_5, .int i_6, .int i_7, .int i_8, .long j_0, .int i_9, .int i_10, .int i_11, .int i_12, .ref a_6, .ref a_7, .ref a_8, .ref a_9, .ref a_10, .ref a_11, .ref a_12, .ref a_13, .ref a_14, .ref a_15, .ref a_16, .ref a_17, .ref a_18, .int i_13, .int i_14, .int i_15, .int i_16, .int i_17, .int i_18, .ref a_19, .int i_19, .ref a_20])), (a_1, .inl (cy 1, 4, .inl f_0)), (a_2, .inl (cy 1, 4, .inl f_1)), (a_3, .inl (cy 2, 240, .inr (.inl f_2))), (a_6, .inl (cy 1, 5, .inl (mm_g [i_20, i_21, i_22, i_23, i_24]))), (a_7, .inl (cy 1, 30, .inl (mm_g [i_25, i_26, i_27, i_28, i_29, i_30, i_31, i_32, i_33, i_34, i_35, i_36, i_37, i_38, i_39, i_40, i_41, i_42, i_43, i_44, i_45, i_46, i_47, i_48, i_49, i_50, i_51, i_52, i_53, i_54]))), (a_8, .inl (cy 1, 90, .inl f_3)), (a_9, .inl (cy 1, 15, .inl f_4)), (a_10, .inl (cy 1, 1050, .inl f_5)), (a_11, .inl (cy 1, 30, .inl f_6)), (a_12, .inl (cy 1, 240, .inl f_7)), (a_13, .inl (cy 1, 450, .inl f_8)), (a_15, .inl (cy 1, 7200, .inl f_9)), (a_16, .inl (cy 1, 3, .inl f_10)), (a_17, .inl (cy 1, 3, .inl f_11)), (a_18, .inl (cy 1, 8, .inl f_12))]) hS
  refine lv_aload_n hx hb dX12_date_5 rfl (lv_at hl 0 rfl) ?_
  refine lv_iload_n hx hb dX12_date_6 rfl (lv_at hl 1 rfl) ?_
  refine lv_aload_n hx hb dX12_date_7 rfl (lv_at hl 0 rfl) ?_
  refine lv_iload_n hx hb dX12_date_8 rfl (lv_at hl 2 rfl) ?_
  refine lv_iload_n hx hb dX12_date_9 rfl (lv_at hl 3 rfl) ?_
  refine mm_finir (va_runV (As := [.int i_1, .int i_2]) (rest := [.int i_0, .ref a_0]) ⟨hx, hb, hml, hown, hts⟩ (M104_X12_isThen l G cy H.size a_0 i_1 i_2 0 a_1 a_2 a_3 a_4 a_5 i_4 i_5 i_6 i_7 i_8 j_0 i_9 i_10 i_11 i_12 a_6 a_7 a_8 a_9 a_10 a_11 a_12 a_13 a_14 a_15 a_16 a_17 a_18 i_13 i_14 i_15 i_16 i_17 i_18 a_19 i_19 a_20 i_25 i_26 i_27 i_28 i_29 i_30 i_31 i_32 i_33 i_34 i_35 i_36 i_37 i_38 i_39 i_40 i_41 i_42 i_43 i_44 i_45 i_46 i_47 i_48 i_49 i_50 i_51 i_52 i_53 i_54 h8 h9 h10 h11 h12 h13 h14 h15 h16 h17 h18 h19 h20 h21 h22 h23 h24 h25 h26 h27 h28 h29 h30 h31 h32 h33 h34 h35 h36 h37) (cwV 2 hts (mm_gV mm_w678 mm_w679 mm_w680 mm_w5 mm_w681) rfl rfl rfl hd_X12_isThen ⟨by rw [hRf]; exact Nat.le_of_ble_eq_true rfl, by rw [hRl]; exact Nat.le_of_ble_eq_true rfl⟩) (mm_preV hK hZ hS hA hP hD [0, 5] rfl rfl 0 rfl rfl rfl) rfl rfl hl.1 rfl (lv_room (Nat.le_of_ble_eq_true rfl)) dX12_date_10 ⟨by rw [hRc]; exact Nat.le_of_ble_eq_true rfl, by rw [hRs]; exact Nat.le_of_ble_eq_true rfl⟩) hP hD hS hA [0, 5] rfl (fun _ => rfl) ?_
  clear hP hD hS
  clear H locs
  intro v1 _u H locs hw hP hD hS
  rcases hw with rfl | ⟨rfl, w2, w3, w4⟩
  · refine mm_finir (va_runV (As := [.int i_0, .int 0]) (rest := []) ⟨hx, hb, hml, hown, hts⟩ (M198_X12_whyNot l G cy H.size a_0 i_0 ) (cwV 2 hts (mm_gV mm_w1265 mm_w1266 mm_w1267 mm_w5 mm_w1268) rfl rfl rfl hd_X12_whyNot ⟨by rw [hRf]; exact Nat.le_of_ble_eq_true rfl, by rw [hRl]; exact Nat.le_of_ble_eq_true rfl⟩) (mm_preV hK hZ hS hA hP hD [] rfl rfl 0 rfl rfl rfl) rfl rfl hl.1 rfl (lv_room (Nat.le_of_ble_eq_true rfl)) dX12_date_13 ⟨by rw [hRc]; exact Nat.le_of_ble_eq_true rfl, by rw [hRs]; exact Nat.le_of_ble_eq_true rfl⟩) hP hD hS hA [] rfl (fun _ => rfl) ?_
    clear hP hD hS
    clear H locs
    intro v5 _u H locs hw hP hD hS
    subst hw
    refine lv_istore (lv' := [(4, .int (-2)), (0, .ref a_0), (1, .int i_0), (2, .int i_1), (3, .int i_2)]) hx hb dX12_date_16 hl (by decide) rfl ?_
    clear hl
    clear ls
    intro ls hl
    refine lv_iload hx hb dX12_date_18 (lv_at hl 0 rfl) ?_
    refine lv_if_eq (tgt := 26) hx hb dX12_date_20 (by decide) (fun c6 => ?_) (fun c6 => ?_)
    · exact mm_eqN c6 mm_km2 mm_k0 (by decide)
    · refine lv_iload hx hb dX12_date_23 (lv_at hl 0 rfl) ?_
      subst hAe
      rw [hQ]
      exact W.iret (v := (-2)) hx hb hr (fun t ht hW => ⟨⟨(-2), (i_13, i_14, i_15, f_9, f_10, f_11, f_12), rfl, ⟨h0, h44, h45, h46, h47, (mm_wk mm_km2 (by decide))⟩, by rw [ht]; exact hP, hK.warm hW, hD⟩, hS.F ht⟩) hS.2.2 dX12_date_25
  · have q7 := mm_ltR (lo := 1) w4 w2 h11 (by decide)
    have q8 : mm_rg i_20 1 601 := mm_tl_3 h51 q7 h3 (by decide)
    refine mm_finir (va_runV (As := [.int i_0, .int 1]) (rest := []) ⟨hx, hb, hml, hown, hts⟩ (M200_X12_whyNot l G cy H.size a_0 i_0 0 a_1 a_2 a_3 a_4 a_5 i_4 i_5 i_6 i_7 i_8 j_0 i_9 i_10 i_11 i_12 a_6 a_7 a_8 a_9 a_10 a_11 a_12 a_13 a_14 a_15 a_16 a_17 a_18 i_13 i_14 i_15 i_16 i_17 i_18 a_19 i_19 a_20 f_0 f_1 f_2 i_25 i_26 i_27 i_28 i_29 i_30 i_31 i_32 i_33 i_34 i_35 i_36 i_37 i_38 i_39 i_40 i_41 i_42 i_43 i_44 i_45 i_46 i_47 i_48 i_49 i_50 i_51 i_52 i_53 i_54 h1 h2 h8 h9 h10 (mm_wk q7 (by decide)) h12 h13 h14 h15 h16 h17 h18 h19 h20 h21 h22 h23 h24 h25 h26 h27 h28 h29 h30 h31 h32 h33 h34 h35 h36 h37) (cwV 2 hts (mm_gV mm_w1265 mm_w1266 mm_w1267 mm_w5 mm_w1268) rfl rfl rfl hd_X12_whyNot ⟨by rw [hRf]; exact Nat.le_of_ble_eq_true rfl, by rw [hRl]; exact Nat.le_of_ble_eq_true rfl⟩) (mm_preV hK hZ hS hA hP hD [0, 1, 2, 3, 5] rfl rfl 0 rfl rfl rfl) rfl rfl hl.1 rfl (lv_room (Nat.le_of_ble_eq_true rfl)) dX12_date_13 ⟨by rw [hRc]; exact Nat.le_of_ble_eq_true rfl, by rw [hRs]; exact Nat.le_of_ble_eq_true rfl⟩) hP hD hS hA [0, 1, 2, 3, 5] rfl (fun _ => rfl) ?_
    clear hP hD hS
    clear H locs
    intro v9 _u H locs hw hP hD hS
    rcases hw with rfl | ⟨rfl, w10⟩ | ⟨rfl, w11, w12⟩
    · refine lv_istore (lv' := [(4, .int (-2)), (0, .ref a_0), (1, .int i_0), (2, .int i_1), (3, .int i_2)]) hx hb dX12_date_16 hl (by decide) rfl ?_
      clear hl
      clear ls
      intro ls hl
      refine lv_iload hx hb dX12_date_18 (lv_at hl 0 rfl) ?_
      refine lv_if_eq (tgt := 26) hx hb dX12_date_20 (by decide) (fun c13 => ?_) (fun c13 => ?_)
      · exact mm_eqN c13 mm_km2 mm_k0 (by decide)
      · refine lv_iload hx hb dX12_date_23 (lv_at hl 0 rfl) ?_
        subst hAe
        rw [hQ]
        exact W.iret (v := (-2)) hx hb hr (fun t ht hW => ⟨⟨(-2), (i_13, i_14, i_15, f_9, f_10, f_11, f_12), rfl, ⟨h0, h44, h45, h46, h47, (mm_wk mm_km2 (by decide))⟩, by rw [ht]; exact hP, hK.warm hW, hD⟩, hS.F ht⟩) hS.2.2 dX12_date_25
    · refine lv_istore (lv' := [(4, .int (-6)), (0, .ref a_0), (1, .int i_0), (2, .int i_1), (3, .int i_2)]) hx hb dX12_date_16 hl (by decide) rfl ?_
      clear hl
      clear ls
      intro ls hl
      refine lv_iload hx hb dX12_date_18 (lv_at hl 0 rfl) ?_
      refine lv_if_eq (tgt := 26) hx hb dX12_date_20 (by decide) (fun c14 => ?_) (fun c14 => ?_)
      · exact mm_eqN c14 mm_km6 mm_k0 (by decide)
      · refine lv_iload hx hb dX12_date_23 (lv_at hl 0 rfl) ?_
        subst hAe
        rw [hQ]
        exact W.iret (v := (-6)) hx hb hr (fun t ht hW => ⟨⟨(-6), (i_13, i_14, i_15, f_9, f_10, f_11, f_12), rfl, ⟨h0, h44, h45, h46, h47, (mm_wk mm_km6 (by decide))⟩, by rw [ht]; exact hP, hK.warm hW, hD⟩, hS.F ht⟩) hS.2.2 dX12_date_25
    · refine lv_istore (lv' := [(4, .int 0), (0, .ref a_0), (1, .int i_0), (2, .int i_1), (3, .int i_2)]) hx hb dX12_date_16 hl (by decide) rfl ?_
      clear hl
      clear ls
      intro ls hl
      refine lv_iload hx hb dX12_date_18 (lv_at hl 0 rfl) ?_
      refine lv_if_eq (tgt := 26) hx hb dX12_date_20 (by decide) (fun c15 => ?_) (fun c15 => ?_)
      · refine lv_aload_n hx hb dX12_date_26 rfl (lv_at hl 1 rfl) ?_
        refine mm_finv (va_runV (As := []) (rest := []) ⟨hx, hb, hml, hown, hts⟩ (M125_X12_lays l G cy H.size a_0 0 a_1 a_2 a_3 a_4 a_5 i_4 i_5 i_6 i_7 i_8 j_0 i_9 i_10 i_11 i_12 a_6 a_7 a_8 a_9 a_10 a_11 a_12 a_13 a_14 a_15 a_16 a_17 a_18 i_13 i_14 i_15 i_16 i_17 i_18 a_19 i_19 a_20 i_20 i_21 i_22 i_23 i_24 i_25 i_26 i_27 i_28 i_29 i_30 i_31 i_32 i_33 i_34 i_35 i_36 i_37 i_38 i_39 i_40 i_41 i_42 i_43 i_44 i_45 i_46 i_47 i_48 i_49 i_50 i_51 i_52 i_53 i_54 f_4 f_5 f_8 f_9 f_10 f_11 (mm_wk q8 (by decide)) h4 h5 h6 h7 h8 h9 h10 (mm_wk q7 (by decide)) h12 h13 h14 h15 h16 h17 h18 h19 h20 h21 h22 h23 h24 h25 h26 h27 h28 h29 h30 h31 h32 h33 h34 h35 h36 h37 h39 h40 h43 h44 h45 h46 h48 h50 h51 h52 h54 h55 h56 h58 h59 h60 h62 h63) (cwV 0 hts (mm_gV mm_w686 mm_w687 mm_w688 mm_w5 mm_w689) rfl rfl rfl hd_X12_lays ⟨by rw [hRf]; exact Nat.le_of_ble_eq_true rfl, by rw [hRl]; exact Nat.le_of_ble_eq_true rfl⟩) (mm_preV hK hZ hS hA hP hD [0, 4, 5, 7, 8, 11, 12, 13, 14] rfl rfl 0 rfl rfl rfl) rfl rfl hl.1 rfl (lv_room (Nat.le_of_ble_eq_true rfl)) dX12_date_27 ⟨by rw [hRc]; exact Nat.le_of_ble_eq_true rfl, by rw [hRs]; exact Nat.le_of_ble_eq_true rfl⟩) hP hD hS hA (fun u : (Nat → Int32) × (Nat → Int32) × (Nat → Int32) => [(a_0, .inr (12, [.int 0, .ref a_1, .ref a_2, .ref a_3, .ref a_4, .ref a_5, .int i_4, .int i_5, .int i_6, .int i_7, .int i_8, .long j_0, .int i_9, .int i_10, .int i_11, .int i_12, .ref a_6, .ref a_7, .ref a_8, .ref a_9, .ref a_10, .ref a_11, .ref a_12, .ref a_13, .ref a_14, .ref a_15, .ref a_16, .ref a_17, .ref a_18, .int i_13, .int i_14, .int i_15, .int i_16, .int i_17, .int i_18, .ref a_19, .int i_19, .ref a_20])), (a_1, .inl (cy 1, 4, .inl f_0)), (a_2, .inl (cy 1, 4, .inl f_1)), (a_3, .inl (cy 2, 240, .inr (.inl f_2))), (a_6, .inl (cy 1, 5, .inl (mm_g [i_20, i_21, i_22, i_23, i_24]))), (a_7, .inl (cy 1, 30, .inl (mm_g [i_25, i_26, i_27, i_28, i_29, i_30, i_31, i_32, i_33, i_34, i_35, i_36, i_37, i_38, i_39, i_40, i_41, i_42, i_43, i_44, i_45, i_46, i_47, i_48, i_49, i_50, i_51, i_52, i_53, i_54]))), (a_8, .inl (cy 1, 90, .inl f_3)), (a_9, .inl (cy 1, 15, .inl f_4)), (a_10, .inl (cy 1, 1050, .inl f_5)), (a_11, .inl (cy 1, 30, .inl f_6)), (a_12, .inl (cy 1, 240, .inl f_7)), (a_13, .inl (cy 1, 450, .inl f_8)), (a_15, .inl (cy 1, 7200, .inl u.1)), (a_16, .inl (cy 1, 3, .inl u.2.1)), (a_17, .inl (cy 1, 3, .inl u.2.2)), (a_18, .inl (cy 1, 8, .inl f_12))]) [0, 4, 5, 7, 8, 11, 12, 13, 14] [1, 2, 3, 6, 9, 10, 15] (n := 16) (fun _ => rfl) (by decide +kernel) (by decide +kernel) rfl (fun _ => rfl) (wr := [(a_1, .inl (cy 1, 4, .inl f_0)), (a_2, .inl (cy 1, 4, .inl f_1)), (a_3, .inl (cy 2, 240, .inr (.inl f_2))), (a_8, .inl (cy 1, 90, .inl f_3)), (a_11, .inl (cy 1, 30, .inl f_6)), (a_12, .inl (cy 1, 240, .inl f_7)), (a_18, .inl (cy 1, 8, .inl f_12))]) rfl (fun _ => rfl) (fun _ => @rfl _ ([a_0, a_6, a_7, a_9, a_10, a_13, a_15, a_16, a_17] : List Nat)) ?_
        clear hP hD hS
        clear H locs
        intro u
        obtain ⟨n16, n17, n18⟩ := u
        intro H locs hw (hP : va_P G vwCl [(a_0, .inr (12, [.int 0, .ref a_1, .ref a_2, .ref a_3, .ref a_4, .ref a_5, .int i_4, .int i_5, .int i_6, .int i_7, .int i_8, .long j_0, .int i_9, .int i_10, .int i_11, .int i_12, .ref a_6, .ref a_7, .ref a_8, .ref a_9, .ref a_10, .ref a_11, .ref a_12, .ref a_13, .ref a_14, .ref a_15, .ref a_16, .ref a_17, .ref a_18, .int i_13, .int i_14, .int i_15, .int i_16, .int i_17, .int i_18, .ref a_19, .int i_19, .ref a_20])), (a_1, .inl (cy 1, 4, .inl f_0)), (a_2, .inl (cy 1, 4, .inl f_1)), (a_3, .inl (cy 2, 240, .inr (.inl f_2))), (a_6, .inl (cy 1, 5, .inl (mm_g [i_20, i_21, i_22, i_23, i_24]))), (a_7, .inl (cy 1, 30, .inl (mm_g [i_25, i_26, i_27, i_28, i_29, i_30, i_31, i_32, i_33, i_34, i_35, i_36, i_37, i_38, i_39, i_40, i_41, i_42, i_43, i_44, i_45, i_46, i_47, i_48, i_49, i_50, i_51, i_52, i_53, i_54]))), (a_8, .inl (cy 1, 90, .inl f_3)), (a_9, .inl (cy 1, 15, .inl f_4)), (a_10, .inl (cy 1, 1050, .inl f_5)), (a_11, .inl (cy 1, 30, .inl f_6)), (a_12, .inl (cy 1, 240, .inl f_7)), (a_13, .inl (cy 1, 450, .inl f_8)), (a_15, .inl (cy 1, 7200, .inl n16)), (a_16, .inl (cy 1, 3, .inl n17)), (a_17, .inl (cy 1, 3, .inl n18)), (a_18, .inl (cy 1, 8, .inl f_12))] H) (hD : va_D A [(a_0, .inr (12, [.int 0, .ref a_1, .ref a_2, .ref a_3, .ref a_4, .ref a_5, .int i_4, .int i_5, .int i_6, .int i_7, .int i_8, .long j_0, .int i_9, .int i_10, .int i_11, .int i_12, .ref a_6, .ref a_7, .ref a_8, .ref a_9, .ref a_10, .ref a_11, .ref a_12, .ref a_13, .ref a_14, .ref a_15, .ref a_16, .ref a_17, .ref a_18, .int i_13, .int i_14, .int i_15, .int i_16, .int i_17, .int i_18, .ref a_19, .int i_19, .ref a_20])), (a_1, .inl (cy 1, 4, .inl f_0)), (a_2, .inl (cy 1, 4, .inl f_1)), (a_3, .inl (cy 2, 240, .inr (.inl f_2))), (a_6, .inl (cy 1, 5, .inl (mm_g [i_20, i_21, i_22, i_23, i_24]))), (a_7, .inl (cy 1, 30, .inl (mm_g [i_25, i_26, i_27, i_28, i_29, i_30, i_31, i_32, i_33, i_34, i_35, i_36, i_37, i_38, i_39, i_40, i_41, i_42, i_43, i_44, i_45, i_46, i_47, i_48, i_49, i_50, i_51, i_52, i_53, i_54]))), (a_8, .inl (cy 1, 90, .inl f_3)), (a_9, .inl (cy 1, 15, .inl f_4)), (a_10, .inl (cy 1, 1050, .inl f_5)), (a_11, .inl (cy 1, 30, .inl f_6)), (a_12, .inl (cy 1, 240, .inl f_7)), (a_13, .inl (cy 1, 450, .inl f_8)), (a_15, .inl (cy 1, 7200, .inl n16)), (a_16, .inl (cy 1, 3, .inl n17)), (a_17, .inl (cy 1, 3, .inl n18)), (a_18, .inl (cy 1, 8, .inl f_12))]) hS
        obtain ⟨w19, w20, w21, w22, w23⟩ := hw
        replace w22 : mm_laid n17 n18 i_28 := w22
        replace w23 : mm_tab n16 n17 i_27 i_28 := w23
        refine lv_iconst (v := 0) hx hb dX12_date_30 (by decide) ?_
        refine lv_istore (lv' := [(5, .int 0), (4, .int 0), (0, .ref a_0), (1, .int i_0), (2, .int i_1), (3, .int i_2)]) hx hb dX12_date_31 hl (by decide) rfl ?_
        clear hl
        clear ls
        intro ls hl
        have L33_281 : ∀ (n : Nat) (x33_5_277 : Int32) (y33_0_29_278 : Int32) (y33_0_30_279 : Int32) (y33_0_31_280 : Int32) (z33_15_281 : Nat → Int32), mm_rg x33_5_277 0 210 → mm_rg y33_0_29_278 0 8 → mm_ar z33_15_281 0 9 → (210 - x33_5_277.toInt).toNat < n → ∀ (H : Heap) (locs : List Loc), va_P G vwCl [(a_0, .inr (12, [.int 0, .ref a_1, .ref a_2, .ref a_3, .ref a_4, .ref a_5, .int i_4, .int i_5, .int i_6, .int i_7, .int i_8, .long j_0, .int i_9, .int i_10, .int i_11, .int i_12, .ref a_6, .ref a_7, .ref a_8, .ref a_9, .ref a_10, .ref a_11, .ref a_12, .ref a_13, .ref a_14, .ref a_15, .ref a_16, .ref a_17, .ref a_18, .int y33_0_29_278, .int y33_0_30_279, .int y33_0_31_280, .int i_16, .int i_17, .int i_18, .ref a_19, .int i_19, .ref a_20])), (a_1, .inl (cy 1, 4, .inl f_0)), (a_2, .inl (cy 1, 4, .inl f_1)), (a_3, .inl (cy 2, 240, .inr (.inl f_2))), (a_6, .inl (cy 1, 5, .inl (mm_g [i_20, i_21, i_22, i_23, i_24]))), (a_7, .inl (cy 1, 30, .inl (mm_g [i_25, i_26, i_27, i_28, i_29, i_30, i_31, i_32, i_33, i_34, i_35, i_36, i_37, i_38, i_39, i_40, i_41, i_42, i_43, i_44, i_45, i_46, i_47, i_48, i_49, i_50, i_51, i_52, i_53, i_54]))), (a_8, .inl (cy 1, 90, .inl f_3)), (a_9, .inl (cy 1, 15, .inl f_4)), (a_10, .inl (cy 1, 1050, .inl f_5)), (a_11, .inl (cy 1, 30, .inl f_6)), (a_12, .inl (cy 1, 240, .inl f_7)), (a_13, .inl (cy 1, 450, .inl f_8)), (a_15, .inl (cy 1, 7200, .inl n16)), (a_16, .inl (cy 1, 3, .inl n17)), (a_17, .inl (cy 1, 3, .inl n18)), (a_18, .inl (cy 1, 8, .inl z33_15_281))] H → va_D A [(a_0, .inr (12, [.int 0, .ref a_1, .ref a_2, .ref a_3, .ref a_4, .ref a_5, .int i_4, .int i_5, .int i_6, .int i_7, .int i_8, .long j_0, .int i_9, .int i_10, .int i_11, .int i_12, .ref a_6, .ref a_7, .ref a_8, .ref a_9, .ref a_10, .ref a_11, .ref a_12, .ref a_13, .ref a_14, .ref a_15, .ref a_16, .ref a_17, .ref a_18, .int y33_0_29_278, .int y33_0_30_279, .int y33_0_31_280, .int i_16, .int i_17, .int i_18, .ref a_19, .int i_19, .ref a_20])), (a_1, .inl (cy 1, 4, .inl f_0)), (a_2, .inl (cy 1, 4, .inl f_1)), (a_3, .inl (cy 2, 240, .inr (.inl f_2))), (a_6, .inl (cy 1, 5, .inl (mm_g [i_20, i_21, i_22, i_23, i_24]))), (a_7, .inl (cy 1, 30, .inl (mm_g [i_25, i_26, i_27, i_28, i_29, i_30, i_31, i_32, i_33, i_34, i_35, i_36, i_37, i_38, i_39, i_40, i_41, i_42, i_43, i_44, i_45, i_46, i_47, i_48, i_49, i_50, i_51, i_52, i_53, i_54]))), (a_8, .inl (cy 1, 90, .inl f_3)), (a_9, .inl (cy 1, 15, .inl f_4)), (a_10, .inl (cy 1, 1050, .inl f_5)), (a_11, .inl (cy 1, 30, .inl f_6)), (a_12, .inl (cy 1, 240, .inl f_7)), (a_13, .inl (cy 1, 450, .inl f_8)), (a_15, .inl (cy 1, 7200, .inl n16)), (a_16, .inl (cy 1, 3, .inl n17)), (a_17, .inl (cy 1, 3, .inl n18)), (a_18, .inl (cy 1, 8, .inl z33_15_281))] → va_S A s.heap H locs → ∀ (ls : Array Slot), lv_has ls 6 [(5, .int x33_5_277), (4, .int 0), (0, .ref a_0), (1, .int i_0), (2, .int i_1), (3, .int i_2)] → W p l e R s m args below meth c H locs 0 0 Q (F0 m 33 ls []) := by
          intro n
          induction n with
          | zero => intro x33_5_277 y33_0_29_278 y33_0_30_279 y33_0_31_280 z33_15_281 rx33_5_277 ry33_0_29_278 rz33_15_281 hm; exact absurd hm (Nat.not_lt_zero _)
          | succ n ih33 =>
            intro x33_5_277 y33_0_29_278 y33_0_30_279 y33_0_31_280 z33_15_281 rx33_5_277 ry33_0_29_278 rz33_15_281 hm33 H locs hP hD hS ls hl
            refine lv_iload hx hb dX12_date_33 (lv_at hl 0 rfl) ?_
            refine lv_aload_n hx hb dX12_date_35 rfl (lv_at hl 2 rfl) ?_
            refine va_get (D := G) (ci := 12) (v := .ref a_16) (C := RX12) (T := TX12) (N := 38) hx hb hts (mm_i inlX12) hown hK.1 hP 0 rfl rfl 26 (by decide) (mm_h hts mm_w158) (fun _ h9 => h9) rfl dX12_date_36 ?_
            refine lv_iload_n hx hb dX12_date_39 rfl (lv_at hl 4 rfl) ?_
            refine va_iald hx hb hK.1 hP 13 1 rfl rfl (mm_in w2 (by decide)) dX12_date_40 ?_
            refine lv_topi (fun v283 ev283 => ?_)
            have rv283 : mm_rg v283 0 210 := mm_eqv ev283 (w20 _)
            have q284 : mm_rg v283 1 210 := mm_laid_ld0 w22 w4 ev283 w2 rv283 (by decide)
            refine lv_icmp_ge (tgt := 68) hx hb dX12_date_41 (by decide) (fun c285 => ?_) (fun c285 => ?_)
            · have q286 := mm_leR (mm_le c285) q284 rx33_5_277
              refine lv_iconst (v := (-1)) hx hb dX12_date_68 (by decide) ?_
              subst hAe
              rw [hQ]
              exact W.iret (v := (-1)) hx hb hr (fun t ht hW => ⟨⟨(-1), (y33_0_29_278, y33_0_30_279, y33_0_31_280, n16, n17, n18, z33_15_281), rfl, ⟨ry33_0_29_278, w19, w20, w21, rz33_15_281, (mm_wk mm_km1 (by decide))⟩, by rw [ht]; exact hP, hK.warm hW, hD⟩, hS.F ht⟩) hS.2.2 dX12_date_69
            · have q287 := mm_ltL (h := 209) (mm_nle c285) rx33_5_277 q284 (by decide)
              refine lv_aload_n hx hb dX12_date_44 rfl (lv_at hl 2 rfl) ?_
              refine lv_iload_n hx hb dX12_date_45 rfl (lv_at hl 3 rfl) ?_
              refine lv_iload_n hx hb dX12_date_46 rfl (lv_at hl 4 rfl) ?_
              refine lv_iload_n hx hb dX12_date_47 rfl (lv_at hl 5 rfl) ?_
              refine lv_iload hx hb dX12_date_48 (lv_at hl 0 rfl) ?_
              refine lv_iadd hx hb dX12_date_50 ?_
              refine lv_topi (fun v288 ev288 => ?_)
              have rv288 : mm_rg v288 0 1000000209 := mm_add ev288 w3 q287 (by decide) (by decide)
              have tv288 := mm_addE ev288 w3 q287 (by decide)
              refine mm_fini (va_runV (As := [.int i_0, .int i_1, .int v288]) (rest := []) ⟨hx, hb, hml, hown, hts⟩ (M201_X12_isSo l G cy H.size a_0 i_0 i_1 v288 0 a_1 a_2 a_3 a_4 a_5 i_4 i_5 i_6 i_7 i_8 j_0 i_9 i_10 i_11 i_12 a_6 a_7 a_8 a_9 a_10 a_11 a_12 a_13 a_14 a_15 a_16 a_17 a_18 y33_0_29_278 y33_0_30_279 y33_0_31_280 i_16 i_17 i_18 a_19 i_19 a_20 f_1 f_2 i_25 i_26 i_27 i_28 i_29 i_30 i_31 i_32 i_33 i_34 i_35 i_36 i_37 i_38 i_39 i_40 i_41 i_42 i_43 i_44 i_45 i_46 i_47 i_48 i_49 i_50 i_51 i_52 i_53 i_54 f_3 f_6 f_7 f_8 n16 n17 z33_15_281 w11 w2 (mm_wk rv288 (by decide)) ry33_0_29_278 h2 h8 h9 h10 (mm_wk q7 (by decide)) h12 h13 h14 h15 h16 h17 h18 h19 h20 h21 h22 h23 h24 h25 h26 h27 h28 h29 h30 h31 h32 h33 h34 h35 h36 h37 h38 h41 h42 h43 w19 w20 rz33_15_281 h49 h50 h53 h54 h57 h58 h61 h62 (mm_f1_l w22 w4 w2 (by decide)) w12) (cwV 3 hts (mm_gV mm_w1277 mm_w1278 mm_w1279 mm_w5 mm_w1280) rfl rfl rfl hd_X12_isSo ⟨by rw [hRf]; exact Nat.le_of_ble_eq_true rfl, by rw [hRl]; exact Nat.le_of_ble_eq_true rfl⟩) (mm_preV hK hZ hS hA hP hD [0, 2, 3, 5, 6, 9, 10, 11, 12, 13, 15] rfl rfl 0 rfl rfl rfl) rfl rfl hl.1 rfl (lv_room (Nat.le_of_ble_eq_true rfl)) dX12_date_51 ⟨by rw [hRc]; exact Nat.le_of_ble_eq_true rfl, by rw [hRs]; exact Nat.le_of_ble_eq_true rfl⟩) hP hD hS hA (fun u : Int32 × Int32 × Int32 × (Nat → Int32) => [(a_0, .inr (12, [.int 0, .ref a_1, .ref a_2, .ref a_3, .ref a_4, .ref a_5, .int i_4, .int i_5, .int i_6, .int i_7, .int i_8, .long j_0, .int i_9, .int i_10, .int i_11, .int i_12, .ref a_6, .ref a_7, .ref a_8, .ref a_9, .ref a_10, .ref a_11, .ref a_12, .ref a_13, .ref a_14, .ref a_15, .ref a_16, .ref a_17, .ref a_18, .int u.1, .int u.2.1, .int u.2.2.1, .int i_16, .int i_17, .int i_18, .ref a_19, .int i_19, .ref a_20])), (a_1, .inl (cy 1, 4, .inl f_0)), (a_2, .inl (cy 1, 4, .inl f_1)), (a_3, .inl (cy 2, 240, .inr (.inl f_2))), (a_6, .inl (cy 1, 5, .inl (mm_g [i_20, i_21, i_22, i_23, i_24]))), (a_7, .inl (cy 1, 30, .inl (mm_g [i_25, i_26, i_27, i_28, i_29, i_30, i_31, i_32, i_33, i_34, i_35, i_36, i_37, i_38, i_39, i_40, i_41, i_42, i_43, i_44, i_45, i_46, i_47, i_48, i_49, i_50, i_51, i_52, i_53, i_54]))), (a_8, .inl (cy 1, 90, .inl f_3)), (a_9, .inl (cy 1, 15, .inl f_4)), (a_10, .inl (cy 1, 1050, .inl f_5)), (a_11, .inl (cy 1, 30, .inl f_6)), (a_12, .inl (cy 1, 240, .inl f_7)), (a_13, .inl (cy 1, 450, .inl f_8)), (a_15, .inl (cy 1, 7200, .inl n16)), (a_16, .inl (cy 1, 3, .inl n17)), (a_17, .inl (cy 1, 3, .inl n18)), (a_18, .inl (cy 1, 8, .inl u.2.2.2))]) [0, 2, 3, 5, 6, 9, 10, 11, 12, 13, 15] [1, 4, 7, 8, 14] (n := 16) (fun _ => rfl) (by decide +kernel) (by decide +kernel) rfl (fun _ => rfl) (wr := [(a_1, .inl (cy 1, 4, .inl f_0)), (a_6, .inl (cy 1, 5, .inl (mm_g [i_20, i_21, i_22, i_23, i_24]))), (a_9, .inl (cy 1, 15, .inl f_4)), (a_10, .inl (cy 1, 1050, .inl f_5)), (a_17, .inl (cy 1, 3, .inl n18))]) rfl (fun _ => rfl) (fun _ => @rfl _ ([a_0, a_2, a_3, a_7, a_8, a_11, a_12, a_13, a_15, a_16, a_18] : List Nat)) ?_
              clear hP hD hS
              clear H locs
              intro v293 u
              obtain ⟨n289, n290, n291, n292⟩ := u
              intro H locs hw (hP : va_P G vwCl [(a_0, .inr (12, [.int 0, .ref a_1, .ref a_2, .ref a_3, .ref a_4, .ref a_5, .int i_4, .int i_5, .int i_6, .int i_7, .int i_8, .long j_0, .int i_9, .int i_10, .int i_11, .int i_12, .ref a_6, .ref a_7, .ref a_8, .ref a_9, .ref a_10, .ref a_11, .ref a_12, .ref a_13, .ref a_14, .ref a_15, .ref a_16, .ref a_17, .ref a_18, .int n289, .int n290, .int n291, .int i_16, .int i_17, .int i_18, .ref a_19, .int i_19, .ref a_20])), (a_1, .inl (cy 1, 4, .inl f_0)), (a_2, .inl (cy 1, 4, .inl f_1)), (a_3, .inl (cy 2, 240, .inr (.inl f_2))), (a_6, .inl (cy 1, 5, .inl (mm_g [i_20, i_21, i_22, i_23, i_24]))), (a_7, .inl (cy 1, 30, .inl (mm_g [i_25, i_26, i_27, i_28, i_29, i_30, i_31, i_32, i_33, i_34, i_35, i_36, i_37, i_38, i_39, i_40, i_41, i_42, i_43, i_44, i_45, i_46, i_47, i_48, i_49, i_50, i_51, i_52, i_53, i_54]))), (a_8, .inl (cy 1, 90, .inl f_3)), (a_9, .inl (cy 1, 15, .inl f_4)), (a_10, .inl (cy 1, 1050, .inl f_5)), (a_11, .inl (cy 1, 30, .inl f_6)), (a_12, .inl (cy 1, 240, .inl f_7)), (a_13, .inl (cy 1, 450, .inl f_8)), (a_15, .inl (cy 1, 7200, .inl n16)), (a_16, .inl (cy 1, 3, .inl n17)), (a_17, .inl (cy 1, 3, .inl n18)), (a_18, .inl (cy 1, 8, .inl n292))] H) (hD : va_D A [(a_0, .inr (12, [.int 0, .ref a_1, .ref a_2, .ref a_3, .ref a_4, .ref a_5, .int i_4, .int i_5, .int i_6, .int i_7, .int i_8, .long j_0, .int i_9, .int i_10, .int i_11, .int i_12, .ref a_6, .ref a_7, .ref a_8, .ref a_9, .ref a_10, .ref a_11, .ref a_12, .ref a_13, .ref a_14, .ref a_15, .ref a_16, .ref a_17, .ref a_18, .int n289, .int n290, .int n291, .int i_16, .int i_17, .int i_18, .ref a_19, .int i_19, .ref a_20])), (a_1, .inl (cy 1, 4, .inl f_0)), (a_2, .inl (cy 1, 4, .inl f_1)), (a_3, .inl (cy 2, 240, .inr (.inl f_2))), (a_6, .inl (cy 1, 5, .inl (mm_g [i_20, i_21, i_22, i_23, i_24]))), (a_7, .inl (cy 1, 30, .inl (mm_g [i_25, i_26, i_27, i_28, i_29, i_30, i_31, i_32, i_33, i_34, i_35, i_36, i_37, i_38, i_39, i_40, i_41, i_42, i_43, i_44, i_45, i_46, i_47, i_48, i_49, i_50, i_51, i_52, i_53, i_54]))), (a_8, .inl (cy 1, 90, .inl f_3)), (a_9, .inl (cy 1, 15, .inl f_4)), (a_10, .inl (cy 1, 1050, .inl f_5)), (a_11, .inl (cy 1, 30, .inl f_6)), (a_12, .inl (cy 1, 240, .inl f_7)), (a_13, .inl (cy 1, 450, .inl f_8)), (a_15, .inl (cy 1, 7200, .inl n16)), (a_16, .inl (cy 1, 3, .inl n17)), (a_17, .inl (cy 1, 3, .inl n18)), (a_18, .inl (cy 1, 8, .inl n292))]) hS
              obtain ⟨w294, w295, hw⟩ := hw
              rcases hw with rfl | rfl
              · refine lv_if_eq (tgt := 62) hx hb dX12_date_54 (by decide) (fun c296 => ?_) (fun c296 => ?_)
                · obtain ⟨v297, ev297⟩ : ∃ y : Int32, y = x33_5_277 + 1 := ⟨_, rfl⟩
                  refine lv_iinc (v := v297) (lv' := [(5, .int v297), (4, .int 0), (0, .ref a_0), (1, .int i_0), (2, .int i_1), (3, .int i_2)]) hx hb dX12_date_62 hl (k := 0) rfl (by rw [ev297]; rfl) (by decide) rfl ?_
                  clear hl
                  clear ls
                  intro ls hl
                  have rv297 : mm_rg v297 1 210 := mm_add ev297 q287 mm_k1 (by decide) (by decide)
                  have tv297 := mm_addEc ev297 q287 mm_k1 (by decide) (k := 1) (by decide)
                  refine lv_goto (tgt := 33) hx hb dX12_date_65 (by decide) ?_
                  exact ih33 v297 n289 n290 n291 n292 (mm_wk rv297 (by decide)) w294 w295 (mm_mu hm33 tv297 (by decide) (rv297).2 (by decide)) H locs hP hD hS ls (lv_sub hl [0, 1, 2, 3, 4, 5] rfl)
                · exact absurd rfl (mm_ne c296)
              · refine lv_if_eq (tgt := 62) hx hb dX12_date_54 (by decide) (fun c298 => ?_) (fun c298 => ?_)
                · exact mm_eqN c298.symm mm_k0 mm_k1 (by decide)
                · refine lv_iload_n hx hb dX12_date_57 rfl (lv_at hl 5 rfl) ?_
                  refine lv_iload hx hb dX12_date_58 (lv_at hl 0 rfl) ?_
                  refine lv_iadd hx hb dX12_date_60 ?_
                  refine lv_topi (fun v299 ev299 => ?_)
                  have rv299 : mm_rg v299 0 1000000209 := mm_add ev299 w3 q287 (by decide) (by decide)
                  have tv299 := mm_addE ev299 w3 q287 (by decide)
                  subst hAe
                  rw [hQ]
                  exact W.iret (v := v299) hx hb hr (fun t ht hW => ⟨⟨v299, (n289, n290, n291, n16, n17, n18, n292), rfl, ⟨w294, w19, w20, w21, w295, (mm_wk rv299 (by decide))⟩, by rw [ht]; exact hP, hK.warm hW, hD⟩, hS.F ht⟩) hS.2.2 dX12_date_61
        exact L33_281 _ 0 i_13 i_14 i_15 f_12 (mm_wk mm_k0 (by decide)) h0 h47 (Nat.lt_succ_self _) H locs hP hD hS ls (lv_sub hl [0, 1, 2, 3, 4, 5] rfl)
      · exact absurd rfl (mm_ne c15)

set_option maxHeartbeats 4000000 in
set_option maxRecDepth 100000 in
theorem M205_X12_worstBy (l : Launch) (G : va_G) (cy : Nat → ClassId) (sz : Nat) (a_0 : Nat) (i_0 : Int32) (i_1 : Int32) (i_2 : Int32) (a_1 : Nat) (a_2 : Nat) (a_3 : Nat) (a_4 : Nat) (a_5 : Nat) (i_3 : Int32) (i_4 : Int32) (i_5 : Int32) (i_6 : Int32) (i_7 : Int32) (j_0 : Int64) (i_8 : Int32) (i_9 : Int32) (i_10 : Int32) (i_11 : Int32) (a_6 : Nat) (a_7 : Nat) (a_8 : Nat) (a_9 : Nat) (a_10 : Nat) (a_11 : Nat) (a_12 : Nat) (a_13 : Nat) (a_14 : Nat) (a_15 : Nat) (a_16 : Nat) (a_17 : Nat) (a_18 : Nat) (i_12 : Int32) (i_13 : Int32) (i_14 : Int32) (i_15 : Int32) (i_16 : Int32) (i_17 : Int32) (a_19 : Nat) (i_18 : Int32) (a_20 : Nat) (i_19 : Int32) (i_20 : Int32) (i_21 : Int32) (i_22 : Int32) (i_23 : Int32) (i_24 : Int32) (i_25 : Int32) (i_26 : Int32) (i_27 : Int32) (i_28 : Int32) (i_29 : Int32) (i_30 : Int32) (i_31 : Int32) (i_32 : Int32) (i_33 : Int32) (i_34 : Int32) (i_35 : Int32) (i_36 : Int32) (i_37 : Int32) (i_38 : Int32) (i_39 : Int32) (i_40 : Int32) (i_41 : Int32) (i_42 : Int32) (i_43 : Int32) (i_44 : Int32) (i_45 : Int32) (i_46 : Int32) (i_47 : Int32) (i_48 : Int32) (f_0 : Nat → Int32) (f_1 : Nat → Int32) (f_2 : Nat → Int32) (f_3 : Nat → Int32) (f_4 : Nat → Int32) (f_5 : Nat → Int32) (f_6 : Nat → Int32) (f_7 : Nat → Int32) (f_8 : Nat → Int32) (h0 : mm_rg i_0 0 2) (h1 : mm_rg i_1 0 5) (h2 : mm_rg i_12 0 8) (h3 : mm_rg i_19 0 10) (h4 : mm_rg i_20 0 99) (h5 : mm_rg i_21 0 9) (h6 : mm_rg i_22 0 3) (h7 : mm_rg i_23 0 6) (h8 : mm_rg i_24 0 30) (h9 : mm_rg i_25 0 10) (h10 : mm_rg i_26 0 99) (h11 : mm_rg i_27 0 9) (h12 : mm_rg i_28 0 3) (h13 : mm_rg i_29 0 6) (h14 : mm_rg i_30 0 30) (h15 : mm_rg i_31 0 10) (h16 : mm_rg i_32 0 99) (h17 : mm_rg i_33 0 9) (h18 : mm_rg i_34 0 3) (h19 : mm_rg i_35 0 6) (h20 : mm_rg i_36 0 30) (h21 : mm_rg i_37 0 10) (h22 : mm_rg i_38 0 99) (h23 : mm_rg i_39 0 9) (h24 : mm_rg i_40 0 3) (h25 : mm_rg i_41 0 6) (h26 : mm_rg i_42 0 30) (h27 : mm_rg i_43 0 10) (h28 : mm_rg i_44 0 99) (h29 : mm_rg i_45 0 9) (h30 : mm_rg i_46 0 3) (h31 : mm_rg i_47 0 6) (h32 : mm_rg i_48 0 30) (h33 : mm_ar f_0 0 99) (h34 : mm_ar f_1 0 8) (h35 : mm_ar f_2 0 9) (h36 : mm_ar f_3 (-1) 99) (h37 : mm_ar f_4 0 9) (h38 : mm_ar f_5 0 210) (h39 : mm_ar f_6 0 210) (h40 : mm_ar f_7 0 9) (h41 : mm_ar f_8 0 1) (h42 : mm_txs f_1 f_2 0 i_21 i_23) (h43 : mm_acs f_3 0 i_21 i_22 i_24) (h44 : mm_txs f_1 f_2 1 i_27 i_29) (h45 : mm_acs f_3 1 i_27 i_28 i_30) (h46 : mm_txs f_1 f_2 2 i_33 i_35) (h47 : mm_acs f_3 2 i_33 i_34 i_36) (h48 : mm_txs f_1 f_2 3 i_39 i_41) (h49 : mm_acs f_3 3 i_39 i_40 i_42) (h50 : mm_f1 f_5 i_0)  : mm_CI l yX12_worstBy (mm_ws yX12_worstBy cX12_worstBy 8 (some .int)) ({ frames := 3, cells := 0, slots := 0, locals := 73 } : Room) G cy sz [(a_0, .inr (12, [.int i_2, .ref a_1, .ref a_2, .ref a_3, .ref a_4, .ref a_5, .int i_3, .int i_4, .int i_5, .int i_6, .int i_7, .long j_0, .int i_8, .int i_9, .int i_10, .int i_11, .ref a_6, .ref a_7, .ref a_8, .ref a_9, .ref a_10, .ref a_11, .ref a_12, .ref a_13, .ref a_14, .ref a_15, .ref a_16, .ref a_17, .ref a_18, .int i_12, .int i_13, .int i_14, .int i_15, .int i_16, .int i_17, .ref a_19, .int i_18, .ref a_20])), (a_7, .inl (cy 1, 30, .inl (mm_g [i_19, i_20, i_21, i_22, i_23, i_24, i_25, i_26, i_27, i_28, i_29, i_30, i_31, i_32, i_33, i_34, i_35, i_36, i_37, i_38, i_39, i_40, i_41, i_42, i_43, i_44, i_45, i_46, i_47, i_48]))), (a_8, .inl (cy 1, 90, .inl f_0)), (a_11, .inl (cy 1, 30, .inl f_1)), (a_12, .inl (cy 1, 240, .inl f_2)), (a_13, .inl (cy 1, 450, .inl f_3)), (a_15, .inl (cy 1, 7200, .inl f_4)), (a_16, .inl (cy 1, 3, .inl f_5)), (a_17, .inl (cy 1, 3, .inl f_6)), (a_18, .inl (cy 1, 8, .inl f_7)), (a_19, .inl (cy 3, 240, .inl f_8))] [.ref a_0, .int i_0, .int i_1] (fun u : Int32 × Int32 × Int32 × (Nat → Int32) => [(a_0, .inr (12, [.int i_2, .ref a_1, .ref a_2, .ref a_3, .ref a_4, .ref a_5, .int i_3, .int i_4, .int i_5, .int i_6, .int i_7, .long j_0, .int i_8, .int i_9, .int i_10, .int i_11, .ref a_6, .ref a_7, .ref a_8, .ref a_9, .ref a_10, .ref a_11, .ref a_12, .ref a_13, .ref a_14, .ref a_15, .ref a_16, .ref a_17, .ref a_18, .int u.1, .int u.2.1, .int u.2.2.1, .int i_15, .int i_16, .int i_17, .ref a_19, .int i_18, .ref a_20])), (a_7, .inl (cy 1, 30, .inl (mm_g [i_19, i_20, i_21, i_22, i_23, i_24, i_25, i_26, i_27, i_28, i_29, i_30, i_31, i_32, i_33, i_34, i_35, i_36, i_37, i_38, i_39, i_40, i_41, i_42, i_43, i_44, i_45, i_46, i_47, i_48]))), (a_8, .inl (cy 1, 90, .inl f_0)), (a_11, .inl (cy 1, 30, .inl f_1)), (a_12, .inl (cy 1, 240, .inl f_2)), (a_13, .inl (cy 1, 450, .inl f_3)), (a_15, .inl (cy 1, 7200, .inl f_4)), (a_16, .inl (cy 1, 3, .inl f_5)), (a_17, .inl (cy 1, 3, .inl f_6)), (a_18, .inl (cy 1, 8, .inl u.2.2.2)), (a_19, .inl (cy 3, 240, .inl f_8))]) (fun (r : Int32) (u : Int32 × Int32 × Int32 × (Nat → Int32)) => mm_rg u.1 0 8 ∧ mm_ar u.2.2.2 0 9 ∧ mm_rg r 0 2147483647) 0 0 := by
  refine mm_begin (lv := [(0, .ref a_0), (1, .int i_0), (2, .int i_1)]) (by decide) (Nat.le_of_ble_eq_true rfl) rfl ?_
  intro p e s m below meth c A ls R args Q H locs hRe hQ hAe hx hb hr hlocks hml hown hnm hts hsz hA hS hP hK hD hZ hl
  have hRf : R.frames = 3 := by rw [hRe]
  have hRl : R.locals = 73 := by rw [hRe]
  have hRc : R.cells = 0 := by rw [hRe]
  have hRs : R.slots = 0 := by rw [hRe]
  refine lv_iconst (v := 0) hx hb dX12_worstBy_0 (by decide) ?_
  refine lv_istore_n (lv' := [(3, .int 0), (0, .ref a_0), (1, .int i_0), (2, .int i_1)]) hx hb dX12_worstBy_1 rfl hl (by decide) rfl ?_
  clear hl
  clear ls
  intro ls hl
  refine lv_iconst (v := 0) hx hb dX12_worstBy_2 (by decide) ?_
  refine lv_istore (lv' := [(4, .int 0), (3, .int 0), (0, .ref a_0), (1, .int i_0), (2, .int i_1)]) hx hb dX12_worstBy_3 hl (by decide) rfl ?_
  clear hl
  clear ls
  intro ls hl
  have L5_10102 : ∀ (n : Nat) (x5_4_10097 : Int32) (x5_3_10098 : Int32) (y5_0_29_10099 : Int32) (y5_0_30_10100 : Int32) (y5_0_31_10101 : Int32) (z5_9_10102 : Nat → Int32), mm_rg x5_4_10097 0 210 → mm_rg x5_3_10098 0 2147483647 → mm_rg y5_0_29_10099 0 8 → mm_ar z5_9_10102 0 9 → (210 - x5_4_10097.toInt).toNat < n → ∀ (H : Heap) (locs : List Loc), va_P G vwCl [(a_0, .inr (12, [.int i_2, .ref a_1, .ref a_2, .ref a_3, .ref a_4, .ref a_5, .int i_3, .int i_4, .int i_5, .int i_6, .int i_7, .long j_0, .int i_8, .int i_9, .int i_10, .int i_11, .ref a_6, .ref a_7, .ref a_8, .ref a_9, .ref a_10, .ref a_11, .ref a_12, .ref a_13, .ref a_14, .ref a_15, .ref a_16, .ref a_17, .ref a_18, .int y5_0_29_10099, .int y5_0_30_10100, .int y5_0_31_10101, .int i_15, .int i_16, .int i_17, .ref a_19, .int i_18, .ref a_20])), (a_7, .inl (cy 1, 30, .inl (mm_g [i_19, i_20, i_21, i_22, i_23, i_24, i_25, i_26, i_27, i_28, i_29, i_30, i_31, i_32, i_33, i_34, i_35, i_36, i_37, i_38, i_39, i_40, i_41, i_42, i_43, i_44, i_45, i_46, i_47, i_48]))), (a_8, .inl (cy 1, 90, .inl f_0)), (a_11, .inl (cy 1, 30, .inl f_1)), (a_12, .inl (cy 1, 240, .inl f_2)), (a_13, .inl (cy 1, 450, .inl f_3)), (a_15, .inl (cy 1, 7200, .inl f_4)), (a_16, .inl (cy 1, 3, .inl f_5)), (a_17, .inl (cy 1, 3, .inl f_6)), (a_18, .inl (cy 1, 8, .inl z5_9_10102)), (a_19, .inl (cy 3, 240, .inl f_8))] H → va_D A [(a_0, .inr (12, [.int i_2, .ref a_1, .ref a_2, .ref a_3, .ref a_4, .ref a_5, .int i_3, .int i_4, .int i_5, .int i_6, .int i_7, .long j_0, .int i_8, .int i_9, .int i_10, .int i_11, .ref a_6, .ref a_7, .ref a_8, .ref a_9, .ref a_10, .ref a_11, .ref a_12, .ref a_13, .ref a_14, .ref a_15, .ref a_16, .ref a_17, .ref a_18, .int y5_0_29_10099, .int y5_0_30_10100, .int y5_0_31_10101, .int i_15, .int i_16, .int i_17, .ref a_19, .int i_18, .ref a_20])), (a_7, .inl (cy 1, 30, .inl (mm_g [i_19, i_20, i_21, i_22, i_23, i_24, i_25, i_26, i_27, i_28, i_29, i_30, i_31, i_32, i_33, i_34, i_35, i_36, i_37, i_38, i_39, i_40, i_41, i_42, i_43, i_44, i_45, i_46, i_47, i_48]))), (a_8, .inl (cy 1, 90, .inl f_0)), (a_11, .inl (cy 1, 30, .inl f_1)), (a_12, .inl (cy 1, 240, .inl f_2)), (a_13, .inl (cy 1, 450, .inl f_3)), (a_15, .inl (cy 1, 7200, .inl f_4)), (a_16, .inl (cy 1, 3, .inl f_5)), (a_17, .inl (cy 1, 3, .inl f_6)), (a_18, .inl (cy 1, 8, .inl z5_9_10102)), (a_19, .inl (cy 3, 240, .inl f_8))] → va_S A s.heap H locs → ∀ (ls : Array Slot), lv_has ls 8 [(4, .int x5_4_10097), (3, .int x5_3_10098), (0, .ref a_0), (1, .int i_0), (2, .int i_1)] → W p l e R s m args below meth c H locs 0 0 Q (F0 m 5 ls []) := by
    intro n
    induction n with
    | zero => intro x5_4_10097 x5_3_10098 y5_0_29_10099 y5_0_30_10100 y5_0_31_10101 z5_9_10102 rx5_4_10097 rx5_3_10098 ry5_0_29_10099 rz5_9_10102 hm; exact absurd hm (Nat.not_lt_zero _)
    | succ n ih5 =>
      intro x5_4_10097 x5_3_10098 y5_0_29_10099 y5_0_30_10100 y5_0_31_10101 z5_9_10102 rx5_4_10097 rx5_3_10098 ry5_0_29_10099 rz5_9_10102 hm5 H locs hP hD hS ls hl
      refine lv_iload hx hb dX12_worstBy_5 (lv_at hl 0 rfl) ?_
      refine lv_aload_n hx hb dX12_worstBy_7 rfl (lv_at hl 2 rfl) ?_
      refine va_get (D := G) (ci := 12) (v := .ref a_17) (C := RX12) (T := TX12) (N := 38) hx hb hts (mm_i inlX12) hown hK.1 hP 0 rfl rfl 27 (by decide) (mm_h hts mm_w159) (fun _ h9 => h9) rfl dX12_worstBy_8 ?_
      refine lv_iload_n hx hb dX12_worstBy_11 rfl (lv_at hl 3 rfl) ?_
      refine va_iald hx hb hK.1 hP 8 1 rfl rfl (mm_in h0 (by decide)) dX12_worstBy_12 ?_
      refine lv_topi (fun v10104 ev10104 => ?_)
      have rv10104 : mm_rg v10104 0 210 := mm_eqv ev10104 (h39 _)
      refine lv_icmp_ge (tgt := 114) hx hb dX12_worstBy_13 (by decide) (fun c10105 => ?_) (fun c10105 => ?_)
      · refine lv_iload_n hx hb dX12_worstBy_114 rfl (lv_at hl 1 rfl) ?_
        subst hAe
        rw [hQ]
        exact W.iret (v := x5_3_10098) hx hb hr (fun t ht hW => ⟨⟨x5_3_10098, (y5_0_29_10099, y5_0_30_10100, y5_0_31_10101, z5_9_10102), rfl, ⟨ry5_0_29_10099, rz5_9_10102, rx5_3_10098⟩, by rw [ht]; exact hP, hK.warm hW, hD⟩, hS.F ht⟩) hS.2.2 dX12_worstBy_115
      · have q10106 := mm_ltL (h := 209) (mm_nle c10105) rx5_4_10097 rv10104 (by decide)
        have q10107 := mm_ltR (lo := 1) (mm_nle c10105) rx5_4_10097 rv10104 (by decide)
        refine lv_aload_n hx hb dX12_worstBy_16 rfl (lv_at hl 2 rfl) ?_
        refine va_get (D := G) (ci := 12) (v := .ref a_19) (C := RX12) (T := TX12) (N := 38) hx hb hts (mm_i inlX12) hown hK.1 hP 0 rfl rfl 35 (by decide) (mm_h hts mm_w161) (fun _ h9 => h9) rfl dX12_worstBy_17 ?_
        refine lv_iload hx hb dX12_worstBy_20 (lv_at hl 0 rfl) ?_
        refine va_zald hx hb hK.1 hP 10 3 rfl rfl (mm_in q10106 (by decide)) dX12_worstBy_22 ?_
        refine lv_topi (fun v10108 ev10108 => ?_)
        have rv10108 : mm_rg v10108 0 1 := mm_eqv ev10108 (h41 _)
        refine lv_if_ne (tgt := 29) hx hb dX12_worstBy_23 (by decide) (fun c10109 => ?_) (fun c10109 => ?_)
        · have q10110 := mm_neL (lo := 1) (mm_ne c10109) rv10108 mm_k0 (by decide) (by decide)
          refine lv_aload_n hx hb dX12_worstBy_29 rfl (lv_at hl 2 rfl) ?_
          refine lv_iload_n hx hb dX12_worstBy_30 rfl (lv_at hl 3 rfl) ?_
          refine lv_iload hx hb dX12_worstBy_31 (lv_at hl 0 rfl) ?_
          refine lv_iload_n hx hb dX12_worstBy_33 rfl (lv_at hl 4 rfl) ?_
          refine mm_fini (va_runV (As := [.int i_0, .int x5_4_10097, .int i_1]) (rest := []) ⟨hx, hb, hml, hown, hts⟩ (M141_X12_reads l G cy H.size a_0 i_0 x5_4_10097 i_1 i_2 a_1 a_2 a_3 a_4 a_5 i_3 i_4 i_5 i_6 i_7 j_0 i_8 i_9 i_10 i_11 a_6 a_7 a_8 a_9 a_10 a_11 a_12 a_13 a_14 a_15 a_16 a_17 a_18 y5_0_29_10099 y5_0_30_10100 y5_0_31_10101 i_15 i_16 i_17 a_19 i_18 a_20 i_19 i_20 i_21 i_22 i_23 i_24 i_25 i_26 i_27 i_28 i_29 i_30 i_31 i_32 i_33 i_34 i_35 i_36 i_37 i_38 i_39 i_40 i_41 i_42 i_43 i_44 i_45 i_46 i_47 i_48 f_0 f_1 f_2 f_3 f_4 f_5 z5_9_10102 h0 (mm_wk q10106 (by decide)) h1 ry5_0_29_10099 h3 h4 h5 h6 h7 h8 h9 h10 h11 h12 h13 h14 h15 h16 h17 h18 h19 h20 h21 h22 h23 h24 h25 h26 h27 h28 h29 h30 h31 h32 h33 h34 h35 h36 h37 h38 rz5_9_10102 h42 h43 h44 h45 h46 h47 h48 h49 h50) (cwV 3 hts (mm_gV mm_w852 mm_w853 mm_w854 mm_w5 mm_w855) rfl rfl rfl hd_X12_reads ⟨by rw [hRf]; exact Nat.le_of_ble_eq_true rfl, by rw [hRl]; exact Nat.le_of_ble_eq_true rfl⟩) (mm_preV hK hZ hS hA hP hD [0, 1, 2, 3, 4, 5, 6, 7, 9] rfl rfl 0 rfl rfl rfl) rfl rfl hl.1 rfl (lv_room (Nat.le_of_ble_eq_true rfl)) dX12_worstBy_34 ⟨by rw [hRc]; exact Nat.le_of_ble_eq_true rfl, by rw [hRs]; exact Nat.le_of_ble_eq_true rfl⟩) hP hD hS hA (fun u : Int32 × Int32 × Int32 × (Nat → Int32) => [(a_0, .inr (12, [.int i_2, .ref a_1, .ref a_2, .ref a_3, .ref a_4, .ref a_5, .int i_3, .int i_4, .int i_5, .int i_6, .int i_7, .long j_0, .int i_8, .int i_9, .int i_10, .int i_11, .ref a_6, .ref a_7, .ref a_8, .ref a_9, .ref a_10, .ref a_11, .ref a_12, .ref a_13, .ref a_14, .ref a_15, .ref a_16, .ref a_17, .ref a_18, .int u.1, .int u.2.1, .int u.2.2.1, .int i_15, .int i_16, .int i_17, .ref a_19, .int i_18, .ref a_20])), (a_7, .inl (cy 1, 30, .inl (mm_g [i_19, i_20, i_21, i_22, i_23, i_24, i_25, i_26, i_27, i_28, i_29, i_30, i_31, i_32, i_33, i_34, i_35, i_36, i_37, i_38, i_39, i_40, i_41, i_42, i_43, i_44, i_45, i_46, i_47, i_48]))), (a_8, .inl (cy 1, 90, .inl f_0)), (a_11, .inl (cy 1, 30, .inl f_1)), (a_12, .inl (cy 1, 240, .inl f_2)), (a_13, .inl (cy 1, 450, .inl f_3)), (a_15, .inl (cy 1, 7200, .inl f_4)), (a_16, .inl (cy 1, 3, .inl f_5)), (a_17, .inl (cy 1, 3, .inl f_6)), (a_18, .inl (cy 1, 8, .inl u.2.2.2)), (a_19, .inl (cy 3, 240, .inl f_8))]) [0, 1, 2, 3, 4, 5, 6, 7, 9] [8, 10] (n := 11) (fun _ => rfl) (by decide +kernel) (by decide +kernel) rfl (fun _ => rfl) (wr := [(a_17, .inl (cy 1, 3, .inl f_6)), (a_19, .inl (cy 3, 240, .inl f_8))]) rfl (fun _ => rfl) (fun _ => @rfl _ ([a_0, a_7, a_8, a_11, a_12, a_13, a_15, a_16, a_18] : List Nat)) ?_
          clear hP hD hS
          clear H locs
          intro v10115 u
          obtain ⟨n10111, n10112, n10113, n10114⟩ := u
          intro H locs hw (hP : va_P G vwCl [(a_0, .inr (12, [.int i_2, .ref a_1, .ref a_2, .ref a_3, .ref a_4, .ref a_5, .int i_3, .int i_4, .int i_5, .int i_6, .int i_7, .long j_0, .int i_8, .int i_9, .int i_10, .int i_11, .ref a_6, .ref a_7, .ref a_8, .ref a_9, .ref a_10, .ref a_11, .ref a_12, .ref a_13, .ref a_14, .ref a_15, .ref a_16, .ref a_17, .ref a_18, .int n10111, .int n10112, .int n10113, .int i_15, .int i_16, .int i_17, .ref a_19, .int i_18, .ref a_20])), (a_7, .inl (cy 1, 30, .inl (mm_g [i_19, i_20, i_21, i_22, i_23, i_24, i_25, i_26, i_27, i_28, i_29, i_30, i_31, i_32, i_33, i_34, i_35, i_36, i_37, i_38, i_39, i_40, i_41, i_42, i_43, i_44, i_45, i_46, i_47, i_48]))), (a_8, .inl (cy 1, 90, .inl f_0)), (a_11, .inl (cy 1, 30, .inl f_1)), (a_12, .inl (cy 1, 240, .inl f_2)), (a_13, .inl (cy 1, 450, .inl f_3)), (a_15, .inl (cy 1, 7200, .inl f_4)), (a_16, .inl (cy 1, 3, .inl f_5)), (a_17, .inl (cy 1, 3, .inl f_6)), (a_18, .inl (cy 1, 8, .inl n10114)), (a_19, .inl (cy 3, 240, .inl f_8))] H) (hD : va_D A [(a_0, .inr (12, [.int i_2, .ref a_1, .ref a_2, .ref a_3, .ref a_4, .ref a_5, .int i_3, .int i_4, .int i_5, .int i_6, .int i_7, .long j_0, .int i_8, .int i_9, .int i_10, .int i_11, .ref a_6, .ref a_7, .ref a_8, .ref a_9, .ref a_10, .ref a_11, .ref a_12, .ref a_13, .ref a_14, .ref a_15, .ref a_16, .ref a_17, .ref a_18, .int n10111, .int n10112, .int n10113, .int i_15, .int i_16, .int i_17, .ref a_19, .int i_18, .ref a_20])), (a_7, .inl (cy 1, 30, .inl (mm_g [i_19, i_20, i_21, i_22, i_23, i_24, i_25, i_26, i_27, i_28, i_29, i_30, i_31, i_32, i_33, i_34, i_35, i_36, i_37, i_38, i_39, i_40, i_41, i_42, i_43, i_44, i_45, i_46, i_47, i_48]))), (a_8, .inl (cy 1, 90, .inl f_0)), (a_11, .inl (cy 1, 30, .inl f_1)), (a_12, .inl (cy 1, 240, .inl f_2)), (a_13, .inl (cy 1, 450, .inl f_3)), (a_15, .inl (cy 1, 7200, .inl f_4)), (a_16, .inl (cy 1, 3, .inl f_5)), (a_17, .inl (cy 1, 3, .inl f_6)), (a_18, .inl (cy 1, 8, .inl n10114)), (a_19, .inl (cy 3, 240, .inl f_8))]) hS
          obtain ⟨w10116, w10117, hw⟩ := hw
          obtain ⟨w10118, w10119⟩ := hw
          replace w10119 : mm_rd f_4 f_5 f_0 f_1 f_2 f_3 i_0 x5_4_10097 i_1 i_20 i_21 i_24 v10115 := w10119
          refine lv_istore (lv' := [(5, .int v10115), (4, .int x5_4_10097), (3, .int x5_3_10098), (0, .ref a_0), (1, .int i_0), (2, .int i_1)]) hx hb dX12_worstBy_37 hl (by decide) rfl ?_
          clear hl
          clear ls
          intro ls hl
          refine lv_iconst (v := 0) hx hb dX12_worstBy_39 (by decide) ?_
          refine lv_istore (lv' := [(6, .int 0), (5, .int v10115), (4, .int x5_4_10097), (3, .int x5_3_10098), (0, .ref a_0), (1, .int i_0), (2, .int i_1)]) hx hb dX12_worstBy_40 hl (by decide) rfl ?_
          clear hl
          clear ls
          intro ls hl
          refine lv_iconst (v := 0) hx hb dX12_worstBy_42 (by decide) ?_
          refine lv_istore (lv' := [(7, .int 0), (6, .int 0), (5, .int v10115), (4, .int x5_4_10097), (3, .int x5_3_10098), (0, .ref a_0), (1, .int i_0), (2, .int i_1)]) hx hb dX12_worstBy_43 hl (by decide) rfl ?_
          clear hl
          clear ls
          intro ls hl
          have L45_10708 : ∀ (n : Nat) (x45_7_10703 : Int32) (x45_6_10704 : Int32) (y45_0_29_10705 : Int32) (y45_0_30_10706 : Int32) (y45_0_31_10707 : Int32) (z45_9_10708 : Nat → Int32), mm_rg x45_7_10703 0 210 → mm_rg y45_0_29_10705 0 8 → mm_ar z45_9_10708 0 9 → (210 - x45_7_10703.toInt).toNat < n → ∀ (H : Heap) (locs : List Loc), va_P G vwCl [(a_0, .inr (12, [.int i_2, .ref a_1, .ref a_2, .ref a_3, .ref a_4, .ref a_5, .int i_3, .int i_4, .int i_5, .int i_6, .int i_7, .long j_0, .int i_8, .int i_9, .int i_10, .int i_11, .ref a_6, .ref a_7, .ref a_8, .ref a_9, .ref a_10, .ref a_11, .ref a_12, .ref a_13, .ref a_14, .ref a_15, .ref a_16, .ref a_17, .ref a_18, .int y45_0_29_10705, .int y45_0_30_10706, .int y45_0_31_10707, .int i_15, .int i_16, .int i_17, .ref a_19, .int i_18, .ref a_20])), (a_7, .inl (cy 1, 30, .inl (mm_g [i_19, i_20, i_21, i_22, i_23, i_24, i_25, i_26, i_27, i_28, i_29, i_30, i_31, i_32, i_33, i_34, i_35, i_36, i_37, i_38, i_39, i_40, i_41, i_42, i_43, i_44, i_45, i_46, i_47, i_48]))), (a_8, .inl (cy 1, 90, .inl f_0)), (a_11, .inl (cy 1, 30, .inl f_1)), (a_12, .inl (cy 1, 240, .inl f_2)), (a_13, .inl (cy 1, 450, .inl f_3)), (a_15, .inl (cy 1, 7200, .inl f_4)), (a_16, .inl (cy 1, 3, .inl f_5)), (a_17, .inl (cy 1, 3, .inl f_6)), (a_18, .inl (cy 1, 8, .inl z45_9_10708)), (a_19, .inl (cy 3, 240, .inl f_8))] H → va_D A [(a_0, .inr (12, [.int i_2, .ref a_1, .ref a_2, .ref a_3, .ref a_4, .ref a_5, .int i_3, .int i_4, .int i_5, .int i_6, .int i_7, .long j_0, .int i_8, .int i_9, .int i_10, .int i_11, .ref a_6, .ref a_7, .ref a_8, .ref a_9, .ref a_10, .ref a_11, .ref a_12, .ref a_13, .ref a_14, .ref a_15, .ref a_16, .ref a_17, .ref a_18, .int y45_0_29_10705, .int y45_0_30_10706, .int y45_0_31_10707, .int i_15, .int i_16, .int i_17, .ref a_19, .int i_18, .ref a_20])), (a_7, .inl (cy 1, 30, .inl (mm_g [i_19, i_20, i_21, i_22, i_23, i_24, i_25, i_26, i_27, i_28, i_29, i_30, i_31, i_32, i_33, i_34, i_35, i_36, i_37, i_38, i_39, i_40, i_41, i_42, i_43, i_44, i_45, i_46, i_47, i_48]))), (a_8, .inl (cy 1, 90, .inl f_0)), (a_11, .inl (cy 1, 30, .inl f_1)), (a_12, .inl (cy 1, 240, .inl f_2)), (a_13, .inl (cy 1, 450, .inl f_3)), (a_15, .inl (cy 1, 7200, .inl f_4)), (a_16, .inl (cy 1, 3, .inl f_5)), (a_17, .inl (cy 1, 3, .inl f_6)), (a_18, .inl (cy 1, 8, .inl z45_9_10708)), (a_19, .inl (cy 3, 240, .inl f_8))] → va_S A s.heap H locs → ∀ (ls : Array Slot), lv_has ls 8 [(7, .int x45_7_10703), (6, .int x45_6_10704), (5, .int v10115), (4, .int x5_4_10097), (3, .int x5_3_10098), (0, .ref a_0), (1, .int i_0), (2, .int i_1)] → W p l e R s m args below meth c H locs 0 0 Q (F0 m 45 ls []) := by
            intro n
            induction n with
            | zero => intro x45_7_10703 x45_6_10704 y45_0_29_10705 y45_0_30_10706 y45_0_31_10707 z45_9_10708 rx45_7_10703 ry45_0_29_10705 rz45_9_10708 hm; exact absurd hm (Nat.not_lt_zero _)
            | succ n ih45 =>
              intro x45_7_10703 x45_6_10704 y45_0_29_10705 y45_0_30_10706 y45_0_31_10707 z45_9_10708 rx45_7_10703 ry45_0_29_10705 rz45_9_10708 hm45 H locs hP hD hS ls hl
              refine lv_iload hx hb dX12_worstBy_45 (lv_at hl 0 rfl) ?_
              refine lv_aload_n hx hb dX12_worstBy_47 rfl (lv_at hl 5 rfl) ?_
              refine va_get (D := G) (ci := 12) (v := .ref a_17) (C := RX12) (T := TX12) (N := 38) hx hb hts (mm_i inlX12) hown hK.1 hP 0 rfl rfl 27 (by decide) (mm_h hts mm_w159) (fun _ h9 => h9) rfl dX12_worstBy_48 ?_
              refine lv_iload_n hx hb dX12_worstBy_51 rfl (lv_at hl 6 rfl) ?_
              refine va_iald hx hb hK.1 hP 8 1 rfl rfl (mm_in h0 (by decide)) dX12_worstBy_52 ?_
              refine lv_topi (fun v10710 ev10710 => ?_)
              have rv10710 : mm_rg v10710 0 210 := mm_eqv ev10710 (h39 _)
              obtain rfl : v10104 = v10710 := ev10104.trans ev10710.symm
              refine lv_icmp_ge (tgt := 95) hx hb dX12_worstBy_53 (by decide) (fun c10711 => ?_) (fun c10711 => ?_)
              · have q10712 := mm_leR (mm_le c10711) q10107 rx45_7_10703
                refine lv_iload hx hb dX12_worstBy_95 (lv_at hl 1 rfl) ?_
                refine lv_iload_n hx hb dX12_worstBy_97 rfl (lv_at hl 4 rfl) ?_
                refine lv_icmp_le (tgt := 106) hx hb dX12_worstBy_98 (by decide) (fun c10713 => ?_) (fun c10713 => ?_)
                · refine lv_iload_n hx hb dX12_worstBy_106 rfl (lv_at hl 4 rfl) ?_
                  refine lv_istore_n (lv' := [(3, .int x5_3_10098), (7, .int x45_7_10703), (6, .int x45_6_10704), (5, .int v10115), (4, .int x5_4_10097), (0, .ref a_0), (1, .int i_0), (2, .int i_1)]) hx hb dX12_worstBy_107 rfl hl (by decide) rfl ?_
                  clear hl
                  clear ls
                  intro ls hl
                  obtain ⟨v10714, ev10714⟩ : ∃ y : Int32, y = x5_4_10097 + 1 := ⟨_, rfl⟩
                  refine lv_iinc (v := v10714) (lv' := [(4, .int v10714), (3, .int x5_3_10098), (7, .int x45_7_10703), (6, .int x45_6_10704), (5, .int v10115), (0, .ref a_0), (1, .int i_0), (2, .int i_1)]) hx hb dX12_worstBy_108 hl (k := 4) rfl (by rw [ev10714]; rfl) (by decide) rfl ?_
                  clear hl
                  clear ls
                  intro ls hl
                  have rv10714 : mm_rg v10714 1 210 := mm_add ev10714 q10106 mm_k1 (by decide) (by decide)
                  have tv10714 := mm_addEc ev10714 q10106 mm_k1 (by decide) (k := 1) (by decide)
                  refine lv_goto (tgt := 5) hx hb dX12_worstBy_111 (by decide) ?_
                  exact ih5 v10714 x5_3_10098 y45_0_29_10705 y45_0_30_10706 y45_0_31_10707 z45_9_10708 (mm_wk rv10714 (by decide)) rx5_3_10098 ry45_0_29_10705 rz45_9_10708 (mm_mu hm5 tv10714 (by decide) (rv10714).2 (by decide)) H locs hP hD hS ls (lv_sub hl [0, 1, 5, 6, 7] rfl)
                · have q10715 := mm_ltL (h := 2147483646) (mm_nle c10713) rx5_3_10098 (mm_top x45_6_10704) (by decide)
                  have q10716 := mm_ltR (lo := 1) (mm_nle c10713) rx5_3_10098 (mm_top x45_6_10704) (by decide)
                  refine lv_iload hx hb dX12_worstBy_101 (lv_at hl 1 rfl) ?_
                  refine lv_goto (tgt := 107) hx hb dX12_worstBy_103 (by decide) ?_
                  refine lv_istore_n (lv' := [(3, .int x45_6_10704), (7, .int x45_7_10703), (6, .int x45_6_10704), (5, .int v10115), (4, .int x5_4_10097), (0, .ref a_0), (1, .int i_0), (2, .int i_1)]) hx hb dX12_worstBy_107 rfl hl (by decide) rfl ?_
                  clear hl
                  clear ls
                  intro ls hl
                  obtain ⟨v10717, ev10717⟩ : ∃ y : Int32, y = x5_4_10097 + 1 := ⟨_, rfl⟩
                  refine lv_iinc (v := v10717) (lv' := [(4, .int v10717), (3, .int x45_6_10704), (7, .int x45_7_10703), (6, .int x45_6_10704), (5, .int v10115), (0, .ref a_0), (1, .int i_0), (2, .int i_1)]) hx hb dX12_worstBy_108 hl (k := 4) rfl (by rw [ev10717]; rfl) (by decide) rfl ?_
                  clear hl
                  clear ls
                  intro ls hl
                  have rv10717 : mm_rg v10717 1 210 := mm_add ev10717 q10106 mm_k1 (by decide) (by decide)
                  have tv10717 := mm_addEc ev10717 q10106 mm_k1 (by decide) (k := 1) (by decide)
                  refine lv_goto (tgt := 5) hx hb dX12_worstBy_111 (by decide) ?_
                  exact ih5 v10717 x45_6_10704 y45_0_29_10705 y45_0_30_10706 y45_0_31_10707 z45_9_10708 (mm_wk rv10717 (by decide)) (mm_wk q10716 (by decide)) ry45_0_29_10705 rz45_9_10708 (mm_mu hm5 tv10717 (by decide) (rv10717).2 (by decide)) H locs hP hD hS ls (lv_sub hl [0, 1, 5, 6, 7] rfl)
              · have q10718 := mm_ltL (h := 209) (mm_nle c10711) rx45_7_10703 q10107 (by decide)
                refine lv_iload hx hb dX12_worstBy_56 (lv_at hl 1 rfl) ?_
                refine lv_aload_n hx hb dX12_worstBy_58 rfl (lv_at hl 5 rfl) ?_
                refine va_get (D := G) (ci := 12) (v := .ref a_19) (C := RX12) (T := TX12) (N := 38) hx hb hts (mm_i inlX12) hown hK.1 hP 0 rfl rfl 35 (by decide) (mm_h hts mm_w161) (fun _ h9 => h9) rfl dX12_worstBy_59 ?_
                refine lv_iload hx hb dX12_worstBy_62 (lv_at hl 0 rfl) ?_
                refine va_zald hx hb hK.1 hP 10 3 rfl rfl (mm_in q10718 (by decide)) dX12_worstBy_64 ?_
                refine lv_topi (fun v10719 ev10719 => ?_)
                have rv10719 : mm_rg v10719 0 1 := mm_eqv ev10719 (h41 _)
                refine lv_if_eq (tgt := 85) hx hb dX12_worstBy_65 (by decide) (fun c10720 => ?_) (fun c10720 => ?_)
                · have q10721 := mm_eqI (lo := 0) (hi := 0) c10720 rv10719 mm_k0 (by decide)
                  refine lv_iconst (v := 0) hx hb dX12_worstBy_85 (by decide) ?_
                  refine lv_iadd hx hb dX12_worstBy_86 ?_
                  refine lv_topi (fun v10722 ev10722 => ?_)
                  have rv10722 : mm_rg v10722 (-2147483648) 2147483647 := mm_add ev10722 (mm_top x45_6_10704) mm_k0 (by decide) (by decide)
                  have tv10722 := mm_addEc ev10722 (mm_top x45_6_10704) mm_k0 (by decide) (k := 0) (by decide)
                  refine lv_istore (lv' := [(6, .int v10722), (7, .int x45_7_10703), (5, .int v10115), (4, .int x5_4_10097), (3, .int x5_3_10098), (0, .ref a_0), (1, .int i_0), (2, .int i_1)]) hx hb dX12_worstBy_87 hl (by decide) rfl ?_
                  clear hl
                  clear ls
                  intro ls hl
                  obtain ⟨v10723, ev10723⟩ : ∃ y : Int32, y = x45_7_10703 + 1 := ⟨_, rfl⟩
                  refine lv_iinc (v := v10723) (lv' := [(7, .int v10723), (6, .int v10722), (5, .int v10115), (4, .int x5_4_10097), (3, .int x5_3_10098), (0, .ref a_0), (1, .int i_0), (2, .int i_1)]) hx hb dX12_worstBy_89 hl (k := 1) rfl (by rw [ev10723]; rfl) (by decide) rfl ?_
                  clear hl
                  clear ls
                  intro ls hl
                  have rv10723 : mm_rg v10723 1 210 := mm_add ev10723 q10718 mm_k1 (by decide) (by decide)
                  have tv10723 := mm_addEc ev10723 q10718 mm_k1 (by decide) (k := 1) (by decide)
                  refine lv_goto (tgt := 45) hx hb dX12_worstBy_92 (by decide) ?_
                  exact ih45 v10723 v10722 y45_0_29_10705 y45_0_30_10706 y45_0_31_10707 z45_9_10708 (mm_wk rv10723 (by decide)) ry45_0_29_10705 rz45_9_10708 (mm_mu hm45 tv10723 (by decide) (rv10723).2 (by decide)) H locs hP hD hS ls (lv_sub hl [0, 1, 2, 3, 4, 5, 6, 7] rfl)
                · have q10724 := mm_neL (lo := 1) (mm_ne c10720) rv10719 mm_k0 (by decide) (by decide)
                  refine lv_aload_n hx hb dX12_worstBy_68 rfl (lv_at hl 5 rfl) ?_
                  refine lv_iload_n hx hb dX12_worstBy_69 rfl (lv_at hl 6 rfl) ?_
                  refine lv_iload hx hb dX12_worstBy_70 (lv_at hl 0 rfl) ?_
                  refine lv_iload_n hx hb dX12_worstBy_72 rfl (lv_at hl 7 rfl) ?_
                  refine mm_fini (va_runV (As := [.int i_0, .int x45_7_10703, .int i_1]) (rest := [.int x45_6_10704]) ⟨hx, hb, hml, hown, hts⟩ (M141_X12_reads l G cy H.size a_0 i_0 x45_7_10703 i_1 i_2 a_1 a_2 a_3 a_4 a_5 i_3 i_4 i_5 i_6 i_7 j_0 i_8 i_9 i_10 i_11 a_6 a_7 a_8 a_9 a_10 a_11 a_12 a_13 a_14 a_15 a_16 a_17 a_18 y45_0_29_10705 y45_0_30_10706 y45_0_31_10707 i_15 i_16 i_17 a_19 i_18 a_20 i_19 i_20 i_21 i_22 i_23 i_24 i_25 i_26 i_27 i_28 i_29 i_30 i_31 i_32 i_33 i_34 i_35 i_36 i_37 i_38 i_39 i_40 i_41 i_42 i_43 i_44 i_45 i_46 i_47 i_48 f_0 f_1 f_2 f_3 f_4 f_5 z45_9_10708 h0 (mm_wk q10718 (by decide)) h1 ry45_0_29_10705 h3 h4 h5 h6 h7 h8 h9 h10 h11 h12 h13 h14 h15 h16 h17 h18 h19 h20 h21 h22 h23 h24 h25 h26 h27 h28 h29 h30 h31 h32 h33 h34 h35 h36 h37 h38 rz45_9_10708 h42 h43 h44 h45 h46 h47 h48 h49 h50) (cwV 3 hts (mm_gV mm_w852 mm_w853 mm_w854 mm_w5 mm_w855) rfl rfl rfl hd_X12_reads ⟨by rw [hRf]; exact Nat.le_of_ble_eq_true rfl, by rw [hRl]; exact Nat.le_of_ble_eq_true rfl⟩) (mm_preV hK hZ hS hA hP hD [0, 1, 2, 3, 4, 5, 6, 7, 9] rfl rfl 0 rfl rfl rfl) rfl rfl hl.1 rfl (lv_room (Nat.le_of_ble_eq_true rfl)) dX12_worstBy_73 ⟨by rw [hRc]; exact Nat.le_of_ble_eq_true rfl, by rw [hRs]; exact Nat.le_of_ble_eq_true rfl⟩) hP hD hS hA (fun u : Int32 × Int32 × Int32 × (Nat → Int32) => [(a_0, .inr (12, [.int i_2, .ref a_1, .ref a_2, .ref a_3, .ref a_4, .ref a_5, .int i_3, .int i_4, .int i_5, .int i_6, .int i_7, .long j_0, .int i_8, .int i_9, .int i_10, .int i_11, .ref a_6, .ref a_7, .ref a_8, .ref a_9, .ref a_10, .ref a_11, .ref a_12, .ref a_13, .ref a_14, .ref a_15, .ref a_16, .ref a_17, .ref a_18, .int u.1, .int u.2.1, .int u.2.2.1, .int i_15, .int i_16, .int i_17, .ref a_19, .int i_18, .ref a_20])), (a_7, .inl (cy 1, 30, .inl (mm_g [i_19, i_20, i_21, i_22, i_23, i_24, i_25, i_26, i_27, i_28, i_29, i_30, i_31, i_32, i_33, i_34, i_35, i_36, i_37, i_38, i_39, i_40, i_41, i_42, i_43, i_44, i_45, i_46, i_47, i_48]))), (a_8, .inl (cy 1, 90, .inl f_0)), (a_11, .inl (cy 1, 30, .inl f_1)), (a_12, .inl (cy 1, 240, .inl f_2)), (a_13, .inl (cy 1, 450, .inl f_3)), (a_15, .inl (cy 1, 7200, .inl f_4)), (a_16, .inl (cy 1, 3, .inl f_5)), (a_17, .inl (cy 1, 3, .inl f_6)), (a_18, .inl (cy 1, 8, .inl u.2.2.2)), (a_19, .inl (cy 3, 240, .inl f_8))]) [0, 1, 2, 3, 4, 5, 6, 7, 9] [8, 10] (n := 11) (fun _ => rfl) (by decide +kernel) (by decide +kernel) rfl (fun _ => rfl) (wr := [(a_17, .inl (cy 1, 3, .inl f_6)), (a_19, .inl (cy 3, 240, .inl f_8))]) rfl (fun _ => rfl) (fun _ => @rfl _ ([a_0, a_7, a_8, a_11, a_12, a_13, a_15, a_16, a_18] : List Nat)) ?_
                  clear hP hD hS
                  clear H locs
                  intro v10729 u
                  obtain ⟨n10725, n10726, n10727, n10728⟩ := u
                  intro H locs hw (hP : va_P G vwCl [(a_0, .inr (12, [.int i_2, .ref a_1, .ref a_2, .ref a_3, .ref a_4, .ref a_5, .int i_3, .int i_4, .int i_5, .int i_6, .int i_7, .long j_0, .int i_8, .int i_9, .int i_10, .int i_11, .ref a_6, .ref a_7, .ref a_8, .ref a_9, .ref a_10, .ref a_11, .ref a_12, .ref a_13, .ref a_14, .ref a_15, .ref a_16, .ref a_17, .ref a_18, .int n10725, .int n10726, .int n10727, .int i_15, .int i_16, .int i_17, .ref a_19, .int i_18, .ref a_20])), (a_7, .inl (cy 1, 30, .inl (mm_g [i_19, i_20, i_21, i_22, i_23, i_24, i_25, i_26, i_27, i_28, i_29, i_30, i_31, i_32, i_33, i_34, i_35, i_36, i_37, i_38, i_39, i_40, i_41, i_42, i_43, i_44, i_45, i_46, i_47, i_48]))), (a_8, .inl (cy 1, 90, .inl f_0)), (a_11, .inl (cy 1, 30, .inl f_1)), (a_12, .inl (cy 1, 240, .inl f_2)), (a_13, .inl (cy 1, 450, .inl f_3)), (a_15, .inl (cy 1, 7200, .inl f_4)), (a_16, .inl (cy 1, 3, .inl f_5)), (a_17, .inl (cy 1, 3, .inl f_6)), (a_18, .inl (cy 1, 8, .inl n10728)), (a_19, .inl (cy 3, 240, .inl f_8))] H) (hD : va_D A [(a_0, .inr (12, [.int i_2, .ref a_1, .ref a_2, .ref a_3, .ref a_4, .ref a_5, .int i_3, .int i_4, .int i_5, .int i_6, .int i_7, .long j_0, .int i_8, .int i_9, .int i_10, .int i_11, .ref a_6, .ref a_7, .ref a_8, .ref a_9, .ref a_10, .ref a_11, .ref a_12, .ref a_13, .ref a_14, .ref a_15, .ref a_16, .ref a_17, .ref a_18, .int n10725, .int n10726, .int n10727, .int i_15, .int i_16, .int i_17, .ref a_19, .int i_18, .ref a_20])), (a_7, .inl (cy 1, 30, .inl (mm_g [i_19, i_20, i_21, i_22, i_23, i_24, i_25, i_26, i_27, i_28, i_29, i_30, i_31, i_32, i_33, i_34, i_35, i_36, i_37, i_38, i_39, i_40, i_41, i_42, i_43, i_44, i_45, i_46, i_47, i_48]))), (a_8, .inl (cy 1, 90, .inl f_0)), (a_11, .inl (cy 1, 30, .inl f_1)), (a_12, .inl (cy 1, 240, .inl f_2)), (a_13, .inl (cy 1, 450, .inl f_3)), (a_15, .inl (cy 1, 7200, .inl f_4)), (a_16, .inl (cy 1, 3, .inl f_5)), (a_17, .inl (cy 1, 3, .inl f_6)), (a_18, .inl (cy 1, 8, .inl n10728)), (a_19, .inl (cy 3, 240, .inl f_8))]) hS
                  obtain ⟨w10730, w10731, hw⟩ := hw
                  obtain ⟨w10732, w10733⟩ := hw
                  replace w10733 : mm_rd f_4 f_5 f_0 f_1 f_2 f_3 i_0 x45_7_10703 i_1 i_20 i_21 i_24 v10729 := w10733
                  refine lv_iload hx hb dX12_worstBy_76 (lv_at hl 2 rfl) ?_
                  refine lv_icmp_ne (tgt := 85) hx hb dX12_worstBy_78 (by decide) (fun c10734 => ?_) (fun c10734 => ?_)
                  · refine lv_iconst (v := 0) hx hb dX12_worstBy_85 (by decide) ?_
                    refine lv_iadd hx hb dX12_worstBy_86 ?_
                    refine lv_topi (fun v10735 ev10735 => ?_)
                    have rv10735 : mm_rg v10735 (-2147483648) 2147483647 := mm_add ev10735 (mm_top x45_6_10704) mm_k0 (by decide) (by decide)
                    have tv10735 := mm_addEc ev10735 (mm_top x45_6_10704) mm_k0 (by decide) (k := 0) (by decide)
                    refine lv_istore (lv' := [(6, .int v10735), (7, .int x45_7_10703), (5, .int v10115), (4, .int x5_4_10097), (3, .int x5_3_10098), (0, .ref a_0), (1, .int i_0), (2, .int i_1)]) hx hb dX12_worstBy_87 hl (by decide) rfl ?_
                    clear hl
                    clear ls
                    intro ls hl
                    obtain ⟨v10736, ev10736⟩ : ∃ y : Int32, y = x45_7_10703 + 1 := ⟨_, rfl⟩
                    refine lv_iinc (v := v10736) (lv' := [(7, .int v10736), (6, .int v10735), (5, .int v10115), (4, .int x5_4_10097), (3, .int x5_3_10098), (0, .ref a_0), (1, .int i_0), (2, .int i_1)]) hx hb dX12_worstBy_89 hl (k := 1) rfl (by rw [ev10736]; rfl) (by decide) rfl ?_
                    clear hl
                    clear ls
                    intro ls hl
                    have rv10736 : mm_rg v10736 1 210 := mm_add ev10736 q10718 mm_k1 (by decide) (by decide)
                    have tv10736 := mm_addEc ev10736 q10718 mm_k1 (by decide) (k := 1) (by decide)
                    refine lv_goto (tgt := 45) hx hb dX12_worstBy_92 (by decide) ?_
                    exact ih45 v10736 v10735 n10725 n10726 n10727 n10728 (mm_wk rv10736 (by decide)) w10730 w10731 (mm_mu hm45 tv10736 (by decide) (rv10736).2 (by decide)) H locs hP hD hS ls (lv_sub hl [0, 1, 2, 3, 4, 5, 6, 7] rfl)
                  · refine lv_iconst (v := 1) hx hb dX12_worstBy_81 (by decide) ?_
                    refine lv_goto (tgt := 86) hx hb dX12_worstBy_82 (by decide) ?_
                    refine lv_iadd hx hb dX12_worstBy_86 ?_
                    refine lv_topi (fun v10737 ev10737 => ?_)
                    refine lv_istore (lv' := [(6, .int v10737), (7, .int x45_7_10703), (5, .int v10115), (4, .int x5_4_10097), (3, .int x5_3_10098), (0, .ref a_0), (1, .int i_0), (2, .int i_1)]) hx hb dX12_worstBy_87 hl (by decide) rfl ?_
                    clear hl
                    clear ls
                    intro ls hl
                    obtain ⟨v10738, ev10738⟩ : ∃ y : Int32, y = x45_7_10703 + 1 := ⟨_, rfl⟩
                    refine lv_iinc (v := v10738) (lv' := [(7, .int v10738), (6, .int v10737), (5, .int v10115), (4, .int x5_4_10097), (3, .int x5_3_10098), (0, .ref a_0), (1, .int i_0), (2, .int i_1)]) hx hb dX12_worstBy_89 hl (k := 1) rfl (by rw [ev10738]; rfl) (by decide) rfl ?_
                    clear hl
                    clear ls
                    intro ls hl
                    have rv10738 : mm_rg v10738 1 210 := mm_add ev10738 q10718 mm_k1 (by decide) (by decide)
                    have tv10738 := mm_addEc ev10738 q10718 mm_k1 (by decide) (k := 1) (by decide)
                    refine lv_goto (tgt := 45) hx hb dX12_worstBy_92 (by decide) ?_
                    exact ih45 v10738 v10737 n10725 n10726 n10727 n10728 (mm_wk rv10738 (by decide)) w10730 w10731 (mm_mu hm45 tv10738 (by decide) (rv10738).2 (by decide)) H locs hP hD hS ls (lv_sub hl [0, 1, 2, 3, 4, 5, 6, 7] rfl)
          exact L45_10708 _ 0 0 n10111 n10112 n10113 n10114 (mm_wk mm_k0 (by decide)) w10116 w10117 (Nat.lt_succ_self _) H locs hP hD hS ls (lv_sub hl [0, 1, 2, 3, 4, 5, 6, 7] rfl)
        · have q10739 := mm_eqI (lo := 0) (hi := 0) c10109 rv10108 mm_k0 (by decide)
          refine lv_goto (tgt := 108) hx hb dX12_worstBy_26 (by decide) ?_
          obtain ⟨v10740, ev10740⟩ : ∃ y : Int32, y = x5_4_10097 + 1 := ⟨_, rfl⟩
          refine lv_iinc (v := v10740) (lv' := [(4, .int v10740), (3, .int x5_3_10098), (0, .ref a_0), (1, .int i_0), (2, .int i_1)]) hx hb dX12_worstBy_108 hl (k := 0) rfl (by rw [ev10740]; rfl) (by decide) rfl ?_
          clear hl
          clear ls
          intro ls hl
          have rv10740 : mm_rg v10740 1 210 := mm_add ev10740 q10106 mm_k1 (by decide) (by decide)
          have tv10740 := mm_addEc ev10740 q10106 mm_k1 (by decide) (k := 1) (by decide)
          refine lv_goto (tgt := 5) hx hb dX12_worstBy_111 (by decide) ?_
          exact ih5 v10740 x5_3_10098 y5_0_29_10099 y5_0_30_10100 y5_0_31_10101 z5_9_10102 (mm_wk rv10740 (by decide)) rx5_3_10098 ry5_0_29_10099 rz5_9_10102 (mm_mu hm5 tv10740 (by decide) (rv10740).2 (by decide)) H locs hP hD hS ls (lv_sub hl [0, 1, 2, 3, 4] rfl)
  exact L5_10102 _ 0 0 i_12 i_13 i_14 f_7 (mm_wk mm_k0 (by decide)) (mm_wk mm_k0 (by decide)) h2 h40 (Nat.lt_succ_self _) H locs hP hD hS ls (lv_sub hl [0, 1, 2, 3, 4] rfl)

set_option maxHeartbeats 4000000 in
set_option maxRecDepth 100000 in
theorem M206_X12_laysAsk (l : Launch) (G : va_G) (cy : Nat → ClassId) (sz : Nat) (a_0 : Nat) (i_0 : Int32) (i_1 : Int32) (i_2 : Int32) (a_1 : Nat) (a_2 : Nat) (a_3 : Nat) (a_4 : Nat) (a_5 : Nat) (i_3 : Int32) (i_4 : Int32) (i_5 : Int32) (i_6 : Int32) (i_7 : Int32) (j_0 : Int64) (i_8 : Int32) (i_9 : Int32) (i_10 : Int32) (i_11 : Int32) (a_6 : Nat) (a_7 : Nat) (a_8 : Nat) (a_9 : Nat) (a_10 : Nat) (a_11 : Nat) (a_12 : Nat) (a_13 : Nat) (a_14 : Nat) (a_15 : Nat) (a_16 : Nat) (a_17 : Nat) (a_18 : Nat) (i_12 : Int32) (i_13 : Int32) (i_14 : Int32) (i_15 : Int32) (i_16 : Int32) (i_17 : Int32) (a_19 : Nat) (i_18 : Int32) (a_20 : Nat) (f_0 : Nat → Int32) (f_1 : Nat → Int64) (i_19 : Int32) (i_20 : Int32) (i_21 : Int32) (i_22 : Int32) (i_23 : Int32) (i_24 : Int32) (i_25 : Int32) (i_26 : Int32) (i_27 : Int32) (i_28 : Int32) (i_29 : Int32) (i_30 : Int32) (i_31 : Int32) (i_32 : Int32) (i_33 : Int32) (i_34 : Int32) (i_35 : Int32) (i_36 : Int32) (i_37 : Int32) (i_38 : Int32) (i_39 : Int32) (i_40 : Int32) (i_41 : Int32) (i_42 : Int32) (i_43 : Int32) (i_44 : Int32) (i_45 : Int32) (i_46 : Int32) (i_47 : Int32) (i_48 : Int32) (i_49 : Int32) (i_50 : Int32) (i_51 : Int32) (i_52 : Int32) (i_53 : Int32) (f_2 : Nat → Int32) (f_3 : Nat → Int32) (f_4 : Nat → Int32) (f_5 : Nat → Int32) (f_6 : Nat → Int32) (f_7 : Nat → Int32) (f_8 : Nat → Int32) (f_9 : Nat → Int32) (f_10 : Nat → Int32) (f_11 : Nat → Int32) (f_12 : Nat → Int32) (h0 : mm_rg i_0 0 3) (h1 : mm_rg i_1 0 2) (h2 : mm_rg i_12 0 8) (h3 : mm_ar f_0 0 60) (h4 : mm_rg i_19 0 601) (h5 : mm_rg i_20 0 601) (h6 : mm_rg i_21 0 601) (h7 : mm_rg i_22 0 601) (h8 : mm_rg i_23 0 601) (h9 : mm_rg i_24 0 10) (h10 : mm_rg i_25 0 99) (h11 : mm_rg i_26 0 9) (h12 : mm_rg i_27 0 3) (h13 : mm_rg i_28 0 6) (h14 : mm_rg i_29 0 30) (h15 : mm_rg i_30 0 10) (h16 : mm_rg i_31 0 99) (h17 : mm_rg i_32 0 9) (h18 : mm_rg i_33 0 3) (h19 : mm_rg i_34 0 6) (h20 : mm_rg i_35 0 30) (h21 : mm_rg i_36 0 10) (h22 : mm_rg i_37 0 99) (h23 : mm_rg i_38 0 9) (h24 : mm_rg i_39 0 3) (h25 : mm_rg i_40 0 6) (h26 : mm_rg i_41 0 30) (h27 : mm_rg i_42 0 10) (h28 : mm_rg i_43 0 99) (h29 : mm_rg i_44 0 9) (h30 : mm_rg i_45 0 3) (h31 : mm_rg i_46 0 6) (h32 : mm_rg i_47 0 30) (h33 : mm_rg i_48 0 10) (h34 : mm_rg i_49 0 99) (h35 : mm_rg i_50 0 9) (h36 : mm_rg i_51 0 3) (h37 : mm_rg i_52 0 6) (h38 : mm_rg i_53 0 30) (h39 : mm_ar f_2 0 99) (h40 : mm_ar f_3 0 7) (h41 : mm_ar f_4 0 9) (h42 : mm_ar f_5 0 8) (h43 : mm_ar f_6 0 9) (h44 : mm_ar f_7 (-1) 99) (h45 : mm_ar f_8 0 9) (h46 : mm_ar f_9 0 210) (h47 : mm_ar f_10 0 210) (h48 : mm_ar f_11 0 9) (h49 : mm_ar f_12 0 1) (h50 : mm_rls f_3 f_4 0 i_26 i_27) (h51 : mm_txs f_5 f_6 0 i_26 i_28) (h52 : mm_acs f_7 0 i_26 i_27 i_29) (h53 : mm_tl i_19 i_27 i_28) (h54 : mm_rls f_3 f_4 1 i_32 i_33) (h55 : mm_txs f_5 f_6 1 i_32 i_34) (h56 : mm_acs f_7 1 i_32 i_33 i_35) (h57 : mm_tl i_20 i_33 i_34) (h58 : mm_rls f_3 f_4 2 i_38 i_39) (h59 : mm_txs f_5 f_6 2 i_38 i_40) (h60 : mm_acs f_7 2 i_38 i_39 i_41) (h61 : mm_tl i_21 i_39 i_40) (h62 : mm_rls f_3 f_4 3 i_44 i_45) (h63 : mm_txs f_5 f_6 3 i_44 i_46) (h64 : mm_acs f_7 3 i_44 i_45 i_47) (h65 : mm_tl i_22 i_45 i_46) (h66 : (i_1 : Int32).toInt < (i_27 : Int32).toInt) (h67 : mm_wn f_1 f_0 i_0 i_28)  : mm_CV l yX12_laysAsk (mm_ws yX12_laysAsk cX12_laysAsk 5 (none)) ({ frames := 15, cells := 0, slots := 0, locals := 323 } : Room) G cy sz [(a_0, .inr (12, [.int i_2, .ref a_1, .ref a_2, .ref a_3, .ref a_4, .ref a_5, .int i_3, .int i_4, .int i_5, .int i_6, .int i_7, .long j_0, .int i_8, .int i_9, .int i_10, .int i_11, .ref a_6, .ref a_7, .ref a_8, .ref a_9, .ref a_10, .ref a_11, .ref a_12, .ref a_13, .ref a_14, .ref a_15, .ref a_16, .ref a_17, .ref a_18, .int i_12, .int i_13, .int i_14, .int i_15, .int i_16, .int i_17, .ref a_19, .int i_18, .ref a_20])), (a_2, .inl (cy 1, 4, .inl f_0)), (a_3, .inl (cy 2, 240, .inr (.inl f_1))), (a_6, .inl (cy 1, 5, .inl (mm_g [i_19, i_20, i_21, i_22, i_23]))), (a_7, .inl (cy 1, 30, .inl (mm_g [i_24, i_25, i_26, i_27, i_28, i_29, i_30, i_31, i_32, i_33, i_34, i_35, i_36, i_37, i_38, i_39, i_40, i_41, i_42, i_43, i_44, i_45, i_46, i_47, i_48, i_49, i_50, i_51, i_52, i_53]))), (a_8, .inl (cy 1, 90, .inl f_2)), (a_9, .inl (cy 1, 15, .inl f_3)), (a_10, .inl (cy 1, 1050, .inl f_4)), (a_11, .inl (cy 1, 30, .inl f_5)), (a_12, .inl (cy 1, 240, .inl f_6)), (a_13, .inl (cy 1, 450, .inl f_7)), (a_15, .inl (cy 1, 7200, .inl f_8)), (a_16, .inl (cy 1, 3, .inl f_9)), (a_17, .inl (cy 1, 3, .inl f_10)), (a_18, .inl (cy 1, 8, .inl f_11)), (a_19, .inl (cy 3, 240, .inl f_12))] [.ref a_0, .int i_0, .int i_1] (fun u : Int32 × Int32 × Int32 × Int32 × Int32 × Int32 × (Nat → Int32) × (Nat → Int32) × (Nat → Int32) × (Nat → Int32) × (Nat → Int32) => [(a_0, .inr (12, [.int i_2, .ref a_1, .ref a_2, .ref a_3, .ref a_4, .ref a_5, .int i_3, .int i_4, .int i_5, .int i_6, .int i_7, .long j_0, .int i_8, .int i_9, .int i_10, .int i_11, .ref a_6, .ref a_7, .ref a_8, .ref a_9, .ref a_10, .ref a_11, .ref a_12, .ref a_13, .ref a_14, .ref a_15, .ref a_16, .ref a_17, .ref a_18, .int u.1, .int u.2.1, .int u.2.2.1, .int u.2.2.2.1, .int u.2.2.2.2.1, .int u.2.2.2.2.2.1, .ref a_19, .int i_18, .ref a_20])), (a_2, .inl (cy 1, 4, .inl f_0)), (a_3, .inl (cy 2, 240, .inr (.inl f_1))), (a_6, .inl (cy 1, 5, .inl (mm_g [i_19, i_20, i_21, i_22, i_23]))), (a_7, .inl (cy 1, 30, .inl (mm_g [i_24, i_25, i_26, i_27, i_28, i_29, i_30, i_31, i_32, i_33, i_34, i_35, i_36, i_37, i_38, i_39, i_40, i_41, i_42, i_43, i_44, i_45, i_46, i_47, i_48, i_49, i_50, i_51, i_52, i_53]))), (a_8, .inl (cy 1, 90, .inl f_2)), (a_9, .inl (cy 1, 15, .inl f_3)), (a_10, .inl (cy 1, 1050, .inl f_4)), (a_11, .inl (cy 1, 30, .inl f_5)), (a_12, .inl (cy 1, 240, .inl f_6)), (a_13, .inl (cy 1, 450, .inl f_7)), (a_15, .inl (cy 1, 7200, .inl u.2.2.2.2.2.2.1)), (a_16, .inl (cy 1, 3, .inl u.2.2.2.2.2.2.2.1)), (a_17, .inl (cy 1, 3, .inl u.2.2.2.2.2.2.2.2.1)), (a_18, .inl (cy 1, 8, .inl u.2.2.2.2.2.2.2.2.2.1)), (a_19, .inl (cy 3, 240, .inl u.2.2.2.2.2.2.2.2.2.2))]) (fun u : Int32 × Int32 × Int32 × Int32 × Int32 × Int32 × (Nat → Int32) × (Nat → Int32) × (Nat → Int32) × (Nat → Int32) × (Nat → Int32) => mm_rg u.1 0 8 ∧ mm_rg u.2.2.2.2.1 (-1) 5 ∧ mm_ar u.2.2.2.2.2.2.1 0 9 ∧ mm_ar u.2.2.2.2.2.2.2.1 0 210 ∧ mm_ar u.2.2.2.2.2.2.2.2.1 0 210 ∧ mm_ar u.2.2.2.2.2.2.2.2.2.1 0 9 ∧ mm_ar u.2.2.2.2.2.2.2.2.2.2 0 1) 0 0 := by
  refine mm_begin (lv := [(0, .ref a_0), (1, .int i_0), (2, .int i_1)]) (by decide) (Nat.le_of_ble_eq_true rfl) rfl ?_
  intro p e s m below meth c A ls R args Q H locs hRe hQ hAe hx hb hr hlocks hml hown hnm hts hsz hA hS hP hK hD hZ hl
  have hRf : R.frames = 15 := by rw [hRe]
  have hRl : R.locals = 323 := by rw [hRe]
  have hRc : R.cells = 0 := by rw [hRe]
  have hRs : R.slots = 0 := by rw [hRe]
  have q1 := mm_ltR (lo := 1) h66 h1 h12 (by decide)
  have q2 : mm_rg i_19 1 601 := mm_tl_3 h53 q1 h4 (by decide)
  refine lv_aload_n hx hb dX12_laysAsk_0 rfl (lv_at hl 0 rfl) ?_
  refine lv_iload_n hx hb dX12_laysAsk_1 rfl (lv_at hl 1 rfl) ?_
  refine lv_iload_n hx hb dX12_laysAsk_2 rfl (lv_at hl 2 rfl) ?_
  refine mm_finv (va_runV (As := [.int i_0, .int i_1]) (rest := []) ⟨hx, hb, hml, hown, hts⟩ (M202_X12_laysTorn l G cy H.size a_0 i_0 i_1 i_2 a_1 a_2 a_3 a_4 a_5 i_3 i_4 i_5 i_6 i_7 j_0 i_8 i_9 i_10 i_11 a_6 a_7 a_8 a_9 a_10 a_11 a_12 a_13 a_14 a_15 a_16 a_17 a_18 i_12 i_13 i_14 i_15 i_16 i_17 a_19 i_18 a_20 f_0 f_1 i_19 i_20 i_21 i_22 i_23 i_24 i_25 i_26 i_27 i_28 i_29 i_30 i_31 i_32 i_33 i_34 i_35 i_36 i_37 i_38 i_39 i_40 i_41 i_42 i_43 i_44 i_45 i_46 i_47 i_48 i_49 i_50 i_51 i_52 i_53 f_2 f_3 f_4 f_5 f_6 f_7 f_8 f_9 f_10 f_11 f_12 h0 h1 h2 h3 (mm_wk q2 (by decide)) h5 h6 h7 h8 h9 h10 h11 (mm_wk q1 (by decide)) h13 h14 h15 h16 h17 h18 h19 h20 h21 h22 h23 h24 h25 h26 h27 h28 h29 h30 h31 h32 h33 h34 h35 h36 h37 h38 h39 h40 h41 h42 h43 h44 h45 h46 h47 h48 h49 h50 h51 h52 h53 h54 h55 h56 h57 h58 h59 h60 h61 h62 h63 h64 h65 h66 h67) (cwV 2 hts (mm_gV mm_w1273 mm_w1274 mm_w1275 mm_w5 mm_w1276) rfl rfl rfl hd_X12_laysTorn ⟨by rw [hRf]; exact Nat.le_of_ble_eq_true rfl, by rw [hRl]; exact Nat.le_of_ble_eq_true rfl⟩) (mm_preV hK hZ hS hA hP hD [0, 1, 2, 3, 4, 5, 6, 7, 8, 9, 10, 11, 12, 13, 14, 15] rfl rfl 0 rfl rfl rfl) rfl rfl hl.1 rfl (lv_room (Nat.le_of_ble_eq_true rfl)) dX12_laysAsk_3 ⟨by rw [hRc]; exact Nat.le_of_ble_eq_true rfl, by rw [hRs]; exact Nat.le_of_ble_eq_true rfl⟩) hP hD hS hA (fun u : Int32 × Int32 × Int32 × Int32 × (Nat → Int32) × (Nat → Int32) × (Nat → Int32) × (Nat → Int32) × (Nat → Int32) => [(a_0, .inr (12, [.int i_2, .ref a_1, .ref a_2, .ref a_3, .ref a_4, .ref a_5, .int i_3, .int i_4, .int i_5, .int i_6, .int i_7, .long j_0, .int i_8, .int i_9, .int i_10, .int i_11, .ref a_6, .ref a_7, .ref a_8, .ref a_9, .ref a_10, .ref a_11, .ref a_12, .ref a_13, .ref a_14, .ref a_15, .ref a_16, .ref a_17, .ref a_18, .int u.1, .int u.2.1, .int u.2.2.1, .int u.2.2.2.1, .int i_16, .int i_17, .ref a_19, .int i_18, .ref a_20])), (a_2, .inl (cy 1, 4, .inl f_0)), (a_3, .inl (cy 2, 240, .inr (.inl f_1))), (a_6, .inl (cy 1, 5, .inl (mm_g [i_19, i_20, i_21, i_22, i_23]))), (a_7, .inl (cy 1, 30, .inl (mm_g [i_24, i_25, i_26, i_27, i_28, i_29, i_30, i_31, i_32, i_33, i_34, i_35, i_36, i_37, i_38, i_39, i_40, i_41, i_42, i_43, i_44, i_45, i_46, i_47, i_48, i_49, i_50, i_51, i_52, i_53]))), (a_8, .inl (cy 1, 90, .inl f_2)), (a_9, .inl (cy 1, 15, .inl f_3)), (a_10, .inl (cy 1, 1050, .inl f_4)), (a_11, .inl (cy 1, 30, .inl f_5)), (a_12, .inl (cy 1, 240, .inl f_6)), (a_13, .inl (cy 1, 450, .inl f_7)), (a_15, .inl (cy 1, 7200, .inl u.2.2.2.2.1)), (a_16, .inl (cy 1, 3, .inl u.2.2.2.2.2.1)), (a_17, .inl (cy 1, 3, .inl u.2.2.2.2.2.2.1)), (a_18, .inl (cy 1, 8, .inl u.2.2.2.2.2.2.2.1)), (a_19, .inl (cy 3, 240, .inl u.2.2.2.2.2.2.2.2))]) [0, 1, 2, 3, 4, 5, 6, 7, 8, 9, 10, 11, 12, 13, 14, 15] [] (n := 16) (fun _ => rfl) (by decide +kernel) (by decide +kernel) rfl (fun _ => rfl) (wr := []) rfl (fun _ => rfl) (fun _ => @rfl _ ([a_0, a_2, a_3, a_6, a_7, a_8, a_9, a_10, a_11, a_12, a_13, a_15, a_16, a_17, a_18, a_19] : List Nat)) ?_
  clear hP hD hS
  clear H locs
  intro u
  obtain ⟨n3, n4, n5, n6, n7, n8, n9, n10, n11⟩ := u
  intro H locs hw (hP : va_P G vwCl [(a_0, .inr (12, [.int i_2, .ref a_1, .ref a_2, .ref a_3, .ref a_4, .ref a_5, .int i_3, .int i_4, .int i_5, .int i_6, .int i_7, .long j_0, .int i_8, .int i_9, .int i_10, .int i_11, .ref a_6, .ref a_7, .ref a_8, .ref a_9, .ref a_10, .ref a_11, .ref a_12, .ref a_13, .ref a_14, .ref a_15, .ref a_16, .ref a_17, .ref a_18, .int n3, .int n4, .int n5, .int n6, .int i_16, .int i_17, .ref a_19, .int i_18, .ref a_20])), (a_2, .inl (cy 1, 4, .inl f_0)), (a_3, .inl (cy 2, 240, .inr (.inl f_1))), (a_6, .inl (cy 1, 5, .inl (mm_g [i_19, i_20, i_21, i_22, i_23]))), (a_7, .inl (cy 1, 30, .inl (mm_g [i_24, i_25, i_26, i_27, i_28, i_29, i_30, i_31, i_32, i_33, i_34, i_35, i_36, i_37, i_38, i_39, i_40, i_41, i_42, i_43, i_44, i_45, i_46, i_47, i_48, i_49, i_50, i_51, i_52, i_53]))), (a_8, .inl (cy 1, 90, .inl f_2)), (a_9, .inl (cy 1, 15, .inl f_3)), (a_10, .inl (cy 1, 1050, .inl f_4)), (a_11, .inl (cy 1, 30, .inl f_5)), (a_12, .inl (cy 1, 240, .inl f_6)), (a_13, .inl (cy 1, 450, .inl f_7)), (a_15, .inl (cy 1, 7200, .inl n7)), (a_16, .inl (cy 1, 3, .inl n8)), (a_17, .inl (cy 1, 3, .inl n9)), (a_18, .inl (cy 1, 8, .inl n10)), (a_19, .inl (cy 3, 240, .inl n11))] H) (hD : va_D A [(a_0, .inr (12, [.int i_2, .ref a_1, .ref a_2, .ref a_3, .ref a_4, .ref a_5, .int i_3, .int i_4, .int i_5, .int i_6, .int i_7, .long j_0, .int i_8, .int i_9, .int i_10, .int i_11, .ref a_6, .ref a_7, .ref a_8, .ref a_9, .ref a_10, .ref a_11, .ref a_12, .ref a_13, .ref a_14, .ref a_15, .ref a_16, .ref a_17, .ref a_18, .int n3, .int n4, .int n5, .int n6, .int i_16, .int i_17, .ref a_19, .int i_18, .ref a_20])), (a_2, .inl (cy 1, 4, .inl f_0)), (a_3, .inl (cy 2, 240, .inr (.inl f_1))), (a_6, .inl (cy 1, 5, .inl (mm_g [i_19, i_20, i_21, i_22, i_23]))), (a_7, .inl (cy 1, 30, .inl (mm_g [i_24, i_25, i_26, i_27, i_28, i_29, i_30, i_31, i_32, i_33, i_34, i_35, i_36, i_37, i_38, i_39, i_40, i_41, i_42, i_43, i_44, i_45, i_46, i_47, i_48, i_49, i_50, i_51, i_52, i_53]))), (a_8, .inl (cy 1, 90, .inl f_2)), (a_9, .inl (cy 1, 15, .inl f_3)), (a_10, .inl (cy 1, 1050, .inl f_4)), (a_11, .inl (cy 1, 30, .inl f_5)), (a_12, .inl (cy 1, 240, .inl f_6)), (a_13, .inl (cy 1, 450, .inl f_7)), (a_15, .inl (cy 1, 7200, .inl n7)), (a_16, .inl (cy 1, 3, .inl n8)), (a_17, .inl (cy 1, 3, .inl n9)), (a_18, .inl (cy 1, 8, .inl n10)), (a_19, .inl (cy 3, 240, .inl n11))]) hS
  obtain ⟨w12, w13, w14, w15, w16, w17, w18⟩ := hw
  replace w18 : mm_laid n8 n9 i_27 := w18
  refine lv_aload_n hx hb dX12_laysAsk_6 rfl (lv_at hl 0 rfl) ?_
  refine lv_iconst (v := (-1)) hx hb dX12_laysAsk_7 (by decide) ?_
  refine va_put (D := G) (ci := 12) (v := .int (-1)) (ty := tyX12 33) (C := RX12) (T := TX12) (N := 38) hx hb hts (mm_i inlX12) tyX12 tyX12_ok nmX12 hown hK.1 hP hD hS 0 rfl rfl 33 (by decide) (mm_h hts mm_w1316) (fun _ h9 => h9) rfl (tyX12_ok 33 (by decide)) rfl rfl (Nat.le_of_ble_eq_true rfl) dX12_laysAsk_8 ?_
  clear hP hD hS
  clear H locs
  intro H locs (hP : va_P G vwCl [(a_0, .inr (12, [.int i_2, .ref a_1, .ref a_2, .ref a_3, .ref a_4, .ref a_5, .int i_3, .int i_4, .int i_5, .int i_6, .int i_7, .long j_0, .int i_8, .int i_9, .int i_10, .int i_11, .ref a_6, .ref a_7, .ref a_8, .ref a_9, .ref a_10, .ref a_11, .ref a_12, .ref a_13, .ref a_14, .ref a_15, .ref a_16, .ref a_17, .ref a_18, .int n3, .int n4, .int n5, .int n6, .int (-1), .int i_17, .ref a_19, .int i_18, .ref a_20])), (a_2, .inl (cy 1, 4, .inl f_0)), (a_3, .inl (cy 2, 240, .inr (.inl f_1))), (a_6, .inl (cy 1, 5, .inl (mm_g [i_19, i_20, i_21, i_22, i_23]))), (a_7, .inl (cy 1, 30, .inl (mm_g [i_24, i_25, i_26, i_27, i_28, i_29, i_30, i_31, i_32, i_33, i_34, i_35, i_36, i_37, i_38, i_39, i_40, i_41, i_42, i_43, i_44, i_45, i_46, i_47, i_48, i_49, i_50, i_51, i_52, i_53]))), (a_8, .inl (cy 1, 90, .inl f_2)), (a_9, .inl (cy 1, 15, .inl f_3)), (a_10, .inl (cy 1, 1050, .inl f_4)), (a_11, .inl (cy 1, 30, .inl f_5)), (a_12, .inl (cy 1, 240, .inl f_6)), (a_13, .inl (cy 1, 450, .inl f_7)), (a_15, .inl (cy 1, 7200, .inl n7)), (a_16, .inl (cy 1, 3, .inl n8)), (a_17, .inl (cy 1, 3, .inl n9)), (a_18, .inl (cy 1, 8, .inl n10)), (a_19, .inl (cy 3, 240, .inl n11))] H) (hD : va_D A [(a_0, .inr (12, [.int i_2, .ref a_1, .ref a_2, .ref a_3, .ref a_4, .ref a_5, .int i_3, .int i_4, .int i_5, .int i_6, .int i_7, .long j_0, .int i_8, .int i_9, .int i_10, .int i_11, .ref a_6, .ref a_7, .ref a_8, .ref a_9, .ref a_10, .ref a_11, .ref a_12, .ref a_13, .ref a_14, .ref a_15, .ref a_16, .ref a_17, .ref a_18, .int n3, .int n4, .int n5, .int n6, .int (-1), .int i_17, .ref a_19, .int i_18, .ref a_20])), (a_2, .inl (cy 1, 4, .inl f_0)), (a_3, .inl (cy 2, 240, .inr (.inl f_1))), (a_6, .inl (cy 1, 5, .inl (mm_g [i_19, i_20, i_21, i_22, i_23]))), (a_7, .inl (cy 1, 30, .inl (mm_g [i_24, i_25, i_26, i_27, i_28, i_29, i_30, i_31, i_32, i_33, i_34, i_35, i_36, i_37, i_38, i_39, i_40, i_41, i_42, i_43, i_44, i_45, i_46, i_47, i_48, i_49, i_50, i_51, i_52, i_53]))), (a_8, .inl (cy 1, 90, .inl f_2)), (a_9, .inl (cy 1, 15, .inl f_3)), (a_10, .inl (cy 1, 1050, .inl f_4)), (a_11, .inl (cy 1, 30, .inl f_5)), (a_12, .inl (cy 1, 240, .inl f_6)), (a_13, .inl (cy 1, 450, .inl f_7)), (a_15, .inl (cy 1, 7200, .inl n7)), (a_16, .inl (cy 1, 3, .inl n8)), (a_17, .inl (cy 1, 3, .inl n9)), (a_18, .inl (cy 1, 8, .inl n10)), (a_19, .inl (cy 3, 240, .inl n11))]) hS
  refine lv_aload_n hx hb dX12_laysAsk_11 rfl (lv_at hl 0 rfl) ?_
  refine lv_aload_n hx hb dX12_laysAsk_12 rfl (lv_at hl 0 rfl) ?_
  refine va_get (D := G) (ci := 12) (v := .int n6) (C := RX12) (T := TX12) (N := 38) hx hb hts (mm_i inlX12) hown hK.1 hP 0 rfl rfl 32 (by decide) (mm_h hts mm_w1264) (fun _ h9 => h9) rfl dX12_laysAsk_13 ?_
  refine va_put (D := G) (ci := 12) (v := .int n6) (ty := tyX12 34) (C := RX12) (T := TX12) (N := 38) hx hb hts (mm_i inlX12) tyX12 tyX12_ok nmX12 hown hK.1 hP hD hS 0 rfl rfl 34 (by decide) (mm_h hts mm_w1321) (fun _ h9 => h9) rfl (tyX12_ok 34 (by decide)) rfl rfl (Nat.le_of_ble_eq_true rfl) dX12_laysAsk_16 ?_
  clear hP hD hS
  clear H locs
  intro H locs (hP : va_P G vwCl [(a_0, .inr (12, [.int i_2, .ref a_1, .ref a_2, .ref a_3, .ref a_4, .ref a_5, .int i_3, .int i_4, .int i_5, .int i_6, .int i_7, .long j_0, .int i_8, .int i_9, .int i_10, .int i_11, .ref a_6, .ref a_7, .ref a_8, .ref a_9, .ref a_10, .ref a_11, .ref a_12, .ref a_13, .ref a_14, .ref a_15, .ref a_16, .ref a_17, .ref a_18, .int n3, .int n4, .int n5, .int n6, .int (-1), .int n6, .ref a_19, .int i_18, .ref a_20])), (a_2, .inl (cy 1, 4, .inl f_0)), (a_3, .inl (cy 2, 240, .inr (.inl f_1))), (a_6, .inl (cy 1, 5, .inl (mm_g [i_19, i_20, i_21, i_22, i_23]))), (a_7, .inl (cy 1, 30, .inl (mm_g [i_24, i_25, i_26, i_27, i_28, i_29, i_30, i_31, i_32, i_33, i_34, i_35, i_36, i_37, i_38, i_39, i_40, i_41, i_42, i_43, i_44, i_45, i_46, i_47, i_48, i_49, i_50, i_51, i_52, i_53]))), (a_8, .inl (cy 1, 90, .inl f_2)), (a_9, .inl (cy 1, 15, .inl f_3)), (a_10, .inl (cy 1, 1050, .inl f_4)), (a_11, .inl (cy 1, 30, .inl f_5)), (a_12, .inl (cy 1, 240, .inl f_6)), (a_13, .inl (cy 1, 450, .inl f_7)), (a_15, .inl (cy 1, 7200, .inl n7)), (a_16, .inl (cy 1, 3, .inl n8)), (a_17, .inl (cy 1, 3, .inl n9)), (a_18, .inl (cy 1, 8, .inl n10)), (a_19, .inl (cy 3, 240, .inl n11))] H) (hD : va_D A [(a_0, .inr (12, [.int i_2, .ref a_1, .ref a_2, .ref a_3, .ref a_4, .ref a_5, .int i_3, .int i_4, .int i_5, .int i_6, .int i_7, .long j_0, .int i_8, .int i_9, .int i_10, .int i_11, .ref a_6, .ref a_7, .ref a_8, .ref a_9, .ref a_10, .ref a_11, .ref a_12, .ref a_13, .ref a_14, .ref a_15, .ref a_16, .ref a_17, .ref a_18, .int n3, .int n4, .int n5, .int n6, .int (-1), .int n6, .ref a_19, .int i_18, .ref a_20])), (a_2, .inl (cy 1, 4, .inl f_0)), (a_3, .inl (cy 2, 240, .inr (.inl f_1))), (a_6, .inl (cy 1, 5, .inl (mm_g [i_19, i_20, i_21, i_22, i_23]))), (a_7, .inl (cy 1, 30, .inl (mm_g [i_24, i_25, i_26, i_27, i_28, i_29, i_30, i_31, i_32, i_33, i_34, i_35, i_36, i_37, i_38, i_39, i_40, i_41, i_42, i_43, i_44, i_45, i_46, i_47, i_48, i_49, i_50, i_51, i_52, i_53]))), (a_8, .inl (cy 1, 90, .inl f_2)), (a_9, .inl (cy 1, 15, .inl f_3)), (a_10, .inl (cy 1, 1050, .inl f_4)), (a_11, .inl (cy 1, 30, .inl f_5)), (a_12, .inl (cy 1, 240, .inl f_6)), (a_13, .inl (cy 1, 450, .inl f_7)), (a_15, .inl (cy 1, 7200, .inl n7)), (a_16, .inl (cy 1, 3, .inl n8)), (a_17, .inl (cy 1, 3, .inl n9)), (a_18, .inl (cy 1, 8, .inl n10)), (a_19, .inl (cy 3, 240, .inl n11))]) hS
  refine lv_iconst (v := 0) hx hb dX12_laysAsk_19 (by decide) ?_
  refine lv_istore_n (lv' := [(3, .int 0), (0, .ref a_0), (1, .int i_0), (2, .int i_1)]) hx hb dX12_laysAsk_20 rfl hl (by decide) rfl ?_
  clear hl
  clear ls
  intro ls hl
  have L21_159 : ∀ (n : Nat) (x21_3_153 : Int32) (y21_0_29_154 : Int32) (y21_0_30_155 : Int32) (y21_0_31_156 : Int32) (y21_0_33_157 : Int32) (y21_0_34_158 : Int32) (z21_14_159 : Nat → Int32), mm_rg x21_3_153 0 6 → mm_rg y21_0_29_154 0 8 → mm_rg y21_0_33_157 (-1) 5 → mm_ar z21_14_159 0 9 → (6 - x21_3_153.toInt).toNat < n → ∀ (H : Heap) (locs : List Loc), va_P G vwCl [(a_0, .inr (12, [.int i_2, .ref a_1, .ref a_2, .ref a_3, .ref a_4, .ref a_5, .int i_3, .int i_4, .int i_5, .int i_6, .int i_7, .long j_0, .int i_8, .int i_9, .int i_10, .int i_11, .ref a_6, .ref a_7, .ref a_8, .ref a_9, .ref a_10, .ref a_11, .ref a_12, .ref a_13, .ref a_14, .ref a_15, .ref a_16, .ref a_17, .ref a_18, .int y21_0_29_154, .int y21_0_30_155, .int y21_0_31_156, .int n6, .int y21_0_33_157, .int y21_0_34_158, .ref a_19, .int i_18, .ref a_20])), (a_2, .inl (cy 1, 4, .inl f_0)), (a_3, .inl (cy 2, 240, .inr (.inl f_1))), (a_6, .inl (cy 1, 5, .inl (mm_g [i_19, i_20, i_21, i_22, i_23]))), (a_7, .inl (cy 1, 30, .inl (mm_g [i_24, i_25, i_26, i_27, i_28, i_29, i_30, i_31, i_32, i_33, i_34, i_35, i_36, i_37, i_38, i_39, i_40, i_41, i_42, i_43, i_44, i_45, i_46, i_47, i_48, i_49, i_50, i_51, i_52, i_53]))), (a_8, .inl (cy 1, 90, .inl f_2)), (a_9, .inl (cy 1, 15, .inl f_3)), (a_10, .inl (cy 1, 1050, .inl f_4)), (a_11, .inl (cy 1, 30, .inl f_5)), (a_12, .inl (cy 1, 240, .inl f_6)), (a_13, .inl (cy 1, 450, .inl f_7)), (a_15, .inl (cy 1, 7200, .inl n7)), (a_16, .inl (cy 1, 3, .inl n8)), (a_17, .inl (cy 1, 3, .inl n9)), (a_18, .inl (cy 1, 8, .inl z21_14_159)), (a_19, .inl (cy 3, 240, .inl n11))] H → va_D A [(a_0, .inr (12, [.int i_2, .ref a_1, .ref a_2, .ref a_3, .ref a_4, .ref a_5, .int i_3, .int i_4, .int i_5, .int i_6, .int i_7, .long j_0, .int i_8, .int i_9, .int i_10, .int i_11, .ref a_6, .ref a_7, .ref a_8, .ref a_9, .ref a_10, .ref a_11, .ref a_12, .ref a_13, .ref a_14, .ref a_15, .ref a_16, .ref a_17, .ref a_18, .int y21_0_29_154, .int y21_0_30_155, .int y21_0_31_156, .int n6, .int y21_0_33_157, .int y21_0_34_158, .ref a_19, .int i_18, .ref a_20])), (a_2, .inl (cy 1, 4, .inl f_0)), (a_3, .inl (cy 2, 240, .inr (.inl f_1))), (a_6, .inl (cy 1, 5, .inl (mm_g [i_19, i_20, i_21, i_22, i_23]))), (a_7, .inl (cy 1, 30, .inl (mm_g [i_24, i_25, i_26, i_27, i_28, i_29, i_30, i_31, i_32, i_33, i_34, i_35, i_36, i_37, i_38, i_39, i_40, i_41, i_42, i_43, i_44, i_45, i_46, i_47, i_48, i_49, i_50, i_51, i_52, i_53]))), (a_8, .inl (cy 1, 90, .inl f_2)), (a_9, .inl (cy 1, 15, .inl f_3)), (a_10, .inl (cy 1, 1050, .inl f_4)), (a_11, .inl (cy 1, 30, .inl f_5)), (a_12, .inl (cy 1, 240, .inl f_6)), (a_13, .inl (cy 1, 450, .inl f_7)), (a_15, .inl (cy 1, 7200, .inl n7)), (a_16, .inl (cy 1, 3, .inl n8)), (a_17, .inl (cy 1, 3, .inl n9)), (a_18, .inl (cy 1, 8, .inl z21_14_159)), (a_19, .inl (cy 3, 240, .inl n11))] → va_S A s.heap H locs → ∀ (ls : Array Slot), lv_has ls 5 [(3, .int x21_3_153), (0, .ref a_0), (1, .int i_0), (2, .int i_1)] → W p l e R s m args below meth c H locs 0 0 Q (F0 m 21 ls []) := by
    intro n
    induction n with
    | zero => intro x21_3_153 y21_0_29_154 y21_0_30_155 y21_0_31_156 y21_0_33_157 y21_0_34_158 z21_14_159 rx21_3_153 ry21_0_29_154 ry21_0_33_157 rz21_14_159 hm; exact absurd hm (Nat.not_lt_zero _)
    | succ n ih21 =>
      intro x21_3_153 y21_0_29_154 y21_0_30_155 y21_0_31_156 y21_0_33_157 y21_0_34_158 z21_14_159 rx21_3_153 ry21_0_29_154 ry21_0_33_157 rz21_14_159 hm21 H locs hP hD hS ls hl
      refine lv_iload_n hx hb dX12_laysAsk_21 rfl (lv_at hl 0 rfl) ?_
      refine lv_aload_n hx hb dX12_laysAsk_22 rfl (lv_at hl 1 rfl) ?_
      refine mm_finir (va_runV (As := []) (rest := [.int x21_3_153]) ⟨hx, hb, hml, hown, hts⟩ (M95_X12_texts l G cy H.size a_0 i_2 a_1 a_2 a_3 a_4 a_5 i_3 i_4 i_5 i_6 i_7 j_0 i_8 i_9 i_10 i_11 a_6 a_7 a_8 a_9 a_10 a_11 a_12 a_13 a_14 a_15 a_16 a_17 a_18 y21_0_29_154 y21_0_30_155 y21_0_31_156 n6 y21_0_33_157 y21_0_34_158 a_19 i_18 a_20 i_24 i_25 i_26 i_27 i_28 i_29 i_30 i_31 i_32 i_33 i_34 i_35 i_36 i_37 i_38 i_39 i_40 i_41 i_42 i_43 i_44 i_45 i_46 i_47 i_48 i_49 i_50 i_51 i_52 i_53 h9 h10 h11 (mm_wk q1 (by decide)) h13 h14 h15 h16 h17 h18 h19 h20 h21 h22 h23 h24 h25 h26 h27 h28 h29 h30 h31 h32 h33 h34 h35 h36 h37 h38) (cwV 0 hts (mm_gV mm_w617 mm_w618 mm_w619 mm_w5 mm_w620) rfl rfl rfl hd_X12_texts ⟨by rw [hRf]; exact Nat.le_of_ble_eq_true rfl, by rw [hRl]; exact Nat.le_of_ble_eq_true rfl⟩) (mm_preV hK hZ hS hA hP hD [0, 4] rfl rfl 0 rfl rfl rfl) rfl rfl hl.1 rfl (lv_room (Nat.le_of_ble_eq_true rfl)) dX12_laysAsk_23 ⟨by rw [hRc]; exact Nat.le_of_ble_eq_true rfl, by rw [hRs]; exact Nat.le_of_ble_eq_true rfl⟩) hP hD hS hA [0, 4] rfl (fun _ => rfl) ?_
      clear hP hD hS
      clear H locs
      intro v161 _u H locs hw hP hD hS
      subst hw
      refine lv_icmp_ge (tgt := 66) hx hb dX12_laysAsk_26 (by decide) (fun c162 => ?_) (fun c162 => ?_)
      · subst hAe
        rw [hQ]
        exact W.vret hx hb hr (fun t ht hW => ⟨⟨(y21_0_29_154, y21_0_30_155, y21_0_31_156, n6, y21_0_33_157, y21_0_34_158, n7, n8, n9, z21_14_159, n11), rfl, ⟨ry21_0_29_154, ry21_0_33_157, w13, w14, w15, rz21_14_159, w17⟩, by rw [ht]; exact hP, hK.warm hW, hD⟩, hS.F ht⟩) hS.2.2 dX12_laysAsk_66
      · have q163 := mm_ltL (h := 5) (mm_nle c162) rx21_3_153 h13 (by decide)
        have q164 := mm_ltR (lo := 1) (mm_nle c162) rx21_3_153 h13 (by decide)
        refine lv_aload_n hx hb dX12_laysAsk_29 rfl (lv_at hl 1 rfl) ?_
        refine lv_iload_n hx hb dX12_laysAsk_30 rfl (lv_at hl 3 rfl) ?_
        refine lv_iload_n hx hb dX12_laysAsk_31 rfl (lv_at hl 0 rfl) ?_
        refine mm_fini (va_runV (As := [.int i_1, .int x21_3_153]) (rest := []) ⟨hx, hb, hml, hown, hts⟩ (M205_X12_worstBy l G cy H.size a_0 i_1 x21_3_153 i_2 a_1 a_2 a_3 a_4 a_5 i_3 i_4 i_5 i_6 i_7 j_0 i_8 i_9 i_10 i_11 a_6 a_7 a_8 a_9 a_10 a_11 a_12 a_13 a_14 a_15 a_16 a_17 a_18 y21_0_29_154 y21_0_30_155 y21_0_31_156 n6 y21_0_33_157 y21_0_34_158 a_19 i_18 a_20 i_24 i_25 i_26 i_27 i_28 i_29 i_30 i_31 i_32 i_33 i_34 i_35 i_36 i_37 i_38 i_39 i_40 i_41 i_42 i_43 i_44 i_45 i_46 i_47 i_48 i_49 i_50 i_51 i_52 i_53 f_2 f_5 f_6 f_7 n7 n8 n9 z21_14_159 n11 h1 q163 ry21_0_29_154 h9 h10 h11 (mm_wk q1 (by decide)) (mm_wk q164 (by decide)) h14 h15 h16 h17 h18 h19 h20 h21 h22 h23 h24 h25 h26 h27 h28 h29 h30 h31 h32 h33 h34 h35 h36 h37 h38 h39 h42 h43 h44 w13 w14 w15 rz21_14_159 w17 h51 h52 h55 h56 h59 h60 h63 h64 (mm_f1_l w18 h66 h1 (by decide))) (cwV 2 hts (mm_gV mm_w1322 mm_w1323 mm_w1324 mm_w5 mm_w1325) rfl rfl rfl hd_X12_worstBy ⟨by rw [hRf]; exact Nat.le_of_ble_eq_true rfl, by rw [hRl]; exact Nat.le_of_ble_eq_true rfl⟩) (mm_preV hK hZ hS hA hP hD [0, 4, 5, 8, 9, 10, 11, 12, 13, 14, 15] rfl rfl 0 rfl rfl rfl) rfl rfl hl.1 rfl (lv_room (Nat.le_of_ble_eq_true rfl)) dX12_laysAsk_32 ⟨by rw [hRc]; exact Nat.le_of_ble_eq_true rfl, by rw [hRs]; exact Nat.le_of_ble_eq_true rfl⟩) hP hD hS hA (fun u : Int32 × Int32 × Int32 × (Nat → Int32) => [(a_0, .inr (12, [.int i_2, .ref a_1, .ref a_2, .ref a_3, .ref a_4, .ref a_5, .int i_3, .int i_4, .int i_5, .int i_6, .int i_7, .long j_0, .int i_8, .int i_9, .int i_10, .int i_11, .ref a_6, .ref a_7, .ref a_8, .ref a_9, .ref a_10, .ref a_11, .ref a_12, .ref a_13, .ref a_14, .ref a_15, .ref a_16, .ref a_17, .ref a_18, .int u.1, .int u.2.1, .int u.2.2.1, .int n6, .int y21_0_33_157, .int y21_0_34_158, .ref a_19, .int i_18, .ref a_20])), (a_2, .inl (cy 1, 4, .inl f_0)), (a_3, .inl (cy 2, 240, .inr (.inl f_1))), (a_6, .inl (cy 1, 5, .inl (mm_g [i_19, i_20, i_21, i_22, i_23]))), (a_7, .inl (cy 1, 30, .inl (mm_g [i_24, i_25, i_26, i_27, i_28, i_29, i_30, i_31, i_32, i_33, i_34, i_35, i_36, i_37, i_38, i_39, i_40, i_41, i_42, i_43, i_44, i_45, i_46, i_47, i_48, i_49, i_50, i_51, i_52, i_53]))), (a_8, .inl (cy 1, 90, .inl f_2)), (a_9, .inl (cy 1, 15, .inl f_3)), (a_10, .inl (cy 1, 1050, .inl f_4)), (a_11, .inl (cy 1, 30, .inl f_5)), (a_12, .inl (cy 1, 240, .inl f_6)), (a_13, .inl (cy 1, 450, .inl f_7)), (a_15, .inl (cy 1, 7200, .inl n7)), (a_16, .inl (cy 1, 3, .inl n8)), (a_17, .inl (cy 1, 3, .inl n9)), (a_18, .inl (cy 1, 8, .inl u.2.2.2)), (a_19, .inl (cy 3, 240, .inl n11))]) [0, 4, 5, 8, 9, 10, 11, 12, 13, 14, 15] [1, 2, 3, 6, 7] (n := 16) (fun _ => rfl) (by decide +kernel) (by decide +kernel) rfl (fun _ => rfl) (wr := [(a_2, .inl (cy 1, 4, .inl f_0)), (a_3, .inl (cy 2, 240, .inr (.inl f_1))), (a_6, .inl (cy 1, 5, .inl (mm_g [i_19, i_20, i_21, i_22, i_23]))), (a_9, .inl (cy 1, 15, .inl f_3)), (a_10, .inl (cy 1, 1050, .inl f_4))]) rfl (fun _ => rfl) (fun _ => @rfl _ ([a_0, a_7, a_8, a_11, a_12, a_13, a_15, a_16, a_17, a_18, a_19] : List Nat)) ?_
        clear hP hD hS
        clear H locs
        intro v169 u
        obtain ⟨n165, n166, n167, n168⟩ := u
        intro H locs hw (hP : va_P G vwCl [(a_0, .inr (12, [.int i_2, .ref a_1, .ref a_2, .ref a_3, .ref a_4, .ref a_5, .int i_3, .int i_4, .int i_5, .int i_6, .int i_7, .long j_0, .int i_8, .int i_9, .int i_10, .int i_11, .ref a_6, .ref a_7, .ref a_8, .ref a_9, .ref a_10, .ref a_11, .ref a_12, .ref a_13, .ref a_14, .ref a_15, .ref a_16, .ref a_17, .ref a_18, .int n165, .int n166, .int n167, .int n6, .int y21_0_33_157, .int y21_0_34_158, .ref a_19, .int i_18, .ref a_20])), (a_2, .inl (cy 1, 4, .inl f_0)), (a_3, .inl (cy 2, 240, .inr (.inl f_1))), (a_6, .inl (cy 1, 5, .inl (mm_g [i_19, i_20, i_21, i_22, i_23]))), (a_7, .inl (cy 1, 30, .inl (mm_g [i_24, i_25, i_26, i_27, i_28, i_29, i_30, i_31, i_32, i_33, i_34, i_35, i_36, i_37, i_38, i_39, i_40, i_41, i_42, i_43, i_44, i_45, i_46, i_47, i_48, i_49, i_50, i_51, i_52, i_53]))), (a_8, .inl (cy 1, 90, .inl f_2)), (a_9, .inl (cy 1, 15, .inl f_3)), (a_10, .inl (cy 1, 1050, .inl f_4)), (a_11, .inl (cy 1, 30, .inl f_5)), (a_12, .inl (cy 1, 240, .inl f_6)), (a_13, .inl (cy 1, 450, .inl f_7)), (a_15, .inl (cy 1, 7200, .inl n7)), (a_16, .inl (cy 1, 3, .inl n8)), (a_17, .inl (cy 1, 3, .inl n9)), (a_18, .inl (cy 1, 8, .inl n168)), (a_19, .inl (cy 3, 240, .inl n11))] H) (hD : va_D A [(a_0, .inr (12, [.int i_2, .ref a_1, .ref a_2, .ref a_3, .ref a_4, .ref a_5, .int i_3, .int i_4, .int i_5, .int i_6, .int i_7, .long j_0, .int i_8, .int i_9, .int i_10, .int i_11, .ref a_6, .ref a_7, .ref a_8, .ref a_9, .ref a_10, .ref a_11, .ref a_12, .ref a_13, .ref a_14, .ref a_15, .ref a_16, .ref a_17, .ref a_18, .int n165, .int n166, .int n167, .int n6, .int y21_0_33_157, .int y21_0_34_158, .ref a_19, .int i_18, .ref a_20])), (a_2, .inl (cy 1, 4, .inl f_0)), (a_3, .inl (cy 2, 240, .inr (.inl f_1))), (a_6, .inl (cy 1, 5, .inl (mm_g [i_19, i_20, i_21, i_22, i_23]))), (a_7, .inl (cy 1, 30, .inl (mm_g [i_24, i_25, i_26, i_27, i_28, i_29, i_30, i_31, i_32, i_33, i_34, i_35, i_36, i_37, i_38, i_39, i_40, i_41, i_42, i_43, i_44, i_45, i_46, i_47, i_48, i_49, i_50, i_51, i_52, i_53]))), (a_8, .inl (cy 1, 90, .inl f_2)), (a_9, .inl (cy 1, 15, .inl f_3)), (a_10, .inl (cy 1, 1050, .inl f_4)), (a_11, .inl (cy 1, 30, .inl f_5)), (a_12, .inl (cy 1, 240, .inl f_6)), (a_13, .inl (cy 1, 450, .inl f_7)), (a_15, .inl (cy 1, 7200, .inl n7)), (a_16, .inl (cy 1, 3, .inl n8)), (a_17, .inl (cy 1, 3, .inl n9)), (a_18, .inl (cy 1, 8, .inl n168)), (a_19, .inl (cy 3, 240, .inl n11))]) hS
        obtain ⟨w170, w171, hw⟩ := hw
        have w172 := hw
        refine lv_istore (lv' := [(4, .int v169), (3, .int x21_3_153), (0, .ref a_0), (1, .int i_0), (2, .int i_1)]) hx hb dX12_laysAsk_35 hl (by decide) rfl ?_
        clear hl
        clear ls
        intro ls hl
        refine lv_iload hx hb dX12_laysAsk_37 (lv_at hl 0 rfl) ?_
        refine lv_aload_n hx hb dX12_laysAsk_39 rfl (lv_at hl 2 rfl) ?_
        refine va_get (D := G) (ci := 12) (v := .int y21_0_34_158) (C := RX12) (T := TX12) (N := 38) hx hb hts (mm_i inlX12) hown hK.1 hP 0 rfl rfl 34 (by decide) (mm_h hts mm_w1321) (fun _ h9 => h9) rfl dX12_laysAsk_40 ?_
        refine lv_icmp_lt (tgt := 49) hx hb dX12_laysAsk_43 (by decide) (fun c173 => ?_) (fun c173 => ?_)
        · have q174 := mm_ltL (h := 2147483646) (mm_lt c173) w172 (mm_top y21_0_34_158) (by decide)
          have q175 := mm_ltR (lo := 1) (mm_lt c173) w172 (mm_top y21_0_34_158) (by decide)
          refine lv_aload_n hx hb dX12_laysAsk_49 rfl (lv_at hl 2 rfl) ?_
          refine lv_iload_n hx hb dX12_laysAsk_50 rfl (lv_at hl 1 rfl) ?_
          refine va_put (D := G) (ci := 12) (v := .int x21_3_153) (ty := tyX12 33) (C := RX12) (T := TX12) (N := 38) hx hb hts (mm_i inlX12) tyX12 tyX12_ok nmX12 hown hK.1 hP hD hS 0 rfl rfl 33 (by decide) (mm_h hts mm_w1316) (fun _ h9 => h9) rfl (tyX12_ok 33 (by decide)) rfl rfl (Nat.le_of_ble_eq_true rfl) dX12_laysAsk_51 ?_
          clear hP hD hS
          clear H locs
          intro H locs (hP : va_P G vwCl [(a_0, .inr (12, [.int i_2, .ref a_1, .ref a_2, .ref a_3, .ref a_4, .ref a_5, .int i_3, .int i_4, .int i_5, .int i_6, .int i_7, .long j_0, .int i_8, .int i_9, .int i_10, .int i_11, .ref a_6, .ref a_7, .ref a_8, .ref a_9, .ref a_10, .ref a_11, .ref a_12, .ref a_13, .ref a_14, .ref a_15, .ref a_16, .ref a_17, .ref a_18, .int n165, .int n166, .int n167, .int n6, .int x21_3_153, .int y21_0_34_158, .ref a_19, .int i_18, .ref a_20])), (a_2, .inl (cy 1, 4, .inl f_0)), (a_3, .inl (cy 2, 240, .inr (.inl f_1))), (a_6, .inl (cy 1, 5, .inl (mm_g [i_19, i_20, i_21, i_22, i_23]))), (a_7, .inl (cy 1, 30, .inl (mm_g [i_24, i_25, i_26, i_27, i_28, i_29, i_30, i_31, i_32, i_33, i_34, i_35, i_36, i_37, i_38, i_39, i_40, i_41, i_42, i_43, i_44, i_45, i_46, i_47, i_48, i_49, i_50, i_51, i_52, i_53]))), (a_8, .inl (cy 1, 90, .inl f_2)), (a_9, .inl (cy 1, 15, .inl f_3)), (a_10, .inl (cy 1, 1050, .inl f_4)), (a_11, .inl (cy 1, 30, .inl f_5)), (a_12, .inl (cy 1, 240, .inl f_6)), (a_13, .inl (cy 1, 450, .inl f_7)), (a_15, .inl (cy 1, 7200, .inl n7)), (a_16, .inl (cy 1, 3, .inl n8)), (a_17, .inl (cy 1, 3, .inl n9)), (a_18, .inl (cy 1, 8, .inl n168)), (a_19, .inl (cy 3, 240, .inl n11))] H) (hD : va_D A [(a_0, .inr (12, [.int i_2, .ref a_1, .ref a_2, .ref a_3, .ref a_4, .ref a_5, .int i_3, .int i_4, .int i_5, .int i_6, .int i_7, .long j_0, .int i_8, .int i_9, .int i_10, .int i_11, .ref a_6, .ref a_7, .ref a_8, .ref a_9, .ref a_10, .ref a_11, .ref a_12, .ref a_13, .ref a_14, .ref a_15, .ref a_16, .ref a_17, .ref a_18, .int n165, .int n166, .int n167, .int n6, .int x21_3_153, .int y21_0_34_158, .ref a_19, .int i_18, .ref a_20])), (a_2, .inl (cy 1, 4, .inl f_0)), (a_3, .inl (cy 2, 240, .inr (.inl f_1))), (a_6, .inl (cy 1, 5, .inl (mm_g [i_19, i_20, i_21, i_22, i_23]))), (a_7, .inl (cy 1, 30, .inl (mm_g [i_24, i_25, i_26, i_27, i_28, i_29, i_30, i_31, i_32, i_33, i_34, i_35, i_36, i_37, i_38, i_39, i_40, i_41, i_42, i_43, i_44, i_45, i_46, i_47, i_48, i_49, i_50, i_51, i_52, i_53]))), (a_8, .inl (cy 1, 90, .inl f_2)), (a_9, .inl (cy 1, 15, .inl f_3)), (a_10, .inl (cy 1, 1050, .inl f_4)), (a_11, .inl (cy 1, 30, .inl f_5)), (a_12, .inl (cy 1, 240, .inl f_6)), (a_13, .inl (cy 1, 450, .inl f_7)), (a_15, .inl (cy 1, 7200, .inl n7)), (a_16, .inl (cy 1, 3, .inl n8)), (a_17, .inl (cy 1, 3, .inl n9)), (a_18, .inl (cy 1, 8, .inl n168)), (a_19, .inl (cy 3, 240, .inl n11))]) hS
          refine lv_aload_n hx hb dX12_laysAsk_54 rfl (lv_at hl 2 rfl) ?_
          refine lv_iload hx hb dX12_laysAsk_55 (lv_at hl 0 rfl) ?_
          refine va_put (D := G) (ci := 12) (v := .int v169) (ty := tyX12 34) (C := RX12) (T := TX12) (N := 38) hx hb hts (mm_i inlX12) tyX12 tyX12_ok nmX12 hown hK.1 hP hD hS 0 rfl rfl 34 (by decide) (mm_h hts mm_w1321) (fun _ h9 => h9) rfl (tyX12_ok 34 (by decide)) rfl rfl (Nat.le_of_ble_eq_true rfl) dX12_laysAsk_57 ?_
          clear hP hD hS
          clear H locs
          intro H locs (hP : va_P G vwCl [(a_0, .inr (12, [.int i_2, .ref a_1, .ref a_2, .ref a_3, .ref a_4, .ref a_5, .int i_3, .int i_4, .int i_5, .int i_6, .int i_7, .long j_0, .int i_8, .int i_9, .int i_10, .int i_11, .ref a_6, .ref a_7, .ref a_8, .ref a_9, .ref a_10, .ref a_11, .ref a_12, .ref a_13, .ref a_14, .ref a_15, .ref a_16, .ref a_17, .ref a_18, .int n165, .int n166, .int n167, .int n6, .int x21_3_153, .int v169, .ref a_19, .int i_18, .ref a_20])), (a_2, .inl (cy 1, 4, .inl f_0)), (a_3, .inl (cy 2, 240, .inr (.inl f_1))), (a_6, .inl (cy 1, 5, .inl (mm_g [i_19, i_20, i_21, i_22, i_23]))), (a_7, .inl (cy 1, 30, .inl (mm_g [i_24, i_25, i_26, i_27, i_28, i_29, i_30, i_31, i_32, i_33, i_34, i_35, i_36, i_37, i_38, i_39, i_40, i_41, i_42, i_43, i_44, i_45, i_46, i_47, i_48, i_49, i_50, i_51, i_52, i_53]))), (a_8, .inl (cy 1, 90, .inl f_2)), (a_9, .inl (cy 1, 15, .inl f_3)), (a_10, .inl (cy 1, 1050, .inl f_4)), (a_11, .inl (cy 1, 30, .inl f_5)), (a_12, .inl (cy 1, 240, .inl f_6)), (a_13, .inl (cy 1, 450, .inl f_7)), (a_15, .inl (cy 1, 7200, .inl n7)), (a_16, .inl (cy 1, 3, .inl n8)), (a_17, .inl (cy 1, 3, .inl n9)), (a_18, .inl (cy 1, 8, .inl n168)), (a_19, .inl (cy 3, 240, .inl n11))] H) (hD : va_D A [(a_0, .inr (12, [.int i_2, .ref a_1, .ref a_2, .ref a_3, .ref a_4, .ref a_5, .int i_3, .int i_4, .int i_5, .int i_6, .int i_7, .long j_0, .int i_8, .int i_9, .int i_10, .int i_11, .ref a_6, .ref a_7, .ref a_8, .ref a_9, .ref a_10, .ref a_11, .ref a_12, .ref a_13, .ref a_14, .ref a_15, .ref a_16, .ref a_17, .ref a_18, .int n165, .int n166, .int n167, .int n6, .int x21_3_153, .int v169, .ref a_19, .int i_18, .ref a_20])), (a_2, .inl (cy 1, 4, .inl f_0)), (a_3, .inl (cy 2, 240, .inr (.inl f_1))), (a_6, .inl (cy 1, 5, .inl (mm_g [i_19, i_20, i_21, i_22, i_23]))), (a_7, .inl (cy 1, 30, .inl (mm_g [i_24, i_25, i_26, i_27, i_28, i_29, i_30, i_31, i_32, i_33, i_34, i_35, i_36, i_37, i_38, i_39, i_40, i_41, i_42, i_43, i_44, i_45, i_46, i_47, i_48, i_49, i_50, i_51, i_52, i_53]))), (a_8, .inl (cy 1, 90, .inl f_2)), (a_9, .inl (cy 1, 15, .inl f_3)), (a_10, .inl (cy 1, 1050, .inl f_4)), (a_11, .inl (cy 1, 30, .inl f_5)), (a_12, .inl (cy 1, 240, .inl f_6)), (a_13, .inl (cy 1, 450, .inl f_7)), (a_15, .inl (cy 1, 7200, .inl n7)), (a_16, .inl (cy 1, 3, .inl n8)), (a_17, .inl (cy 1, 3, .inl n9)), (a_18, .inl (cy 1, 8, .inl n168)), (a_19, .inl (cy 3, 240, .inl n11))]) hS
          obtain ⟨v176, ev176⟩ : ∃ y : Int32, y = x21_3_153 + 1 := ⟨_, rfl⟩
          refine lv_iinc (v := v176) (lv' := [(3, .int v176), (4, .int v169), (0, .ref a_0), (1, .int i_0), (2, .int i_1)]) hx hb dX12_laysAsk_60 hl (k := 1) rfl (by rw [ev176]; rfl) (by decide) rfl ?_
          clear hl
          clear ls
          intro ls hl
          have rv176 : mm_rg v176 1 6 := mm_add ev176 q163 mm_k1 (by decide) (by decide)
          have tv176 := mm_addEc ev176 q163 mm_k1 (by decide) (k := 1) (by decide)
          refine lv_goto (tgt := 21) hx hb dX12_laysAsk_63 (by decide) ?_
          exact ih21 v176 n165 n166 n167 x21_3_153 v169 n168 (mm_wk rv176 (by decide)) w170 (mm_wk q163 (by decide)) w171 (mm_mu hm21 tv176 (by decide) (rv176).2 (by decide)) H locs hP hD hS ls (lv_sub hl [0, 2, 3, 4] rfl)
        · refine lv_goto (tgt := 60) hx hb dX12_laysAsk_46 (by decide) ?_
          obtain ⟨v177, ev177⟩ : ∃ y : Int32, y = x21_3_153 + 1 := ⟨_, rfl⟩
          refine lv_iinc (v := v177) (lv' := [(3, .int v177), (4, .int v169), (0, .ref a_0), (1, .int i_0), (2, .int i_1)]) hx hb dX12_laysAsk_60 hl (k := 1) rfl (by rw [ev177]; rfl) (by decide) rfl ?_
          clear hl
          clear ls
          intro ls hl
          have rv177 : mm_rg v177 1 6 := mm_add ev177 q163 mm_k1 (by decide) (by decide)
          have tv177 := mm_addEc ev177 q163 mm_k1 (by decide) (k := 1) (by decide)
          refine lv_goto (tgt := 21) hx hb dX12_laysAsk_63 (by decide) ?_
          exact ih21 v177 n165 n166 n167 y21_0_33_157 y21_0_34_158 n168 (mm_wk rv177 (by decide)) w170 ry21_0_33_157 w171 (mm_mu hm21 tv177 (by decide) (rv177).2 (by decide)) H locs hP hD hS ls (lv_sub hl [0, 2, 3, 4] rfl)
  exact L21_159 _ 0 n3 n4 n5 (-1) n6 n10 (mm_wk mm_k0 (by decide)) w12 (mm_wk mm_km1 (by decide)) w16 (Nat.lt_succ_self _) H locs hP hD hS ls (lv_sub hl [0, 1, 2, 3] rfl)

set_option maxHeartbeats 4000000 in
set_option maxRecDepth 100000 in
theorem M207_X12_ask (l : Launch) (G : va_G) (cy : Nat → ClassId) (sz : Nat) (a_0 : Nat) (i_0 : Int32) (i_1 : Int32) (i_2 : Int32) (a_1 : Nat) (a_2 : Nat) (a_3 : Nat) (a_4 : Nat) (a_5 : Nat) (i_3 : Int32) (i_4 : Int32) (i_5 : Int32) (i_6 : Int32) (i_7 : Int32) (j_0 : Int64) (i_8 : Int32) (i_9 : Int32) (i_10 : Int32) (i_11 : Int32) (a_6 : Nat) (a_7 : Nat) (a_8 : Nat) (a_9 : Nat) (a_10 : Nat) (a_11 : Nat) (a_12 : Nat) (a_13 : Nat) (a_14 : Nat) (a_15 : Nat) (a_16 : Nat) (a_17 : Nat) (a_18 : Nat) (i_12 : Int32) (i_13 : Int32) (i_14 : Int32) (i_15 : Int32) (i_16 : Int32) (i_17 : Int32) (a_19 : Nat) (i_18 : Int32) (a_20 : Nat) (f_0 : Nat → Int32) (f_1 : Nat → Int32) (f_2 : Nat → Int64) (i_19 : Int32) (i_20 : Int32) (i_21 : Int32) (i_22 : Int32) (i_23 : Int32) (i_24 : Int32) (i_25 : Int32) (i_26 : Int32) (i_27 : Int32) (i_28 : Int32) (i_29 : Int32) (i_30 : Int32) (i_31 : Int32) (i_32 : Int32) (i_33 : Int32) (i_34 : Int32) (i_35 : Int32) (i_36 : Int32) (i_37 : Int32) (i_38 : Int32) (i_39 : Int32) (i_40 : Int32) (i_41 : Int32) (i_42 : Int32) (i_43 : Int32) (i_44 : Int32) (i_45 : Int32) (i_46 : Int32) (i_47 : Int32) (i_48 : Int32) (i_49 : Int32) (i_50 : Int32) (i_51 : Int32) (i_52 : Int32) (i_53 : Int32) (f_3 : Nat → Int32) (f_4 : Nat → Int32) (f_5 : Nat → Int32) (f_6 : Nat → Int32) (f_7 : Nat → Int32) (f_8 : Nat → Int32) (f_9 : Nat → Int32) (f_10 : Nat → Int32) (f_11 : Nat → Int32) (f_12 : Nat → Int32) (f_13 : Nat → Int32) (h0 : mm_rg i_12 0 8) (h1 : mm_ar f_0 (-1) 3) (h2 : mm_ar f_1 0 60) (h3 : mm_rg i_19 0 601) (h4 : mm_rg i_20 0 601) (h5 : mm_rg i_21 0 601) (h6 : mm_rg i_22 0 601) (h7 : mm_rg i_23 0 601) (h8 : mm_rg i_24 0 10) (h9 : mm_rg i_25 0 99) (h10 : mm_rg i_26 0 9) (h11 : mm_rg i_27 0 3) (h12 : mm_rg i_28 0 6) (h13 : mm_rg i_29 0 30) (h14 : mm_rg i_30 0 10) (h15 : mm_rg i_31 0 99) (h16 : mm_rg i_32 0 9) (h17 : mm_rg i_33 0 3) (h18 : mm_rg i_34 0 6) (h19 : mm_rg i_35 0 30) (h20 : mm_rg i_36 0 10) (h21 : mm_rg i_37 0 99) (h22 : mm_rg i_38 0 9) (h23 : mm_rg i_39 0 3) (h24 : mm_rg i_40 0 6) (h25 : mm_rg i_41 0 30) (h26 : mm_rg i_42 0 10) (h27 : mm_rg i_43 0 99) (h28 : mm_rg i_44 0 9) (h29 : mm_rg i_45 0 3) (h30 : mm_rg i_46 0 6) (h31 : mm_rg i_47 0 30) (h32 : mm_rg i_48 0 10) (h33 : mm_rg i_49 0 99) (h34 : mm_rg i_50 0 9) (h35 : mm_rg i_51 0 3) (h36 : mm_rg i_52 0 6) (h37 : mm_rg i_53 0 30) (h38 : mm_ar f_3 0 99) (h39 : mm_ar f_4 0 7) (h40 : mm_ar f_5 0 9) (h41 : mm_ar f_6 0 8) (h42 : mm_ar f_7 0 9) (h43 : mm_ar f_8 (-1) 99) (h44 : mm_ar f_9 0 9) (h45 : mm_ar f_10 0 210) (h46 : mm_ar f_11 0 210) (h47 : mm_ar f_12 0 9) (h48 : mm_ar f_13 0 1) (h49 : mm_rls f_4 f_5 0 i_26 i_27) (h50 : mm_txs f_6 f_7 0 i_26 i_28) (h51 : mm_acs f_8 0 i_26 i_27 i_29) (h52 : mm_tl i_19 i_27 i_28) (h53 : mm_rls f_4 f_5 1 i_32 i_33) (h54 : mm_txs f_6 f_7 1 i_32 i_34) (h55 : mm_acs f_8 1 i_32 i_33 i_35) (h56 : mm_tl i_20 i_33 i_34) (h57 : mm_rls f_4 f_5 2 i_38 i_39) (h58 : mm_txs f_6 f_7 2 i_38 i_40) (h59 : mm_acs f_8 2 i_38 i_39 i_41) (h60 : mm_tl i_21 i_39 i_40) (h61 : mm_rls f_4 f_5 3 i_44 i_45) (h62 : mm_txs f_6 f_7 3 i_44 i_46) (h63 : mm_acs f_8 3 i_44 i_45 i_47) (h64 : mm_tl i_22 i_45 i_46)  : mm_CI l yX12_ask (mm_ws yX12_ask cX12_ask 4 (some .int)) ({ frames := 16, cells := 0, slots := 0, locals := 347 } : Room) G cy sz [(a_0, .inr (12, [.int i_2, .ref a_1, .ref a_2, .ref a_3, .ref a_4, .ref a_5, .int i_3, .int i_4, .int i_5, .int i_6, .int i_7, .long j_0, .int i_8, .int i_9, .int i_10, .int i_11, .ref a_6, .ref a_7, .ref a_8, .ref a_9, .ref a_10, .ref a_11, .ref a_12, .ref a_13, .ref a_14, .ref a_15, .ref a_16, .ref a_17, .ref a_18, .int i_12, .int i_13, .int i_14, .int i_15, .int i_16, .int i_17, .ref a_19, .int i_18, .ref a_20])), (a_1, .inl (cy 1, 4, .inl f_0)), (a_2, .inl (cy 1, 4, .inl f_1)), (a_3, .inl (cy 2, 240, .inr (.inl f_2))), (a_6, .inl (cy 1, 5, .inl (mm_g [i_19, i_20, i_21, i_22, i_23]))), (a_7, .inl (cy 1, 30, .inl (mm_g [i_24, i_25, i_26, i_27, i_28, i_29, i_30, i_31, i_32, i_33, i_34, i_35, i_36, i_37, i_38, i_39, i_40, i_41, i_42, i_43, i_44, i_45, i_46, i_47, i_48, i_49, i_50, i_51, i_52, i_53]))), (a_8, .inl (cy 1, 90, .inl f_3)), (a_9, .inl (cy 1, 15, .inl f_4)), (a_10, .inl (cy 1, 1050, .inl f_5)), (a_11, .inl (cy 1, 30, .inl f_6)), (a_12, .inl (cy 1, 240, .inl f_7)), (a_13, .inl (cy 1, 450, .inl f_8)), (a_15, .inl (cy 1, 7200, .inl f_9)), (a_16, .inl (cy 1, 3, .inl f_10)), (a_17, .inl (cy 1, 3, .inl f_11)), (a_18, .inl (cy 1, 8, .inl f_12)), (a_19, .inl (cy 3, 240, .inl f_13))] [.ref a_0, .int i_0, .int i_1] (fun u : Int32 × Int32 × Int32 × Int32 × Int32 × Int32 × (Nat → Int32) × (Nat → Int32) × (Nat → Int32) × (Nat → Int32) × (Nat → Int32) => [(a_0, .inr (12, [.int 0, .ref a_1, .ref a_2, .ref a_3, .ref a_4, .ref a_5, .int i_3, .int i_4, .int i_5, .int i_6, .int i_7, .long j_0, .int i_8, .int i_9, .int i_10, .int i_11, .ref a_6, .ref a_7, .ref a_8, .ref a_9, .ref a_10, .ref a_11, .ref a_12, .ref a_13, .ref a_14, .ref a_15, .ref a_16, .ref a_17, .ref a_18, .int u.1, .int u.2.1, .int u.2.2.1, .int u.2.2.2.1, .int u.2.2.2.2.1, .int u.2.2.2.2.2.1, .ref a_19, .int i_18, .ref a_20])), (a_1, .inl (cy 1, 4, .inl f_0)), (a_2, .inl (cy 1, 4, .inl f_1)), (a_3, .inl (cy 2, 240, .inr (.inl f_2))), (a_6, .inl (cy 1, 5, .inl (mm_g [i_19, i_20, i_21, i_22, i_23]))), (a_7, .inl (cy 1, 30, .inl (mm_g [i_24, i_25, i_26, i_27, i_28, i_29, i_30, i_31, i_32, i_33, i_34, i_35, i_36, i_37, i_38, i_39, i_40, i_41, i_42, i_43, i_44, i_45, i_46, i_47, i_48, i_49, i_50, i_51, i_52, i_53]))), (a_8, .inl (cy 1, 90, .inl f_3)), (a_9, .inl (cy 1, 15, .inl f_4)), (a_10, .inl (cy 1, 1050, .inl f_5)), (a_11, .inl (cy 1, 30, .inl f_6)), (a_12, .inl (cy 1, 240, .inl f_7)), (a_13, .inl (cy 1, 450, .inl f_8)), (a_15, .inl (cy 1, 7200, .inl u.2.2.2.2.2.2.1)), (a_16, .inl (cy 1, 3, .inl u.2.2.2.2.2.2.2.1)), (a_17, .inl (cy 1, 3, .inl u.2.2.2.2.2.2.2.2.1)), (a_18, .inl (cy 1, 8, .inl u.2.2.2.2.2.2.2.2.2.1)), (a_19, .inl (cy 3, 240, .inl u.2.2.2.2.2.2.2.2.2.2))]) (fun (r : Int32) (u : Int32 × Int32 × Int32 × Int32 × Int32 × Int32 × (Nat → Int32) × (Nat → Int32) × (Nat → Int32) × (Nat → Int32) × (Nat → Int32)) => mm_rg u.1 0 8 ∧ mm_ar u.2.2.2.2.2.2.1 0 9 ∧ mm_ar u.2.2.2.2.2.2.2.1 0 210 ∧ mm_ar u.2.2.2.2.2.2.2.2.1 0 210 ∧ mm_ar u.2.2.2.2.2.2.2.2.2.1 0 9 ∧ mm_ar u.2.2.2.2.2.2.2.2.2.2 0 1 ∧ mm_rg r (-6) 5) 0 0 := by
  refine mm_begin (lv := [(0, .ref a_0), (1, .int i_0), (2, .int i_1)]) (by decide) (Nat.le_of_ble_eq_true rfl) rfl ?_
  intro p e s m below meth c A ls R args Q H locs hRe hQ hAe hx hb hr hlocks hml hown hnm hts hsz hA hS hP hK hD hZ hl
  have hRf : R.frames = 16 := by rw [hRe]
  have hRl : R.locals = 347 := by rw [hRe]
  have hRc : R.cells = 0 := by rw [hRe]
  have hRs : R.slots = 0 := by rw [hRe]
  refine lv_aload_n hx hb dX12_ask_0 rfl (lv_at hl 0 rfl) ?_
  refine lv_iconst (v := 0) hx hb dX12_ask_1 (by decide) ?_
  refine va_put (D := G) (ci := 12) (v := .int 0) (ty := tyX12 0) (C := RX12) (T := TX12) (N := 38) hx hb hts (mm_i inlX12) tyX12 tyX12_ok nmX12 hown hK.1 hP hD hS 0 rfl rfl 0 (by decide) (mm_h hts mm_w177) (fun _ h9 => h9) rfl (tyX12_ok 0 (by decide)) rfl rfl (Nat.le_of_ble_eq_true rfl) dX12_ask_2 ?_
  clear hP hD hS
  clear H locs
  intro H locs (hP : va_P G vwCl [(a_0, .inr (12, [.int 0, .ref a_1, .ref a_2, .ref a_3, .ref a_4, .ref a_5, .int i_3, .int i_4, .int i_5, .int i_6, .int i_7, .long j_0, .int i_8, .int i_9, .int i_10, .int i_11, .ref a_6, .ref a_7, .ref a_8, .ref a_9, .ref a_10, .ref a_11, .ref a_12, .ref a_13, .ref a_14, .ref a_15, .ref a_16, .ref a_17, .ref a_18, .int i_12, .int i_13, .int i_14, .int i_15, .int i_16, .int i_17, .ref a_19, .int i_18, .ref a_20])), (a_1, .inl (cy 1, 4, .inl f_0)), (a_2, .inl (cy 1, 4, .inl f_1)), (a_3, .inl (cy 2, 240, .inr (.inl f_2))), (a_6, .inl (cy 1, 5, .inl (mm_g [i_19, i_20, i_21, i_22, i_23]))), (a_7, .inl (cy 1, 30, .inl (mm_g [i_24, i_25, i_26, i_27, i_28, i_29, i_30, i_31, i_32, i_33, i_34, i_35, i_36, i_37, i_38, i_39, i_40, i_41, i_42, i_43, i_44, i_45, i_46, i_47, i_48, i_49, i_50, i_51, i_52, i_53]))), (a_8, .inl (cy 1, 90, .inl f_3)), (a_9, .inl (cy 1, 15, .inl f_4)), (a_10, .inl (cy 1, 1050, .inl f_5)), (a_11, .inl (cy 1, 30, .inl f_6)), (a_12, .inl (cy 1, 240, .inl f_7)), (a_13, .inl (cy 1, 450, .inl f_8)), (a_15, .inl (cy 1, 7200, .inl f_9)), (a_16, .inl (cy 1, 3, .inl f_10)), (a_17, .inl (cy 1, 3, .inl f_11)), (a_18, .inl (cy 1, 8, .inl f_12)), (a_19, .inl (cy 3, 240, .inl f_13))] H) (hD : va_D A [(a_0, .inr (12, [.int 0, .ref a_1, .ref a_2, .ref a_3, .ref a_4, .ref a_5, .int i_3, .int i_4, .int i_5, .int i_6, .int i_7, .long j_0, .int i_8, .int i_9, .int i_10, .int i_11, .ref a_6, .ref a_7, .ref a_8, .ref a_9, .ref a_10, .ref a_11, .ref a_12, .ref a_13, .ref a_14, .ref a_15, .ref a_16, .ref a_17, .ref a_18, .int i_12, .int i_13, .int i_14, .int i_15, .int i_16, .int i_17, .ref a_19, .int i_18, .ref a_20])), (a_1, .inl (cy 1, 4, .inl f_0)), (a_2, .inl (cy 1, 4, .inl f_1)), (a_3, .inl (cy 2, 240, .inr (.inl f_2))), (a_6, .inl (cy 1, 5, .inl (mm_g [i_19, i_20, i_21, i_22, i_23]))), (a_7, .inl (cy 1, 30, .inl (mm_g [i_24, i_25, i_26, i_27, i_28, i_29, i_30, i_31, i_32, i_33, i_34, i_35, i_36, i_37, i_38, i_39, i_40, i_41, i_42, i_43, i_44, i_45, i_46, i_47, i_48, i_49, i_50, i_51, i_52, i_53]))), (a_8, .inl (cy 1, 90, .inl f_3)), (a_9, .inl (cy 1, 15, .inl f_4)), (a_10, .inl (cy 1, 1050, .inl f_5)), (a_11, .inl (cy 1, 30, .inl f_6)), (a_12, .inl (cy 1, 240, .inl f_7)), (a_13, .inl (cy 1, 450, .inl f_8)), (a_15, .inl (cy 1, 7200, .inl f_9)), (a_16, .inl (cy 1, 3, .inl f_10)), (a_17, .inl (cy 1, 3, .inl f_11)), (a_18, .inl (cy 1, 8, .inl f_12)), (a_19, .inl (cy 3, 240, .inl f_13))]) hS
  refine lv_aload_n hx hb dX12_ask_5 rfl (lv_at hl 0 rfl) ?_
  refine lv_iload_n hx hb dX12_ask_6 rfl (lv_at hl 1 rfl) ?_
  refine lv_aload_n hx hb dX12_ask_7 rfl (lv_at hl 0 rfl) ?_
  refine lv_iload_n hx hb dX12_ask_8 rfl (lv_at hl 2 rfl) ?_
  refine mm_finir (va_runV (As := [.int i_1]) (rest := [.int i_0, .ref a_0]) ⟨hx, hb, hml, hown, hts⟩ (M98_X12_isLand l G cy H.size a_0 i_1 0 a_1 a_2 a_3 a_4 a_5 i_3 i_4 i_5 i_6 i_7 j_0 i_8 i_9 i_10 i_11 a_6 a_7 a_8 a_9 a_10 a_11 a_12 a_13 a_14 a_15 a_16 a_17 a_18 i_12 i_13 i_14 i_15 i_16 i_17 a_19 i_18 a_20 i_24 i_25 i_26 i_27 i_28 i_29 i_30 i_31 i_32 i_33 i_34 i_35 i_36 i_37 i_38 i_39 i_40 i_41 i_42 i_43 i_44 i_45 i_46 i_47 i_48 i_49 i_50 i_51 i_52 i_53 h8 h9 h10 h11 h12 h13 h14 h15 h16 h17 h18 h19 h20 h21 h22 h23 h24 h25 h26 h27 h28 h29 h30 h31 h32 h33 h34 h35 h36 h37) (cwV 1 hts (mm_gV mm_w641 mm_w642 mm_w643 mm_w5 mm_w644) rfl rfl rfl hd_X12_isLand ⟨by rw [hRf]; exact Nat.le_of_ble_eq_true rfl, by rw [hRl]; exact Nat.le_of_ble_eq_true rfl⟩) (mm_preV hK hZ hS hA hP hD [0, 5] rfl rfl 0 rfl rfl rfl) rfl rfl hl.1 rfl (lv_room (Nat.le_of_ble_eq_true rfl)) dX12_ask_9 ⟨by rw [hRc]; exact Nat.le_of_ble_eq_true rfl, by rw [hRs]; exact Nat.le_of_ble_eq_true rfl⟩) hP hD hS hA [0, 5] rfl (fun _ => rfl) ?_
  clear hP hD hS
  clear H locs
  intro v1 _u H locs hw hP hD hS
  rcases hw with rfl | ⟨rfl, w2, w3⟩
  · refine mm_finir (va_runV (As := [.int i_0, .int 0]) (rest := []) ⟨hx, hb, hml, hown, hts⟩ (M198_X12_whyNot l G cy H.size a_0 i_0 ) (cwV 2 hts (mm_gV mm_w1265 mm_w1266 mm_w1267 mm_w5 mm_w1268) rfl rfl rfl hd_X12_whyNot ⟨by rw [hRf]; exact Nat.le_of_ble_eq_true rfl, by rw [hRl]; exact Nat.le_of_ble_eq_true rfl⟩) (mm_preV hK hZ hS hA hP hD [] rfl rfl 0 rfl rfl rfl) rfl rfl hl.1 rfl (lv_room (Nat.le_of_ble_eq_true rfl)) dX12_ask_12 ⟨by rw [hRc]; exact Nat.le_of_ble_eq_true rfl, by rw [hRs]; exact Nat.le_of_ble_eq_true rfl⟩) hP hD hS hA [] rfl (fun _ => rfl) ?_
    clear hP hD hS
    clear H locs
    intro v4 _u H locs hw hP hD hS
    subst hw
    refine lv_istore_n (lv' := [(3, .int (-2)), (0, .ref a_0), (1, .int i_0), (2, .int i_1)]) hx hb dX12_ask_15 rfl hl (by decide) rfl ?_
    clear hl
    clear ls
    intro ls hl
    refine lv_iload_n hx hb dX12_ask_16 rfl (lv_at hl 0 rfl) ?_
    refine lv_if_eq (tgt := 22) hx hb dX12_ask_17 (by decide) (fun c5 => ?_) (fun c5 => ?_)
    · exact mm_eqN c5 mm_km2 mm_k0 (by decide)
    · refine lv_iload_n hx hb dX12_ask_20 rfl (lv_at hl 0 rfl) ?_
      subst hAe
      rw [hQ]
      exact W.iret (v := (-2)) hx hb hr (fun t ht hW => ⟨⟨(-2), (i_12, i_13, i_14, i_15, i_16, i_17, f_9, f_10, f_11, f_12, f_13), rfl, ⟨h0, h44, h45, h46, h47, h48, (mm_wk mm_km2 (by decide))⟩, by rw [ht]; exact hP, hK.warm hW, hD⟩, hS.F ht⟩) hS.2.2 dX12_ask_21
  · have q6 := mm_ltR (lo := 1) w3 w2 h11 (by decide)
    have q7 : mm_rg i_19 1 601 := mm_tl_3 h52 q6 h3 (by decide)
    refine mm_finir (va_runV (As := [.int i_0, .int 1]) (rest := []) ⟨hx, hb, hml, hown, hts⟩ (M200_X12_whyNot l G cy H.size a_0 i_0 0 a_1 a_2 a_3 a_4 a_5 i_3 i_4 i_5 i_6 i_7 j_0 i_8 i_9 i_10 i_11 a_6 a_7 a_8 a_9 a_10 a_11 a_12 a_13 a_14 a_15 a_16 a_17 a_18 i_12 i_13 i_14 i_15 i_16 i_17 a_19 i_18 a_20 f_0 f_1 f_2 i_24 i_25 i_26 i_27 i_28 i_29 i_30 i_31 i_32 i_33 i_34 i_35 i_36 i_37 i_38 i_39 i_40 i_41 i_42 i_43 i_44 i_45 i_46 i_47 i_48 i_49 i_50 i_51 i_52 i_53 h1 h2 h8 h9 h10 (mm_wk q6 (by decide)) h12 h13 h14 h15 h16 h17 h18 h19 h20 h21 h22 h23 h24 h25 h26 h27 h28 h29 h30 h31 h32 h33 h34 h35 h36 h37) (cwV 2 hts (mm_gV mm_w1265 mm_w1266 mm_w1267 mm_w5 mm_w1268) rfl rfl rfl hd_X12_whyNot ⟨by rw [hRf]; exact Nat.le_of_ble_eq_true rfl, by rw [hRl]; exact Nat.le_of_ble_eq_true rfl⟩) (mm_preV hK hZ hS hA hP hD [0, 1, 2, 3, 5] rfl rfl 0 rfl rfl rfl) rfl rfl hl.1 rfl (lv_room (Nat.le_of_ble_eq_true rfl)) dX12_ask_12 ⟨by rw [hRc]; exact Nat.le_of_ble_eq_true rfl, by rw [hRs]; exact Nat.le_of_ble_eq_true rfl⟩) hP hD hS hA [0, 1, 2, 3, 5] rfl (fun _ => rfl) ?_
    clear hP hD hS
    clear H locs
    intro v8 _u H locs hw hP hD hS
    rcases hw with rfl | ⟨rfl, w9⟩ | ⟨rfl, w10, w11⟩
    · refine lv_istore_n (lv' := [(3, .int (-2)), (0, .ref a_0), (1, .int i_0), (2, .int i_1)]) hx hb dX12_ask_15 rfl hl (by decide) rfl ?_
      clear hl
      clear ls
      intro ls hl
      refine lv_iload_n hx hb dX12_ask_16 rfl (lv_at hl 0 rfl) ?_
      refine lv_if_eq (tgt := 22) hx hb dX12_ask_17 (by decide) (fun c12 => ?_) (fun c12 => ?_)
      · exact mm_eqN c12 mm_km2 mm_k0 (by decide)
      · refine lv_iload_n hx hb dX12_ask_20 rfl (lv_at hl 0 rfl) ?_
        subst hAe
        rw [hQ]
        exact W.iret (v := (-2)) hx hb hr (fun t ht hW => ⟨⟨(-2), (i_12, i_13, i_14, i_15, i_16, i_17, f_9, f_10, f_11, f_12, f_13), rfl, ⟨h0, h44, h45, h46, h47, h48, (mm_wk mm_km2 (by decide))⟩, by rw [ht]; exact hP, hK.warm hW, hD⟩, hS.F ht⟩) hS.2.2 dX12_ask_21
    · refine lv_istore_n (lv' := [(3, .int (-6)), (0, .ref a_0), (1, .int i_0), (2, .int i_1)]) hx hb dX12_ask_15 rfl hl (by decide) rfl ?_
      clear hl
      clear ls
      intro ls hl
      refine lv_iload_n hx hb dX12_ask_16 rfl (lv_at hl 0 rfl) ?_
      refine lv_if_eq (tgt := 22) hx hb dX12_ask_17 (by decide) (fun c13 => ?_) (fun c13 => ?_)
      · exact mm_eqN c13 mm_km6 mm_k0 (by decide)
      · refine lv_iload_n hx hb dX12_ask_20 rfl (lv_at hl 0 rfl) ?_
        subst hAe
        rw [hQ]
        exact W.iret (v := (-6)) hx hb hr (fun t ht hW => ⟨⟨(-6), (i_12, i_13, i_14, i_15, i_16, i_17, f_9, f_10, f_11, f_12, f_13), rfl, ⟨h0, h44, h45, h46, h47, h48, (mm_wk mm_km6 (by decide))⟩, by rw [ht]; exact hP, hK.warm hW, hD⟩, hS.F ht⟩) hS.2.2 dX12_ask_21
    · refine lv_istore_n (lv' := [(3, .int 0), (0, .ref a_0), (1, .int i_0), (2, .int i_1)]) hx hb dX12_ask_15 rfl hl (by decide) rfl ?_
      clear hl
      clear ls
      intro ls hl
      refine lv_iload_n hx hb dX12_ask_16 rfl (lv_at hl 0 rfl) ?_
      refine lv_if_eq (tgt := 22) hx hb dX12_ask_17 (by decide) (fun c14 => ?_) (fun c14 => ?_)
      · refine lv_aload_n hx hb dX12_ask_22 rfl (lv_at hl 1 rfl) ?_
        refine lv_iload_n hx hb dX12_ask_23 rfl (lv_at hl 2 rfl) ?_
        refine lv_iload_n hx hb dX12_ask_24 rfl (lv_at hl 3 rfl) ?_
        refine mm_finv (va_runV (As := [.int i_0, .int i_1]) (rest := []) ⟨hx, hb, hml, hown, hts⟩ (M206_X12_laysAsk l G cy H.size a_0 i_0 i_1 0 a_1 a_2 a_3 a_4 a_5 i_3 i_4 i_5 i_6 i_7 j_0 i_8 i_9 i_10 i_11 a_6 a_7 a_8 a_9 a_10 a_11 a_12 a_13 a_14 a_15 a_16 a_17 a_18 i_12 i_13 i_14 i_15 i_16 i_17 a_19 i_18 a_20 f_1 f_2 i_19 i_20 i_21 i_22 i_23 i_24 i_25 i_26 i_27 i_28 i_29 i_30 i_31 i_32 i_33 i_34 i_35 i_36 i_37 i_38 i_39 i_40 i_41 i_42 i_43 i_44 i_45 i_46 i_47 i_48 i_49 i_50 i_51 i_52 i_53 f_3 f_4 f_5 f_6 f_7 f_8 f_9 f_10 f_11 f_12 f_13 w10 w2 h0 h2 (mm_wk q7 (by decide)) h4 h5 h6 h7 h8 h9 h10 (mm_wk q6 (by decide)) h12 h13 h14 h15 h16 h17 h18 h19 h20 h21 h22 h23 h24 h25 h26 h27 h28 h29 h30 h31 h32 h33 h34 h35 h36 h37 h38 h39 h40 h41 h42 h43 h44 h45 h46 h47 h48 h49 h50 h51 h52 h53 h54 h55 h56 h57 h58 h59 h60 h61 h62 h63 h64 w3 w11) (cwV 2 hts (mm_gV mm_w1317 mm_w1318 mm_w1319 mm_w5 mm_w1320) rfl rfl rfl hd_X12_laysAsk ⟨by rw [hRf]; exact Nat.le_of_ble_eq_true rfl, by rw [hRl]; exact Nat.le_of_ble_eq_true rfl⟩) (mm_preV hK hZ hS hA hP hD [0, 2, 3, 4, 5, 6, 7, 8, 9, 10, 11, 12, 13, 14, 15, 16] rfl rfl 0 rfl rfl rfl) rfl rfl hl.1 rfl (lv_room (Nat.le_of_ble_eq_true rfl)) dX12_ask_25 ⟨by rw [hRc]; exact Nat.le_of_ble_eq_true rfl, by rw [hRs]; exact Nat.le_of_ble_eq_true rfl⟩) hP hD hS hA (fun u : Int32 × Int32 × Int32 × Int32 × Int32 × Int32 × (Nat → Int32) × (Nat → Int32) × (Nat → Int32) × (Nat → Int32) × (Nat → Int32) => [(a_0, .inr (12, [.int 0, .ref a_1, .ref a_2, .ref a_3, .ref a_4, .ref a_5, .int i_3, .int i_4, .int i_5, .int i_6, .int i_7, .long j_0, .int i_8, .int i_9, .int i_10, .int i_11, .ref a_6, .ref a_7, .ref a_8, .ref a_9, .ref a_10, .ref a_11, .ref a_12, .ref a_13, .ref a_14, .ref a_15, .ref a_16, .ref a_17, .ref a_18, .int u.1, .int u.2.1, .int u.2.2.1, .int u.2.2.2.1, .int u.2.2.2.2.1, .int u.2.2.2.2.2.1, .ref a_19, .int i_18, .ref a_20])), (a_1, .inl (cy 1, 4, .inl f_0)), (a_2, .inl (cy 1, 4, .inl f_1)), (a_3, .inl (cy 2, 240, .inr (.inl f_2))), (a_6, .inl (cy 1, 5, .inl (mm_g [i_19, i_20, i_21, i_22, i_23]))), (a_7, .inl (cy 1, 30, .inl (mm_g [i_24, i_25, i_26, i_27, i_28, i_29, i_30, i_31, i_32, i_33, i_34, i_35, i_36, i_37, i_38, i_39, i_40, i_41, i_42, i_43, i_44, i_45, i_46, i_47, i_48, i_49, i_50, i_51, i_52, i_53]))), (a_8, .inl (cy 1, 90, .inl f_3)), (a_9, .inl (cy 1, 15, .inl f_4)), (a_10, .inl (cy 1, 1050, .inl f_5)), (a_11, .inl (cy 1, 30, .inl f_6)), (a_12, .inl (cy 1, 240, .inl f_7)), (a_13, .inl (cy 1, 450, .inl f_8)), (a_15, .inl (cy 1, 7200, .inl u.2.2.2.2.2.2.1)), (a_16, .inl (cy 1, 3, .inl u.2.2.2.2.2.2.2.1)), (a_17, .inl (cy 1, 3, .inl u.2.2.2.2.2.2.2.2.1)), (a_18, .inl (cy 1, 8, .inl u.2.2.2.2.2.2.2.2.2.1)), (a_19, .inl (cy 3, 240, .inl u.2.2.2.2.2.2.2.2.2.2))]) [0, 2, 3, 4, 5, 6, 7, 8, 9, 10, 11, 12, 13, 14, 15, 16] [1] (n := 17) (fun _ => rfl) (by decide +kernel) (by decide +kernel) rfl (fun _ => rfl) (wr := [(a_1, .inl (cy 1, 4, .inl f_0))]) rfl (fun _ => rfl) (fun _ => @rfl _ ([a_0, a_2, a_3, a_6, a_7, a_8, a_9, a_10, a_11, a_12, a_13, a_15, a_16, a_17, a_18, a_19] : List Nat)) ?_
        clear hP hD hS
        clear H locs
        intro u
        obtain ⟨n15, n16, n17, n18, n19, n20, n21, n22, n23, n24, n25⟩ := u
        intro H locs hw (hP : va_P G vwCl [(a_0, .inr (12, [.int 0, .ref a_1, .ref a_2, .ref a_3, .ref a_4, .ref a_5, .int i_3, .int i_4, .int i_5, .int i_6, .int i_7, .long j_0, .int i_8, .int i_9, .int i_10, .int i_11, .ref a_6, .ref a_7, .ref a_8, .ref a_9, .ref a_10, .ref a_11, .ref a_12, .ref a_13, .ref a_14, .ref a_15, .ref a_16, .ref a_17, .ref a_18, .int n15, .int n16, .int n17, .int n18, .int n19, .int n20, .ref a_19, .int i_18, .ref a_20])), (a_1, .inl (cy 1, 4, .inl f_0)), (a_2, .inl (cy 1, 4, .inl f_1)), (a_3, .inl (cy 2, 240, .inr (.inl f_2))), (a_6, .inl (cy 1, 5, .inl (mm_g [i_19, i_20, i_21, i_22, i_23]))), (a_7, .inl (cy 1, 30, .inl (mm_g [i_24, i_25, i_26, i_27, i_28, i_29, i_30, i_31, i_32, i_33, i_34, i_35, i_36, i_37, i_38, i_39, i_40, i_41, i_42, i_43, i_44, i_45, i_46, i_47, i_48, i_49, i_50, i_51, i_52, i_53]))), (a_8, .inl (cy 1, 90, .inl f_3)), (a_9, .inl (cy 1, 15, .inl f_4)), (a_10, .inl (cy 1, 1050, .inl f_5)), (a_11, .inl (cy 1, 30, .inl f_6)), (a_12, .inl (cy 1, 240, .inl f_7)), (a_13, .inl (cy 1, 450, .inl f_8)), (a_15, .inl (cy 1, 7200, .inl n21)), (a_16, .inl (cy 1, 3, .inl n22)), (a_17, .inl (cy 1, 3, .inl n23)), (a_18, .inl (cy 1, 8, .inl n24)), (a_19, .inl (cy 3, 240, .inl n25))] H) (hD : va_D A [(a_0, .inr (12, [.int 0, .ref a_1, .ref a_2, .ref a_3, .ref a_4, .ref a_5, .int i_3, .int i_4, .int i_5, .int i_6, .int i_7, .long j_0, .int i_8, .int i_9, .int i_10, .int i_11, .ref a_6, .ref a_7, .ref a_8, .ref a_9, .ref a_10, .ref a_11, .ref a_12, .ref a_13, .ref a_14, .ref a_15, .ref a_16, .ref a_17, .ref a_18, .int n15, .int n16, .int n17, .int n18, .int n19, .int n20, .ref a_19, .int i_18, .ref a_20])), (a_1, .inl (cy 1, 4, .inl f_0)), (a_2, .inl (cy 1, 4, .inl f_1)), (a_3, .inl (cy 2, 240, .inr (.inl f_2))), (a_6, .inl (cy 1, 5, .inl (mm_g [i_19, i_20, i_21, i_22, i_23]))), (a_7, .inl (cy 1, 30, .inl (mm_g [i_24, i_25, i_26, i_27, i_28, i_29, i_30, i_31, i_32, i_33, i_34, i_35, i_36, i_37, i_38, i_39, i_40, i_41, i_42, i_43, i_44, i_45, i_46, i_47, i_48, i_49, i_50, i_51, i_52, i_53]))), (a_8, .inl (cy 1, 90, .inl f_3)), (a_9, .inl (cy 1, 15, .inl f_4)), (a_10, .inl (cy 1, 1050, .inl f_5)), (a_11, .inl (cy 1, 30, .inl f_6)), (a_12, .inl (cy 1, 240, .inl f_7)), (a_13, .inl (cy 1, 450, .inl f_8)), (a_15, .inl (cy 1, 7200, .inl n21)), (a_16, .inl (cy 1, 3, .inl n22)), (a_17, .inl (cy 1, 3, .inl n23)), (a_18, .inl (cy 1, 8, .inl n24)), (a_19, .inl (cy 3, 240, .inl n25))]) hS
        obtain ⟨w26, w27, w28, w29, w30, w31, w32⟩ := hw
        refine lv_aload_n hx hb dX12_ask_28 rfl (lv_at hl 1 rfl) ?_
        refine va_get (D := G) (ci := 12) (v := .int n19) (C := RX12) (T := TX12) (N := 38) hx hb hts (mm_i inlX12) hown hK.1 hP 0 rfl rfl 33 (by decide) (mm_h hts mm_w1316) (fun _ h9 => h9) rfl dX12_ask_29 ?_
        subst hAe
        rw [hQ]
        exact W.iret (v := n19) hx hb hr (fun t ht hW => ⟨⟨n19, (n15, n16, n17, n18, n19, n20, n21, n22, n23, n24, n25), rfl, ⟨w26, w28, w29, w30, w31, w32, (mm_wk w27 (by decide))⟩, by rw [ht]; exact hP, hK.warm hW, hD⟩, hS.F ht⟩) hS.2.2 dX12_ask_32
      · exact absurd rfl (mm_ne c14)

set_option maxHeartbeats 4000000 in
set_option maxRecDepth 100000 in
theorem M208_X12_leaves (l : Launch) (G : va_G) (cy : Nat → ClassId) (sz : Nat) (a_0 : Nat) (i_0 : Int32) (i_1 : Int32) (i_2 : Int32) (a_1 : Nat) (a_2 : Nat) (a_3 : Nat) (a_4 : Nat) (a_5 : Nat) (i_3 : Int32) (i_4 : Int32) (i_5 : Int32) (i_6 : Int32) (i_7 : Int32) (j_0 : Int64) (i_8 : Int32) (i_9 : Int32) (i_10 : Int32) (i_11 : Int32) (a_6 : Nat) (a_7 : Nat) (a_8 : Nat) (a_9 : Nat) (a_10 : Nat) (a_11 : Nat) (a_12 : Nat) (a_13 : Nat) (a_14 : Nat) (a_15 : Nat) (a_16 : Nat) (a_17 : Nat) (a_18 : Nat) (i_12 : Int32) (i_13 : Int32) (i_14 : Int32) (i_15 : Int32) (i_16 : Int32) (i_17 : Int32) (a_19 : Nat) (i_18 : Int32) (a_20 : Nat) (f_0 : Nat → Int32) (f_1 : Nat → Int32) (f_2 : Nat → Int64) (i_19 : Int32) (i_20 : Int32) (i_21 : Int32) (i_22 : Int32) (i_23 : Int32) (i_24 : Int32) (i_25 : Int32) (i_26 : Int32) (i_27 : Int32) (i_28 : Int32) (i_29 : Int32) (i_30 : Int32) (i_31 : Int32) (i_32 : Int32) (i_33 : Int32) (i_34 : Int32) (i_35 : Int32) (i_36 : Int32) (i_37 : Int32) (i_38 : Int32) (i_39 : Int32) (i_40 : Int32) (i_41 : Int32) (i_42 : Int32) (i_43 : Int32) (i_44 : Int32) (i_45 : Int32) (i_46 : Int32) (i_47 : Int32) (i_48 : Int32) (i_49 : Int32) (i_50 : Int32) (i_51 : Int32) (i_52 : Int32) (i_53 : Int32) (f_3 : Nat → Int32) (f_4 : Nat → Int32) (f_5 : Nat → Int32) (f_6 : Nat → Int32) (f_7 : Nat → Int32) (f_8 : Nat → Int32) (f_9 : Nat → Int32) (f_10 : Nat → Int32) (f_11 : Nat → Int32) (f_12 : Nat → Int32) (f_13 : Nat → Int32) (h0 : mm_rg i_12 0 8) (h1 : mm_ar f_0 (-1) 3) (h2 : mm_ar f_1 0 60) (h3 : mm_rg i_19 0 601) (h4 : mm_rg i_20 0 601) (h5 : mm_rg i_21 0 601) (h6 : mm_rg i_22 0 601) (h7 : mm_rg i_23 0 601) (h8 : mm_rg i_24 0 10) (h9 : mm_rg i_25 0 99) (h10 : mm_rg i_26 0 9) (h11 : mm_rg i_27 0 3) (h12 : mm_rg i_28 0 6) (h13 : mm_rg i_29 0 30) (h14 : mm_rg i_30 0 10) (h15 : mm_rg i_31 0 99) (h16 : mm_rg i_32 0 9) (h17 : mm_rg i_33 0 3) (h18 : mm_rg i_34 0 6) (h19 : mm_rg i_35 0 30) (h20 : mm_rg i_36 0 10) (h21 : mm_rg i_37 0 99) (h22 : mm_rg i_38 0 9) (h23 : mm_rg i_39 0 3) (h24 : mm_rg i_40 0 6) (h25 : mm_rg i_41 0 30) (h26 : mm_rg i_42 0 10) (h27 : mm_rg i_43 0 99) (h28 : mm_rg i_44 0 9) (h29 : mm_rg i_45 0 3) (h30 : mm_rg i_46 0 6) (h31 : mm_rg i_47 0 30) (h32 : mm_rg i_48 0 10) (h33 : mm_rg i_49 0 99) (h34 : mm_rg i_50 0 9) (h35 : mm_rg i_51 0 3) (h36 : mm_rg i_52 0 6) (h37 : mm_rg i_53 0 30) (h38 : mm_ar f_3 0 99) (h39 : mm_ar f_4 0 7) (h40 : mm_ar f_5 0 9) (h41 : mm_ar f_6 0 8) (h42 : mm_ar f_7 0 9) (h43 : mm_ar f_8 (-1) 99) (h44 : mm_ar f_9 0 9) (h45 : mm_ar f_10 0 210) (h46 : mm_ar f_11 0 210) (h47 : mm_ar f_12 0 9) (h48 : mm_ar f_13 0 1) (h49 : mm_rls f_4 f_5 0 i_26 i_27) (h50 : mm_txs f_6 f_7 0 i_26 i_28) (h51 : mm_acs f_8 0 i_26 i_27 i_29) (h52 : mm_tl i_19 i_27 i_28) (h53 : mm_rls f_4 f_5 1 i_32 i_33) (h54 : mm_txs f_6 f_7 1 i_32 i_34) (h55 : mm_acs f_8 1 i_32 i_33 i_35) (h56 : mm_tl i_20 i_33 i_34) (h57 : mm_rls f_4 f_5 2 i_38 i_39) (h58 : mm_txs f_6 f_7 2 i_38 i_40) (h59 : mm_acs f_8 2 i_38 i_39 i_41) (h60 : mm_tl i_21 i_39 i_40) (h61 : mm_rls f_4 f_5 3 i_44 i_45) (h62 : mm_txs f_6 f_7 3 i_44 i_46) (h63 : mm_acs f_8 3 i_44 i_45 i_47) (h64 : mm_tl i_22 i_45 i_46)  : mm_CI l yX12_leaves (mm_ws yX12_leaves cX12_leaves 4 (some .int)) ({ frames := 16, cells := 0, slots := 0, locals := 347 } : Room) G cy sz [(a_0, .inr (12, [.int i_2, .ref a_1, .ref a_2, .ref a_3, .ref a_4, .ref a_5, .int i_3, .int i_4, .int i_5, .int i_6, .int i_7, .long j_0, .int i_8, .int i_9, .int i_10, .int i_11, .ref a_6, .ref a_7, .ref a_8, .ref a_9, .ref a_10, .ref a_11, .ref a_12, .ref a_13, .ref a_14, .ref a_15, .ref a_16, .ref a_17, .ref a_18, .int i_12, .int i_13, .int i_14, .int i_15, .int i_16, .int i_17, .ref a_19, .int i_18, .ref a_20])), (a_1, .inl (cy 1, 4, .inl f_0)), (a_2, .inl (cy 1, 4, .inl f_1)), (a_3, .inl (cy 2, 240, .inr (.inl f_2))), (a_6, .inl (cy 1, 5, .inl (mm_g [i_19, i_20, i_21, i_22, i_23]))), (a_7, .inl (cy 1, 30, .inl (mm_g [i_24, i_25, i_26, i_27, i_28, i_29, i_30, i_31, i_32, i_33, i_34, i_35, i_36, i_37, i_38, i_39, i_40, i_41, i_42, i_43, i_44, i_45, i_46, i_47, i_48, i_49, i_50, i_51, i_52, i_53]))), (a_8, .inl (cy 1, 90, .inl f_3)), (a_9, .inl (cy 1, 15, .inl f_4)), (a_10, .inl (cy 1, 1050, .inl f_5)), (a_11, .inl (cy 1, 30, .inl f_6)), (a_12, .inl (cy 1, 240, .inl f_7)), (a_13, .inl (cy 1, 450, .inl f_8)), (a_15, .inl (cy 1, 7200, .inl f_9)), (a_16, .inl (cy 1, 3, .inl f_10)), (a_17, .inl (cy 1, 3, .inl f_11)), (a_18, .inl (cy 1, 8, .inl f_12)), (a_19, .inl (cy 3, 240, .inl f_13))] [.ref a_0, .int i_0, .int i_1] (fun u : Int32 × Int32 × Int32 × Int32 × Int32 × Int32 × (Nat → Int32) × (Nat → Int32) × (Nat → Int32) × (Nat → Int32) × (Nat → Int32) => [(a_0, .inr (12, [.int 0, .ref a_1, .ref a_2, .ref a_3, .ref a_4, .ref a_5, .int i_3, .int i_4, .int i_5, .int i_6, .int i_7, .long j_0, .int i_8, .int i_9, .int i_10, .int i_11, .ref a_6, .ref a_7, .ref a_8, .ref a_9, .ref a_10, .ref a_11, .ref a_12, .ref a_13, .ref a_14, .ref a_15, .ref a_16, .ref a_17, .ref a_18, .int u.1, .int u.2.1, .int u.2.2.1, .int u.2.2.2.1, .int u.2.2.2.2.1, .int u.2.2.2.2.2.1, .ref a_19, .int i_18, .ref a_20])), (a_1, .inl (cy 1, 4, .inl f_0)), (a_2, .inl (cy 1, 4, .inl f_1)), (a_3, .inl (cy 2, 240, .inr (.inl f_2))), (a_6, .inl (cy 1, 5, .inl (mm_g [i_19, i_20, i_21, i_22, i_23]))), (a_7, .inl (cy 1, 30, .inl (mm_g [i_24, i_25, i_26, i_27, i_28, i_29, i_30, i_31, i_32, i_33, i_34, i_35, i_36, i_37, i_38, i_39, i_40, i_41, i_42, i_43, i_44, i_45, i_46, i_47, i_48, i_49, i_50, i_51, i_52, i_53]))), (a_8, .inl (cy 1, 90, .inl f_3)), (a_9, .inl (cy 1, 15, .inl f_4)), (a_10, .inl (cy 1, 1050, .inl f_5)), (a_11, .inl (cy 1, 30, .inl f_6)), (a_12, .inl (cy 1, 240, .inl f_7)), (a_13, .inl (cy 1, 450, .inl f_8)), (a_15, .inl (cy 1, 7200, .inl u.2.2.2.2.2.2.1)), (a_16, .inl (cy 1, 3, .inl u.2.2.2.2.2.2.2.1)), (a_17, .inl (cy 1, 3, .inl u.2.2.2.2.2.2.2.2.1)), (a_18, .inl (cy 1, 8, .inl u.2.2.2.2.2.2.2.2.2.1)), (a_19, .inl (cy 3, 240, .inl u.2.2.2.2.2.2.2.2.2.2))]) (fun (r : Int32) (u : Int32 × Int32 × Int32 × Int32 × Int32 × Int32 × (Nat → Int32) × (Nat → Int32) × (Nat → Int32) × (Nat → Int32) × (Nat → Int32)) => mm_rg u.1 0 8 ∧ mm_ar u.2.2.2.2.2.2.1 0 9 ∧ mm_ar u.2.2.2.2.2.2.2.1 0 210 ∧ mm_ar u.2.2.2.2.2.2.2.2.1 0 210 ∧ mm_ar u.2.2.2.2.2.2.2.2.2.1 0 9 ∧ mm_ar u.2.2.2.2.2.2.2.2.2.2 0 1 ∧ True) 0 0 := by
  refine mm_begin (lv := [(0, .ref a_0), (1, .int i_0), (2, .int i_1)]) (by decide) (Nat.le_of_ble_eq_true rfl) rfl ?_
  intro p e s m below meth c A ls R args Q H locs hRe hQ hAe hx hb hr hlocks hml hown hnm hts hsz hA hS hP hK hD hZ hl
  have hRf : R.frames = 16 := by rw [hRe]
  have hRl : R.locals = 347 := by rw [hRe]
  have hRc : R.cells = 0 := by rw [hRe]
  have hRs : R.slots = 0 := by rw [hRe]
  refine lv_aload_n hx hb dX12_leaves_0 rfl (lv_at hl 0 rfl) ?_
  refine lv_iconst (v := 0) hx hb dX12_leaves_1 (by decide) ?_
  refine va_put (D := G) (ci := 12) (v := .int 0) (ty := tyX12 0) (C := RX12) (T := TX12) (N := 38) hx hb hts (mm_i inlX12) tyX12 tyX12_ok nmX12 hown hK.1 hP hD hS 0 rfl rfl 0 (by decide) (mm_h hts mm_w177) (fun _ h9 => h9) rfl (tyX12_ok 0 (by decide)) rfl rfl (Nat.le_of_ble_eq_true rfl) dX12_leaves_2 ?_
  clear hP hD hS
  clear H locs
  intro H locs (hP : va_P G vwCl [(a_0, .inr (12, [.int 0, .ref a_1, .ref a_2, .ref a_3, .ref a_4, .ref a_5, .int i_3, .int i_4, .int i_5, .int i_6, .int i_7, .long j_0, .int i_8, .int i_9, .int i_10, .int i_11, .ref a_6, .ref a_7, .ref a_8, .ref a_9, .ref a_10, .ref a_11, .ref a_12, .ref a_13, .ref a_14, .ref a_15, .ref a_16, .ref a_17, .ref a_18, .int i_12, .int i_13, .int i_14, .int i_15, .int i_16, .int i_17, .ref a_19, .int i_18, .ref a_20])), (a_1, .inl (cy 1, 4, .inl f_0)), (a_2, .inl (cy 1, 4, .inl f_1)), (a_3, .inl (cy 2, 240, .inr (.inl f_2))), (a_6, .inl (cy 1, 5, .inl (mm_g [i_19, i_20, i_21, i_22, i_23]))), (a_7, .inl (cy 1, 30, .inl (mm_g [i_24, i_25, i_26, i_27, i_28, i_29, i_30, i_31, i_32, i_33, i_34, i_35, i_36, i_37, i_38, i_39, i_40, i_41, i_42, i_43, i_44, i_45, i_46, i_47, i_48, i_49, i_50, i_51, i_52, i_53]))), (a_8, .inl (cy 1, 90, .inl f_3)), (a_9, .inl (cy 1, 15, .inl f_4)), (a_10, .inl (cy 1, 1050, .inl f_5)), (a_11, .inl (cy 1, 30, .inl f_6)), (a_12, .inl (cy 1, 240, .inl f_7)), (a_13, .inl (cy 1, 450, .inl f_8)), (a_15, .inl (cy 1, 7200, .inl f_9)), (a_16, .inl (cy 1, 3, .inl f_10)), (a_17, .inl (cy 1, 3, .inl f_11)), (a_18, .inl (cy 1, 8, .inl f_12)), (a_19, .inl (cy 3, 240, .inl f_13))] H) (hD : va_D A [(a_0, .inr (12, [.int 0, .ref a_1, .ref a_2, .ref a_3, .ref a_4, .ref a_5, .int i_3, .int i_4, .int i_5, .int i_6, .int i_7, .long j_0, .int i_8, .int i_9, .int i_10, .int i_11, .ref a_6, .ref a_7, .ref a_8, .ref a_9, .ref a_10, .ref a_11, .ref a_12, .ref a_13, .ref a_14, .ref a_15, .ref a_16, .ref a_17, .ref a_18, .int i_12, .int i_13, .int i_14, .int i_15, .int i_16, .int i_17, .ref a_19, .int i_18, .ref a_20])), (a_1, .inl (cy 1, 4, .inl f_0)), (a_2, .inl (cy 1, 4, .inl f_1)), (a_3, .inl (cy 2, 240, .inr (.inl f_2))), (a_6, .inl (cy 1, 5, .inl (mm_g [i_19, i_20, i_21, i_22, i_23]))), (a_7, .inl (cy 1, 30, .inl (mm_g [i_24, i_25, i_26, i_27, i_28, i_29, i_30, i_31, i_32, i_33, i_34, i_35, i_36, i_37, i_38, i_39, i_40, i_41, i_42, i_43, i_44, i_45, i_46, i_47, i_48, i_49, i_50, i_51, i_52, i_53]))), (a_8, .inl (cy 1, 90, .inl f_3)), (a_9, .inl (cy 1, 15, .inl f_4)), (a_10, .inl (cy 1, 1050, .inl f_5)), (a_11, .inl (cy 1, 30, .inl f_6)), (a_12, .inl (cy 1, 240, .inl f_7)), (a_13, .inl (cy 1, 450, .inl f_8)), (a_15, .inl (cy 1, 7200, .inl f_9)), (a_16, .inl (cy 1, 3, .inl f_10)), (a_17, .inl (cy 1, 3, .inl f_11)), (a_18, .inl (cy 1, 8, .inl f_12)), (a_19, .inl (cy 3, 240, .inl f_13))]) hS
  refine lv_aload_n hx hb dX12_leaves_5 rfl (lv_at hl 0 rfl) ?_
  refine lv_iload_n hx hb dX12_leaves_6 rfl (lv_at hl 1 rfl) ?_
  refine lv_aload_n hx hb dX12_leaves_7 rfl (lv_at hl 0 rfl) ?_
  refine lv_iload_n hx hb dX12_leaves_8 rfl (lv_at hl 2 rfl) ?_
  refine mm_finir (va_runV (As := [.int i_1]) (rest := [.int i_0, .ref a_0]) ⟨hx, hb, hml, hown, hts⟩ (M98_X12_isLand l G cy H.size a_0 i_1 0 a_1 a_2 a_3 a_4 a_5 i_3 i_4 i_5 i_6 i_7 j_0 i_8 i_9 i_10 i_11 a_6 a_7 a_8 a_9 a_10 a_11 a_12 a_13 a_14 a_15 a_16 a_17 a_18 i_12 i_13 i_14 i_15 i_16 i_17 a_19 i_18 a_20 i_24 i_25 i_26 i_27 i_28 i_29 i_30 i_31 i_32 i_33 i_34 i_35 i_36 i_37 i_38 i_39 i_40 i_41 i_42 i_43 i_44 i_45 i_46 i_47 i_48 i_49 i_50 i_51 i_52 i_53 h8 h9 h10 h11 h12 h13 h14 h15 h16 h17 h18 h19 h20 h21 h22 h23 h24 h25 h26 h27 h28 h29 h30 h31 h32 h33 h34 h35 h36 h37) (cwV 1 hts (mm_gV mm_w641 mm_w642 mm_w643 mm_w5 mm_w644) rfl rfl rfl hd_X12_isLand ⟨by rw [hRf]; exact Nat.le_of_ble_eq_true rfl, by rw [hRl]; exact Nat.le_of_ble_eq_true rfl⟩) (mm_preV hK hZ hS hA hP hD [0, 5] rfl rfl 0 rfl rfl rfl) rfl rfl hl.1 rfl (lv_room (Nat.le_of_ble_eq_true rfl)) dX12_leaves_9 ⟨by rw [hRc]; exact Nat.le_of_ble_eq_true rfl, by rw [hRs]; exact Nat.le_of_ble_eq_true rfl⟩) hP hD hS hA [0, 5] rfl (fun _ => rfl) ?_
  clear hP hD hS
  clear H locs
  intro v1 _u H locs hw hP hD hS
  rcases hw with rfl | ⟨rfl, w2, w3⟩
  · refine mm_finir (va_runV (As := [.int i_0, .int 0]) (rest := []) ⟨hx, hb, hml, hown, hts⟩ (M198_X12_whyNot l G cy H.size a_0 i_0 ) (cwV 2 hts (mm_gV mm_w1265 mm_w1266 mm_w1267 mm_w5 mm_w1268) rfl rfl rfl hd_X12_whyNot ⟨by rw [hRf]; exact Nat.le_of_ble_eq_true rfl, by rw [hRl]; exact Nat.le_of_ble_eq_true rfl⟩) (mm_preV hK hZ hS hA hP hD [] rfl rfl 0 rfl rfl rfl) rfl rfl hl.1 rfl (lv_room (Nat.le_of_ble_eq_true rfl)) dX12_leaves_12 ⟨by rw [hRc]; exact Nat.le_of_ble_eq_true rfl, by rw [hRs]; exact Nat.le_of_ble_eq_true rfl⟩) hP hD hS hA [] rfl (fun _ => rfl) ?_
    clear hP hD hS
    clear H locs
    intro v4 _u H locs hw hP hD hS
    subst hw
    refine lv_istore_n (lv' := [(3, .int (-2)), (0, .ref a_0), (1, .int i_0), (2, .int i_1)]) hx hb dX12_leaves_15 rfl hl (by decide) rfl ?_
    clear hl
    clear ls
    intro ls hl
    refine lv_iload_n hx hb dX12_leaves_16 rfl (lv_at hl 0 rfl) ?_
    refine lv_if_eq (tgt := 22) hx hb dX12_leaves_17 (by decide) (fun c5 => ?_) (fun c5 => ?_)
    · exact mm_eqN c5 mm_km2 mm_k0 (by decide)
    · refine lv_iload_n hx hb dX12_leaves_20 rfl (lv_at hl 0 rfl) ?_
      subst hAe
      rw [hQ]
      exact W.iret (v := (-2)) hx hb hr (fun t ht hW => ⟨⟨(-2), (i_12, i_13, i_14, i_15, i_16, i_17, f_9, f_10, f_11, f_12, f_13), rfl, ⟨h0, h44, h45, h46, h47, h48, trivial⟩, by rw [ht]; exact hP, hK.warm hW, hD⟩, hS.F ht⟩) hS.2.2 dX12_leaves_21
  · have q6 := mm_ltR (lo := 1) w3 w2 h11 (by decide)
    have q7 : mm_rg i_19 1 601 := mm_tl_3 h52 q6 h3 (by decide)
    refine mm_finir (va_runV (As := [.int i_0, .int 1]) (rest := []) ⟨hx, hb, hml, hown, hts⟩ (M200_X12_whyNot l G cy H.size a_0 i_0 0 a_1 a_2 a_3 a_4 a_5 i_3 i_4 i_5 i_6 i_7 j_0 i_8 i_9 i_10 i_11 a_6 a_7 a_8 a_9 a_10 a_11 a_12 a_13 a_14 a_15 a_16 a_17 a_18 i_12 i_13 i_14 i_15 i_16 i_17 a_19 i_18 a_20 f_0 f_1 f_2 i_24 i_25 i_26 i_27 i_28 i_29 i_30 i_31 i_32 i_33 i_34 i_35 i_36 i_37 i_38 i_39 i_40 i_41 i_42 i_43 i_44 i_45 i_46 i_47 i_48 i_49 i_50 i_51 i_52 i_53 h1 h2 h8 h9 h10 (mm_wk q6 (by decide)) h12 h13 h14 h15 h16 h17 h18 h19 h20 h21 h22 h23 h24 h25 h26 h27 h28 h29 h30 h31 h32 h33 h34 h35 h36 h37) (cwV 2 hts (mm_gV mm_w1265 mm_w1266 mm_w1267 mm_w5 mm_w1268) rfl rfl rfl hd_X12_whyNot ⟨by rw [hRf]; exact Nat.le_of_ble_eq_true rfl, by rw [hRl]; exact Nat.le_of_ble_eq_true rfl⟩) (mm_preV hK hZ hS hA hP hD [0, 1, 2, 3, 5] rfl rfl 0 rfl rfl rfl) rfl rfl hl.1 rfl (lv_room (Nat.le_of_ble_eq_true rfl)) dX12_leaves_12 ⟨by rw [hRc]; exact Nat.le_of_ble_eq_true rfl, by rw [hRs]; exact Nat.le_of_ble_eq_true rfl⟩) hP hD hS hA [0, 1, 2, 3, 5] rfl (fun _ => rfl) ?_
    clear hP hD hS
    clear H locs
    intro v8 _u H locs hw hP hD hS
    rcases hw with rfl | ⟨rfl, w9⟩ | ⟨rfl, w10, w11⟩
    · refine lv_istore_n (lv' := [(3, .int (-2)), (0, .ref a_0), (1, .int i_0), (2, .int i_1)]) hx hb dX12_leaves_15 rfl hl (by decide) rfl ?_
      clear hl
      clear ls
      intro ls hl
      refine lv_iload_n hx hb dX12_leaves_16 rfl (lv_at hl 0 rfl) ?_
      refine lv_if_eq (tgt := 22) hx hb dX12_leaves_17 (by decide) (fun c12 => ?_) (fun c12 => ?_)
      · exact mm_eqN c12 mm_km2 mm_k0 (by decide)
      · refine lv_iload_n hx hb dX12_leaves_20 rfl (lv_at hl 0 rfl) ?_
        subst hAe
        rw [hQ]
        exact W.iret (v := (-2)) hx hb hr (fun t ht hW => ⟨⟨(-2), (i_12, i_13, i_14, i_15, i_16, i_17, f_9, f_10, f_11, f_12, f_13), rfl, ⟨h0, h44, h45, h46, h47, h48, trivial⟩, by rw [ht]; exact hP, hK.warm hW, hD⟩, hS.F ht⟩) hS.2.2 dX12_leaves_21
    · refine lv_istore_n (lv' := [(3, .int (-6)), (0, .ref a_0), (1, .int i_0), (2, .int i_1)]) hx hb dX12_leaves_15 rfl hl (by decide) rfl ?_
      clear hl
      clear ls
      intro ls hl
      refine lv_iload_n hx hb dX12_leaves_16 rfl (lv_at hl 0 rfl) ?_
      refine lv_if_eq (tgt := 22) hx hb dX12_leaves_17 (by decide) (fun c13 => ?_) (fun c13 => ?_)
      · exact mm_eqN c13 mm_km6 mm_k0 (by decide)
      · refine lv_iload_n hx hb dX12_leaves_20 rfl (lv_at hl 0 rfl) ?_
        subst hAe
        rw [hQ]
        exact W.iret (v := (-6)) hx hb hr (fun t ht hW => ⟨⟨(-6), (i_12, i_13, i_14, i_15, i_16, i_17, f_9, f_10, f_11, f_12, f_13), rfl, ⟨h0, h44, h45, h46, h47, h48, trivial⟩, by rw [ht]; exact hP, hK.warm hW, hD⟩, hS.F ht⟩) hS.2.2 dX12_leaves_21
    · refine lv_istore_n (lv' := [(3, .int 0), (0, .ref a_0), (1, .int i_0), (2, .int i_1)]) hx hb dX12_leaves_15 rfl hl (by decide) rfl ?_
      clear hl
      clear ls
      intro ls hl
      refine lv_iload_n hx hb dX12_leaves_16 rfl (lv_at hl 0 rfl) ?_
      refine lv_if_eq (tgt := 22) hx hb dX12_leaves_17 (by decide) (fun c14 => ?_) (fun c14 => ?_)
      · refine lv_aload_n hx hb dX12_leaves_22 rfl (lv_at hl 1 rfl) ?_
        refine lv_iload_n hx hb dX12_leaves_23 rfl (lv_at hl 2 rfl) ?_
        refine lv_iload_n hx hb dX12_leaves_24 rfl (lv_at hl 3 rfl) ?_
        refine mm_finv (va_runV (As := [.int i_0, .int i_1]) (rest := []) ⟨hx, hb, hml, hown, hts⟩ (M206_X12_laysAsk l G cy H.size a_0 i_0 i_1 0 a_1 a_2 a_3 a_4 a_5 i_3 i_4 i_5 i_6 i_7 j_0 i_8 i_9 i_10 i_11 a_6 a_7 a_8 a_9 a_10 a_11 a_12 a_13 a_14 a_15 a_16 a_17 a_18 i_12 i_13 i_14 i_15 i_16 i_17 a_19 i_18 a_20 f_1 f_2 i_19 i_20 i_21 i_22 i_23 i_24 i_25 i_26 i_27 i_28 i_29 i_30 i_31 i_32 i_33 i_34 i_35 i_36 i_37 i_38 i_39 i_40 i_41 i_42 i_43 i_44 i_45 i_46 i_47 i_48 i_49 i_50 i_51 i_52 i_53 f_3 f_4 f_5 f_6 f_7 f_8 f_9 f_10 f_11 f_12 f_13 w10 w2 h0 h2 (mm_wk q7 (by decide)) h4 h5 h6 h7 h8 h9 h10 (mm_wk q6 (by decide)) h12 h13 h14 h15 h16 h17 h18 h19 h20 h21 h22 h23 h24 h25 h26 h27 h28 h29 h30 h31 h32 h33 h34 h35 h36 h37 h38 h39 h40 h41 h42 h43 h44 h45 h46 h47 h48 h49 h50 h51 h52 h53 h54 h55 h56 h57 h58 h59 h60 h61 h62 h63 h64 w3 w11) (cwV 2 hts (mm_gV mm_w1317 mm_w1318 mm_w1319 mm_w5 mm_w1320) rfl rfl rfl hd_X12_laysAsk ⟨by rw [hRf]; exact Nat.le_of_ble_eq_true rfl, by rw [hRl]; exact Nat.le_of_ble_eq_true rfl⟩) (mm_preV hK hZ hS hA hP hD [0, 2, 3, 4, 5, 6, 7, 8, 9, 10, 11, 12, 13, 14, 15, 16] rfl rfl 0 rfl rfl rfl) rfl rfl hl.1 rfl (lv_room (Nat.le_of_ble_eq_true rfl)) dX12_leaves_25 ⟨by rw [hRc]; exact Nat.le_of_ble_eq_true rfl, by rw [hRs]; exact Nat.le_of_ble_eq_true rfl⟩) hP hD hS hA (fun u : Int32 × Int32 × Int32 × Int32 × Int32 × Int32 × (Nat → Int32) × (Nat → Int32) × (Nat → Int32) × (Nat → Int32) × (Nat → Int32) => [(a_0, .inr (12, [.int 0, .ref a_1, .ref a_2, .ref a_3, .ref a_4, .ref a_5, .int i_3, .int i_4, .int i_5, .int i_6, .int i_7, .long j_0, .int i_8, .int i_9, .int i_10, .int i_11, .ref a_6, .ref a_7, .ref a_8, .ref a_9, .ref a_10, .ref a_11, .ref a_12, .ref a_13, .ref a_14, .ref a_15, .ref a_16, .ref a_17, .ref a_18, .int u.1, .int u.2.1, .int u.2.2.1, .int u.2.2.2.1, .int u.2.2.2.2.1, .int u.2.2.2.2.2.1, .ref a_19, .int i_18, .ref a_20])), (a_1, .inl (cy 1, 4, .inl f_0)), (a_2, .inl (cy 1, 4, .inl f_1)), (a_3, .inl (cy 2, 240, .inr (.inl f_2))), (a_6, .inl (cy 1, 5, .inl (mm_g [i_19, i_20, i_21, i_22, i_23]))), (a_7, .inl (cy 1, 30, .inl (mm_g [i_24, i_25, i_26, i_27, i_28, i_29, i_30, i_31, i_32, i_33, i_34, i_35, i_36, i_37, i_38, i_39, i_40, i_41, i_42, i_43, i_44, i_45, i_46, i_47, i_48, i_49, i_50, i_51, i_52, i_53]))), (a_8, .inl (cy 1, 90, .inl f_3)), (a_9, .inl (cy 1, 15, .inl f_4)), (a_10, .inl (cy 1, 1050, .inl f_5)), (a_11, .inl (cy 1, 30, .inl f_6)), (a_12, .inl (cy 1, 240, .inl f_7)), (a_13, .inl (cy 1, 450, .inl f_8)), (a_15, .inl (cy 1, 7200, .inl u.2.2.2.2.2.2.1)), (a_16, .inl (cy 1, 3, .inl u.2.2.2.2.2.2.2.1)), (a_17, .inl (cy 1, 3, .inl u.2.2.2.2.2.2.2.2.1)), (a_18, .inl (cy 1, 8, .inl u.2.2.2.2.2.2.2.2.2.1)), (a_19, .inl (cy 3, 240, .inl u.2.2.2.2.2.2.2.2.2.2))]) [0, 2, 3, 4, 5, 6, 7, 8, 9, 10, 11, 12, 13, 14, 15, 16] [1] (n := 17) (fun _ => rfl) (by decide +kernel) (by decide +kernel) rfl (fun _ => rfl) (wr := [(a_1, .inl (cy 1, 4, .inl f_0))]) rfl (fun _ => rfl) (fun _ => @rfl _ ([a_0, a_2, a_3, a_6, a_7, a_8, a_9, a_10, a_11, a_12, a_13, a_15, a_16, a_17, a_18, a_19] : List Nat)) ?_
        clear hP hD hS
        clear H locs
        intro u
        obtain ⟨n15, n16, n17, n18, n19, n20, n21, n22, n23, n24, n25⟩ := u
        intro H locs hw (hP : va_P G vwCl [(a_0, .inr (12, [.int 0, .ref a_1, .ref a_2, .ref a_3, .ref a_4, .ref a_5, .int i_3, .int i_4, .int i_5, .int i_6, .int i_7, .long j_0, .int i_8, .int i_9, .int i_10, .int i_11, .ref a_6, .ref a_7, .ref a_8, .ref a_9, .ref a_10, .ref a_11, .ref a_12, .ref a_13, .ref a_14, .ref a_15, .ref a_16, .ref a_17, .ref a_18, .int n15, .int n16, .int n17, .int n18, .int n19, .int n20, .ref a_19, .int i_18, .ref a_20])), (a_1, .inl (cy 1, 4, .inl f_0)), (a_2, .inl (cy 1, 4, .inl f_1)), (a_3, .inl (cy 2, 240, .inr (.inl f_2))), (a_6, .inl (cy 1, 5, .inl (mm_g [i_19, i_20, i_21, i_22, i_23]))), (a_7, .inl (cy 1, 30, .inl (mm_g [i_24, i_25, i_26, i_27, i_28, i_29, i_30, i_31, i_32, i_33, i_34, i_35, i_36, i_37, i_38, i_39, i_40, i_41, i_42, i_43, i_44, i_45, i_46, i_47, i_48, i_49, i_50, i_51, i_52, i_53]))), (a_8, .inl (cy 1, 90, .inl f_3)), (a_9, .inl (cy 1, 15, .inl f_4)), (a_10, .inl (cy 1, 1050, .inl f_5)), (a_11, .inl (cy 1, 30, .inl f_6)), (a_12, .inl (cy 1, 240, .inl f_7)), (a_13, .inl (cy 1, 450, .inl f_8)), (a_15, .inl (cy 1, 7200, .inl n21)), (a_16, .inl (cy 1, 3, .inl n22)), (a_17, .inl (cy 1, 3, .inl n23)), (a_18, .inl (cy 1, 8, .inl n24)), (a_19, .inl (cy 3, 240, .inl n25))] H) (hD : va_D A [(a_0, .inr (12, [.int 0, .ref a_1, .ref a_2, .ref a_3, .ref a_4, .ref a_5, .int i_3, .int i_4, .int i_5, .int i_6, .int i_7, .long j_0, .int i_8, .int i_9, .int i_10, .int i_11, .ref a_6, .ref a_7, .ref a_8, .ref a_9, .ref a_10, .ref a_11, .ref a_12, .ref a_13, .ref a_14, .ref a_15, .ref a_16, .ref a_17, .ref a_18, .int n15, .int n16, .int n17, .int n18, .int n19, .int n20, .ref a_19, .int i_18, .ref a_20])), (a_1, .inl (cy 1, 4, .inl f_0)), (a_2, .inl (cy 1, 4, .inl f_1)), (a_3, .inl (cy 2, 240, .inr (.inl f_2))), (a_6, .inl (cy 1, 5, .inl (mm_g [i_19, i_20, i_21, i_22, i_23]))), (a_7, .inl (cy 1, 30, .inl (mm_g [i_24, i_25, i_26, i_27, i_28, i_29, i_30, i_31, i_32, i_33, i_34, i_35, i_36, i_37, i_38, i_39, i_40, i_41, i_42, i_43, i_44, i_45, i_46, i_47, i_48, i_49, i_50, i_51, i_52, i_53]))), (a_8, .inl (cy 1, 90, .inl f_3)), (a_9, .inl (cy 1, 15, .inl f_4)), (a_10, .inl (cy 1, 1050, .inl f_5)), (a_11, .inl (cy 1, 30, .inl f_6)), (a_12, .inl (cy 1, 240, .inl f_7)), (a_13, .inl (cy 1, 450, .inl f_8)), (a_15, .inl (cy 1, 7200, .inl n21)), (a_16, .inl (cy 1, 3, .inl n22)), (a_17, .inl (cy 1, 3, .inl n23)), (a_18, .inl (cy 1, 8, .inl n24)), (a_19, .inl (cy 3, 240, .inl n25))]) hS
        obtain ⟨w26, w27, w28, w29, w30, w31, w32⟩ := hw
        refine lv_aload_n hx hb dX12_leaves_28 rfl (lv_at hl 1 rfl) ?_
        refine va_get (D := G) (ci := 12) (v := .int n20) (C := RX12) (T := TX12) (N := 38) hx hb hts (mm_i inlX12) hown hK.1 hP 0 rfl rfl 34 (by decide) (mm_h hts mm_w1321) (fun _ h9 => h9) rfl dX12_leaves_29 ?_
        subst hAe
        rw [hQ]
        exact W.iret (v := n20) hx hb hr (fun t ht hW => ⟨⟨n20, (n15, n16, n17, n18, n19, n20, n21, n22, n23, n24, n25), rfl, ⟨w26, w28, w29, w30, w31, w32, trivial⟩, by rw [ht]; exact hP, hK.warm hW, hD⟩, hS.F ht⟩) hS.2.2 dX12_leaves_32
      · exact absurd rfl (mm_ne c14)

