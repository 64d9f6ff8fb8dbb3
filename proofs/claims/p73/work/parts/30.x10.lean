theorem dX11_back_0 : decode cX11_back 0 = .ok (.iload_n 1, 1) := by decide +kernel
theorem dX11_back_1 : decode cX11_back 1 = .ok (.ifCond .lt 8, 3) := by decide +kernel
theorem dX11_back_4 : decode cX11_back 4 = .ok (.iload_n 1, 1) := by decide +kernel
theorem dX11_back_5 : decode cX11_back 5 = .ok (.iconst 3, 1) := by decide +kernel
theorem dX11_back_6 : decode cX11_back 6 = .ok (.if_icmp .lt 6, 3) := by decide +kernel
theorem dX11_back_9 : decode cX11_back 9 = .ok (.bipush (-2), 2) := by decide +kernel
theorem dX11_back_11 : decode cX11_back 11 = .ok (.ireturn, 1) := by decide +kernel
theorem dX11_back_12 : decode cX11_back 12 = .ok (.aload_n 0, 1) := by decide +kernel
theorem dX11_back_13 : decode cX11_back 13 = .ok (.getfield 39, 3) := by decide +kernel
theorem dX11_back_16 : decode cX11_back 16 = .ok (.iload_n 1, 1) := by decide +kernel
theorem dX11_back_17 : decode cX11_back 17 = .ok (.baload, 1) := by decide +kernel
theorem dX11_back_18 : decode cX11_back 18 = .ok (.ifCond .ne 6, 3) := by decide +kernel
theorem dX11_back_21 : decode cX11_back 21 = .ok (.bipush (-6), 2) := by decide +kernel
theorem dX11_back_23 : decode cX11_back 23 = .ok (.ireturn, 1) := by decide +kernel
theorem dX11_back_24 : decode cX11_back 24 = .ok (.aload_n 0, 1) := by decide +kernel
theorem dX11_back_25 : decode cX11_back 25 = .ok (.getfield 28, 3) := by decide +kernel
theorem dX11_back_28 : decode cX11_back 28 = .ok (.aload_n 0, 1) := by decide +kernel
theorem dX11_back_29 : decode cX11_back 29 = .ok (.getfield 34, 3) := by decide +kernel
theorem dX11_back_32 : decode cX11_back 32 = .ok (.iload_n 1, 1) := by decide +kernel
theorem dX11_back_33 : decode cX11_back 33 = .ok (.aaload, 1) := by decide +kernel
theorem dX11_back_34 : decode cX11_back 34 = .ok (.invokevirtual 105, 3) := by decide +kernel
theorem dX11_back_37 : decode cX11_back 37 = .ok (.iconst 0, 1) := by decide +kernel
theorem dX11_back_38 : decode cX11_back 38 = .ok (.ireturn, 1) := by decide +kernel
theorem dX11_paste_0 : decode cX11_paste 0 = .ok (.iload_n 1, 1) := by decide +kernel
theorem dX11_paste_1 : decode cX11_paste 1 = .ok (.invokestatic 302, 3) := by decide +kernel
theorem dX11_paste_4 : decode cX11_paste 4 = .ok (.ifCond .eq 10, 3) := by decide +kernel
theorem dX11_paste_7 : decode cX11_paste 7 = .ok (.iload_n 3, 1) := by decide +kernel
theorem dX11_paste_8 : decode cX11_paste 8 = .ok (.invokestatic 302, 3) := by decide +kernel
theorem dX11_paste_11 : decode cX11_paste 11 = .ok (.ifCond .ne 6, 3) := by decide +kernel
theorem dX11_paste_14 : decode cX11_paste 14 = .ok (.bipush (-2), 2) := by decide +kernel
theorem dX11_paste_16 : decode cX11_paste 16 = .ok (.ireturn, 1) := by decide +kernel
theorem dX11_paste_17 : decode cX11_paste 17 = .ok (.aload_n 0, 1) := by decide +kernel
theorem dX11_paste_18 : decode cX11_paste 18 = .ok (.getfield 45, 3) := by decide +kernel
theorem dX11_paste_21 : decode cX11_paste 21 = .ok (.iload_n 1, 1) := by decide +kernel
theorem dX11_paste_22 : decode cX11_paste 22 = .ok (.aaload, 1) := by decide +kernel
theorem dX11_paste_23 : decode cX11_paste 23 = .ok (.getfield 395, 3) := by decide +kernel
theorem dX11_paste_26 : decode cX11_paste 26 = .ok (.ifCond .eq 15, 3) := by decide +kernel
theorem dX11_paste_29 : decode cX11_paste 29 = .ok (.aload_n 0, 1) := by decide +kernel
theorem dX11_paste_30 : decode cX11_paste 30 = .ok (.getfield 45, 3) := by decide +kernel
theorem dX11_paste_33 : decode cX11_paste 33 = .ok (.iload_n 3, 1) := by decide +kernel
theorem dX11_paste_34 : decode cX11_paste 34 = .ok (.aaload, 1) := by decide +kernel
theorem dX11_paste_35 : decode cX11_paste 35 = .ok (.getfield 395, 3) := by decide +kernel
theorem dX11_paste_38 : decode cX11_paste 38 = .ok (.ifCond .ne 6, 3) := by decide +kernel
theorem dX11_paste_41 : decode cX11_paste 41 = .ok (.bipush (-6), 2) := by decide +kernel
theorem dX11_paste_43 : decode cX11_paste 43 = .ok (.ireturn, 1) := by decide +kernel
theorem dX11_paste_44 : decode cX11_paste 44 = .ok (.aload_n 0, 1) := by decide +kernel
theorem dX11_paste_45 : decode cX11_paste 45 = .ok (.getfield 45, 3) := by decide +kernel
theorem dX11_paste_48 : decode cX11_paste 48 = .ok (.iload_n 1, 1) := by decide +kernel
theorem dX11_paste_49 : decode cX11_paste 49 = .ok (.aaload, 1) := by decide +kernel
theorem dX11_paste_50 : decode cX11_paste 50 = .ok (.getfield 404, 3) := by decide +kernel
theorem dX11_paste_53 : decode cX11_paste 53 = .ok (.aload_n 0, 1) := by decide +kernel
theorem dX11_paste_54 : decode cX11_paste 54 = .ok (.getfield 45, 3) := by decide +kernel
theorem dX11_paste_57 : decode cX11_paste 57 = .ok (.iload_n 3, 1) := by decide +kernel
theorem dX11_paste_58 : decode cX11_paste 58 = .ok (.aaload, 1) := by decide +kernel
theorem dX11_paste_59 : decode cX11_paste 59 = .ok (.getfield 404, 3) := by decide +kernel
theorem dX11_paste_62 : decode cX11_paste 62 = .ok (.if_icmp .eq 6, 3) := by decide +kernel
theorem dX11_paste_65 : decode cX11_paste 65 = .ok (.bipush (-8), 2) := by decide +kernel
theorem dX11_paste_67 : decode cX11_paste 67 = .ok (.ireturn, 1) := by decide +kernel
theorem dX11_paste_68 : decode cX11_paste 68 = .ok (.aload_n 0, 1) := by decide +kernel
theorem dX11_paste_69 : decode cX11_paste 69 = .ok (.getfield 45, 3) := by decide +kernel
theorem dX11_paste_72 : decode cX11_paste 72 = .ok (.iload_n 1, 1) := by decide +kernel
theorem dX11_paste_73 : decode cX11_paste 73 = .ok (.aaload, 1) := by decide +kernel
theorem dX11_paste_74 : decode cX11_paste 74 = .ok (.iload_n 2, 1) := by decide +kernel
theorem dX11_paste_75 : decode cX11_paste 75 = .ok (.iload 5, 2) := by decide +kernel
theorem dX11_paste_77 : decode cX11_paste 77 = .ok (.invokevirtual 407, 3) := by decide +kernel
theorem dX11_paste_80 : decode cX11_paste 80 = .ok (.ifCond .eq 19, 3) := by decide +kernel
theorem dX11_paste_83 : decode cX11_paste 83 = .ok (.aload_n 0, 1) := by decide +kernel
theorem dX11_paste_84 : decode cX11_paste 84 = .ok (.getfield 45, 3) := by decide +kernel
theorem dX11_paste_87 : decode cX11_paste 87 = .ok (.iload_n 3, 1) := by decide +kernel
theorem dX11_paste_88 : decode cX11_paste 88 = .ok (.aaload, 1) := by decide +kernel
theorem dX11_paste_89 : decode cX11_paste 89 = .ok (.iload 4, 2) := by decide +kernel
theorem dX11_paste_91 : decode cX11_paste 91 = .ok (.iload 5, 2) := by decide +kernel
theorem dX11_paste_93 : decode cX11_paste 93 = .ok (.invokevirtual 407, 3) := by decide +kernel
theorem dX11_paste_96 : decode cX11_paste 96 = .ok (.ifCond .ne 6, 3) := by decide +kernel
theorem dX11_paste_99 : decode cX11_paste 99 = .ok (.bipush (-7), 2) := by decide +kernel
theorem dX11_paste_101 : decode cX11_paste 101 = .ok (.ireturn, 1) := by decide +kernel
theorem dX11_paste_102 : decode cX11_paste 102 = .ok (.aload_n 0, 1) := by decide +kernel
theorem dX11_paste_103 : decode cX11_paste 103 = .ok (.getfield 45, 3) := by decide +kernel
theorem dX11_paste_106 : decode cX11_paste 106 = .ok (.iload_n 1, 1) := by decide +kernel
theorem dX11_paste_107 : decode cX11_paste 107 = .ok (.aaload, 1) := by decide +kernel
theorem dX11_paste_108 : decode cX11_paste 108 = .ok (.getfield 410, 3) := by decide +kernel
theorem dX11_paste_111 : decode cX11_paste 111 = .ok (.iload_n 2, 1) := by decide +kernel
theorem dX11_paste_112 : decode cX11_paste 112 = .ok (.aload_n 0, 1) := by decide +kernel
theorem dX11_paste_113 : decode cX11_paste 113 = .ok (.getfield 45, 3) := by decide +kernel
theorem dX11_paste_116 : decode cX11_paste 116 = .ok (.iload_n 3, 1) := by decide +kernel
theorem dX11_paste_117 : decode cX11_paste 117 = .ok (.aaload, 1) := by decide +kernel
theorem dX11_paste_118 : decode cX11_paste 118 = .ok (.getfield 410, 3) := by decide +kernel
theorem dX11_paste_121 : decode cX11_paste 121 = .ok (.iload 4, 2) := by decide +kernel
theorem dX11_paste_123 : decode cX11_paste 123 = .ok (.iload 5, 2) := by decide +kernel
theorem dX11_paste_125 : decode cX11_paste 125 = .ok (.invokestatic 413, 3) := by decide +kernel
theorem dX11_paste_128 : decode cX11_paste 128 = .ok (.iconst 0, 1) := by decide +kernel
theorem dX11_paste_129 : decode cX11_paste 129 = .ok (.ireturn, 1) := by decide +kernel
theorem dX11_row_0 : decode cX11_row 0 = .ok (.iload_n 1, 1) := by decide +kernel
theorem dX11_row_1 : decode cX11_row 1 = .ok (.invokestatic 302, 3) := by decide +kernel
theorem dX11_row_4 : decode cX11_row 4 = .ok (.ifCond .eq 18, 3) := by decide +kernel
theorem dX11_row_7 : decode cX11_row 7 = .ok (.iload_n 2, 1) := by decide +kernel
theorem dX11_row_8 : decode cX11_row 8 = .ok (.ifCond .lt 14, 3) := by decide +kernel
theorem dX11_row_11 : decode cX11_row 11 = .ok (.iload_n 2, 1) := by decide +kernel
theorem dX11_row_12 : decode cX11_row 12 = .ok (.iconst 3, 1) := by decide +kernel
theorem dX11_row_13 : decode cX11_row 13 = .ok (.if_icmp .gt 9, 3) := by decide +kernel
theorem dX11_row_16 : decode cX11_row 16 = .ok (.iload_n 3, 1) := by decide +kernel
theorem dX11_row_17 : decode cX11_row 17 = .ok (.bipush 60, 2) := by decide +kernel
theorem dX11_row_19 : decode cX11_row 19 = .ok (.if_icmp .le 6, 3) := by decide +kernel
theorem dX11_row_22 : decode cX11_row 22 = .ok (.bipush (-2), 2) := by decide +kernel
theorem dX11_row_24 : decode cX11_row 24 = .ok (.ireturn, 1) := by decide +kernel
theorem dX11_row_25 : decode cX11_row 25 = .ok (.iload_n 3, 1) := by decide +kernel
theorem dX11_row_26 : decode cX11_row 26 = .ok (.ifCond .ge 6, 3) := by decide +kernel
theorem dX11_row_29 : decode cX11_row 29 = .ok (.bipush (-3), 2) := by decide +kernel
theorem dX11_row_31 : decode cX11_row 31 = .ok (.ireturn, 1) := by decide +kernel
theorem dX11_row_32 : decode cX11_row 32 = .ok (.aload_n 0, 1) := by decide +kernel
theorem dX11_row_33 : decode cX11_row 33 = .ok (.getfield 45, 3) := by decide +kernel
theorem dX11_row_36 : decode cX11_row 36 = .ok (.iload_n 1, 1) := by decide +kernel
theorem dX11_row_37 : decode cX11_row 37 = .ok (.aaload, 1) := by decide +kernel
theorem dX11_row_38 : decode cX11_row 38 = .ok (.iload_n 2, 1) := by decide +kernel
theorem dX11_row_39 : decode cX11_row 39 = .ok (.iload_n 3, 1) := by decide +kernel
theorem dX11_row_40 : decode cX11_row 40 = .ok (.invokevirtual 391, 3) := by decide +kernel
theorem dX11_row_43 : decode cX11_row 43 = .ok (.iconst 0, 1) := by decide +kernel
theorem dX11_row_44 : decode cX11_row 44 = .ok (.ireturn, 1) := by decide +kernel
theorem dX11_write_0 : decode cX11_write 0 = .ok (.iload_n 1, 1) := by decide +kernel
theorem dX11_write_1 : decode cX11_write 1 = .ok (.invokestatic 302, 3) := by decide +kernel
theorem dX11_write_4 : decode cX11_write 4 = .ok (.ifCond .ne 6, 3) := by decide +kernel
theorem dX11_write_7 : decode cX11_write 7 = .ok (.bipush (-2), 2) := by decide +kernel
theorem dX11_write_9 : decode cX11_write 9 = .ok (.ireturn, 1) := by decide +kernel
theorem dX11_write_10 : decode cX11_write 10 = .ok (.aload_n 0, 1) := by decide +kernel
theorem dX11_write_11 : decode cX11_write 11 = .ok (.getfield 45, 3) := by decide +kernel
theorem dX11_write_14 : decode cX11_write 14 = .ok (.iload_n 1, 1) := by decide +kernel
theorem dX11_write_15 : decode cX11_write 15 = .ok (.aaload, 1) := by decide +kernel
theorem dX11_write_16 : decode cX11_write 16 = .ok (.getfield 395, 3) := by decide +kernel
theorem dX11_write_19 : decode cX11_write 19 = .ok (.ifCond .ne 6, 3) := by decide +kernel
theorem dX11_write_22 : decode cX11_write 22 = .ok (.bipush (-6), 2) := by decide +kernel
theorem dX11_write_24 : decode cX11_write 24 = .ok (.ireturn, 1) := by decide +kernel
theorem dX11_write_25 : decode cX11_write 25 = .ok (.iload_n 2, 1) := by decide +kernel
theorem dX11_write_26 : decode cX11_write 26 = .ok (.ifCond .lt 16, 3) := by decide +kernel
theorem dX11_write_29 : decode cX11_write 29 = .ok (.iload_n 2, 1) := by decide +kernel
theorem dX11_write_30 : decode cX11_write 30 = .ok (.aload_n 0, 1) := by decide +kernel
theorem dX11_write_31 : decode cX11_write 31 = .ok (.getfield 45, 3) := by decide +kernel
theorem dX11_write_34 : decode cX11_write 34 = .ok (.iload_n 1, 1) := by decide +kernel
theorem dX11_write_35 : decode cX11_write 35 = .ok (.aaload, 1) := by decide +kernel
theorem dX11_write_36 : decode cX11_write 36 = .ok (.getfield 399, 3) := by decide +kernel
theorem dX11_write_39 : decode cX11_write 39 = .ok (.if_icmp .lt 6, 3) := by decide +kernel
theorem dX11_write_42 : decode cX11_write 42 = .ok (.bipush (-7), 2) := by decide +kernel
theorem dX11_write_44 : decode cX11_write 44 = .ok (.ireturn, 1) := by decide +kernel
theorem dX11_write_45 : decode cX11_write 45 = .ok (.aload_n 0, 1) := by decide +kernel
theorem dX11_write_46 : decode cX11_write 46 = .ok (.getfield 45, 3) := by decide +kernel
theorem dX11_write_49 : decode cX11_write 49 = .ok (.iload_n 1, 1) := by decide +kernel
theorem dX11_write_50 : decode cX11_write 50 = .ok (.aaload, 1) := by decide +kernel
theorem dX11_write_51 : decode cX11_write 51 = .ok (.iload_n 2, 1) := by decide +kernel
theorem dX11_write_52 : decode cX11_write 52 = .ok (.lload_n 3, 1) := by decide +kernel
theorem dX11_write_53 : decode cX11_write 53 = .ok (.invokevirtual 400, 3) := by decide +kernel
theorem dX11_write_56 : decode cX11_write 56 = .ok (.iconst 0, 1) := by decide +kernel
theorem dX11_write_57 : decode cX11_write 57 = .ok (.ireturn, 1) := by decide +kernel
theorem dX6_begin_0 : decode cX6_begin 0 = .ok (.aload_n 0, 1) := by decide +kernel
theorem dX6_begin_1 : decode cX6_begin 1 = .ok (.iconst 1, 1) := by decide +kernel
theorem dX6_begin_2 : decode cX6_begin 2 = .ok (.putfield 15, 3) := by decide +kernel
theorem dX6_begin_5 : decode cX6_begin 5 = .ok (.aload_n 0, 1) := by decide +kernel
theorem dX6_begin_6 : decode cX6_begin 6 = .ok (.iload_n 1, 1) := by decide +kernel
theorem dX6_begin_7 : decode cX6_begin 7 = .ok (.putfield 19, 3) := by decide +kernel
theorem dX6_begin_10 : decode cX6_begin 10 = .ok (.aload_n 0, 1) := by decide +kernel
theorem dX6_begin_11 : decode cX6_begin 11 = .ok (.iload_n 2, 1) := by decide +kernel
theorem dX6_begin_12 : decode cX6_begin 12 = .ok (.bipush 60, 2) := by decide +kernel
theorem dX6_begin_14 : decode cX6_begin 14 = .ok (.invokestatic 23, 3) := by decide +kernel
theorem dX6_begin_17 : decode cX6_begin 17 = .ok (.putfield 29, 3) := by decide +kernel
theorem dX6_begin_20 : decode cX6_begin 20 = .ok (.aload_n 0, 1) := by decide +kernel
theorem dX6_begin_21 : decode cX6_begin 21 = .ok (.getfield 9, 3) := by decide +kernel
theorem dX6_begin_24 : decode cX6_begin 24 = .ok (.lconst 0, 1) := by decide +kernel
theorem dX6_begin_25 : decode cX6_begin 25 = .ok (.invokestatic 32, 3) := by decide +kernel
theorem dX6_begin_28 : decode cX6_begin 28 = .ok (.return_, 1) := by decide +kernel
theorem dX6_put_0 : decode cX6_put 0 = .ok (.aload_n 0, 1) := by decide +kernel
theorem dX6_put_1 : decode cX6_put 1 = .ok (.getfield 19, 3) := by decide +kernel
theorem dX6_put_4 : decode cX6_put 4 = .ok (.tableswitch 66 0 2 #[28, 41, 54], 28) := by decide +kernel
theorem dX6_put_32 : decode cX6_put 32 = .ok (.aload_n 0, 1) := by decide +kernel
theorem dX6_put_33 : decode cX6_put 33 = .ok (.getfield 9, 3) := by decide +kernel
theorem dX6_put_36 : decode cX6_put 36 = .ok (.iload_n 1, 1) := by decide +kernel
theorem dX6_put_37 : decode cX6_put 37 = .ok (.lload_n 2, 1) := by decide +kernel
theorem dX6_put_38 : decode cX6_put 38 = .ok (.l2i, 1) := by decide +kernel
theorem dX6_put_39 : decode cX6_put 39 = .ok (.i2b, 1) := by decide +kernel
theorem dX6_put_40 : decode cX6_put 40 = .ok (.i2l, 1) := by decide +kernel
theorem dX6_put_41 : decode cX6_put 41 = .ok (.lastore, 1) := by decide +kernel
theorem dX6_put_42 : decode cX6_put 42 = .ok (.goto 35, 3) := by decide +kernel
theorem dX6_put_45 : decode cX6_put 45 = .ok (.aload_n 0, 1) := by decide +kernel
theorem dX6_put_46 : decode cX6_put 46 = .ok (.getfield 9, 3) := by decide +kernel
theorem dX6_put_49 : decode cX6_put 49 = .ok (.iload_n 1, 1) := by decide +kernel
theorem dX6_put_50 : decode cX6_put 50 = .ok (.lload_n 2, 1) := by decide +kernel
theorem dX6_put_51 : decode cX6_put 51 = .ok (.l2i, 1) := by decide +kernel
theorem dX6_put_52 : decode cX6_put 52 = .ok (.i2s, 1) := by decide +kernel
theorem dX6_put_53 : decode cX6_put 53 = .ok (.i2l, 1) := by decide +kernel
theorem dX6_put_54 : decode cX6_put 54 = .ok (.lastore, 1) := by decide +kernel
theorem dX6_put_55 : decode cX6_put 55 = .ok (.goto 22, 3) := by decide +kernel
theorem dX6_put_58 : decode cX6_put 58 = .ok (.aload_n 0, 1) := by decide +kernel
theorem dX6_put_59 : decode cX6_put 59 = .ok (.getfield 9, 3) := by decide +kernel
theorem dX6_put_62 : decode cX6_put 62 = .ok (.iload_n 1, 1) := by decide +kernel
theorem dX6_put_63 : decode cX6_put 63 = .ok (.lload_n 2, 1) := by decide +kernel
theorem dX6_put_64 : decode cX6_put 64 = .ok (.l2i, 1) := by decide +kernel
theorem dX6_put_65 : decode cX6_put 65 = .ok (.i2l, 1) := by decide +kernel
theorem dX6_put_66 : decode cX6_put 66 = .ok (.lastore, 1) := by decide +kernel
theorem dX6_put_67 : decode cX6_put 67 = .ok (.goto 10, 3) := by decide +kernel
theorem dX6_put_70 : decode cX6_put 70 = .ok (.aload_n 0, 1) := by decide +kernel
theorem dX6_put_71 : decode cX6_put 71 = .ok (.getfield 9, 3) := by decide +kernel
theorem dX6_put_74 : decode cX6_put 74 = .ok (.iload_n 1, 1) := by decide +kernel
theorem dX6_put_75 : decode cX6_put 75 = .ok (.lload_n 2, 1) := by decide +kernel
theorem dX6_put_76 : decode cX6_put 76 = .ok (.lastore, 1) := by decide +kernel
theorem dX6_put_77 : decode cX6_put 77 = .ok (.return_, 1) := by decide +kernel
theorem dX6_reaches_0 : decode cX6_reaches 0 = .ok (.iload_n 1, 1) := by decide +kernel
theorem dX6_reaches_1 : decode cX6_reaches 1 = .ok (.ifCond .lt 29, 3) := by decide +kernel
theorem dX6_reaches_4 : decode cX6_reaches 4 = .ok (.iload_n 2, 1) := by decide +kernel
theorem dX6_reaches_5 : decode cX6_reaches 5 = .ok (.ifCond .lt 25, 3) := by decide +kernel
theorem dX6_reaches_8 : decode cX6_reaches 8 = .ok (.iload_n 2, 1) := by decide +kernel
theorem dX6_reaches_9 : decode cX6_reaches 9 = .ok (.aload_n 0, 1) := by decide +kernel
theorem dX6_reaches_10 : decode cX6_reaches 10 = .ok (.getfield 29, 3) := by decide +kernel
theorem dX6_reaches_13 : decode cX6_reaches 13 = .ok (.if_icmp .gt 17, 3) := by decide +kernel
theorem dX6_reaches_16 : decode cX6_reaches 16 = .ok (.iload_n 1, 1) := by decide +kernel
theorem dX6_reaches_17 : decode cX6_reaches 17 = .ok (.aload_n 0, 1) := by decide +kernel
theorem dX6_reaches_18 : decode cX6_reaches 18 = .ok (.getfield 29, 3) := by decide +kernel
theorem dX6_reaches_21 : decode cX6_reaches 21 = .ok (.iload_n 2, 1) := by decide +kernel
theorem dX6_reaches_22 : decode cX6_reaches 22 = .ok (.isub, 1) := by decide +kernel
theorem dX6_reaches_23 : decode cX6_reaches 23 = .ok (.if_icmp .gt 7, 3) := by decide +kernel
theorem dX6_reaches_26 : decode cX6_reaches 26 = .ok (.iconst 1, 1) := by decide +kernel
theorem dX6_reaches_27 : decode cX6_reaches 27 = .ok (.goto 4, 3) := by decide +kernel
theorem dX6_reaches_30 : decode cX6_reaches 30 = .ok (.iconst 0, 1) := by decide +kernel
theorem dX6_reaches_31 : decode cX6_reaches 31 = .ok (.ireturn, 1) := by decide +kernel
theorem mm_k60 : mm_rg 60 60 60 := ⟨by decide, by decide⟩
theorem mm_km3 : mm_rg (-3) (-3) (-3) := ⟨by decide, by decide⟩
theorem mm_km7 : mm_rg (-7) (-7) (-7) := ⟨by decide, by decide⟩
theorem hd_X6_begin : yX6_begin.cls = RX6 ∧ yX6_begin.cls ≠ "java/lang/invoke/MethodHandle" ∧ yX6_begin.cls ≠ "java/lang/invoke/VarHandle" ∧ (parseMethodDescriptor yX6_begin.desc).map (fun d => d.parameters.length) = some 2 := by decide +kernel
theorem hd_X6_put : yX6_put.cls = RX6 ∧ yX6_put.cls ≠ "java/lang/invoke/MethodHandle" ∧ yX6_put.cls ≠ "java/lang/invoke/VarHandle" ∧ (parseMethodDescriptor yX6_put.desc).map (fun d => d.parameters.length) = some 2 := by decide +kernel
theorem hd_X6_reaches : yX6_reaches.cls = RX6 ∧ yX6_reaches.cls ≠ "java/lang/invoke/MethodHandle" ∧ yX6_reaches.cls ≠ "java/lang/invoke/VarHandle" ∧ (parseMethodDescriptor yX6_reaches.desc).map (fun d => d.parameters.length) = some 2 := by decide +kernel
set_option maxHeartbeats 4000000 in
set_option maxRecDepth 100000 in
theorem K534_X10_turnTo (l : Launch) (G : va_G) (cy : Nat → ClassId) (sz : Nat) (a_0 : Nat) (a_1 : Nat) (a_2 : Nat) (a_3 : Nat) (i_0 : Int32) (i_1 : Int32) (i_2 : Int32) (i_3 : Int32) (i_4 : Int32) (i_5 : Int32) (i_6 : Int32) (i_7 : Int32) (a_4 : Nat) (a_5 : Nat) (a_6 : Nat) (a_7 : Nat) (a_8 : Nat) (a_9 : Nat) (a_10 : Nat) (a_11 : Nat) (a_12 : Nat) (a_13 : Nat) (f_0 : Nat → Int32) (f_1 : Nat → Int32) (f_2 : Nat → Int32) (f_3 : Nat → Int32) (f_4 : Nat → Int32) (f_5 : Nat → Int32) (f_6 : Nat → Int32) (f_7 : Nat → Int32) (f_8 : Nat → Int32) (f_9 : Nat → Int32) (a_14 : Nat) (a_15 : Nat) (a_16 : Nat) (a_17 : Nat) (a_18 : Nat) (i_8 : Int32) (i_9 : Int32) (i_10 : Int32) (f_10 : Nat → Int32) (f_11 : Nat → Int32) (a_19 : Nat) (a_20 : Nat) (i_11 : Int32) (i_12 : Int32) (i_13 : Int32) (f_12 : Nat → Int32) (f_13 : Nat → Int32) (a_21 : Nat) (a_22 : Nat) (i_14 : Int32) (i_15 : Int32) (i_16 : Int32) (f_14 : Nat → Int32) (f_15 : Nat → Int32) (i_17 : Int32) (i_18 : Int32) (i_19 : Int32) (i_20 : Int32) (i_21 : Int32) (i_22 : Int32) (i_23 : Int32) (i_24 : Int32) (a_23 : Nat) (a_24 : Nat) (a_25 : Nat) (a_26 : Nat) (a_27 : Nat) (a_28 : Nat) (a_29 : Nat) (a_30 : Nat) (a_31 : Nat) (a_32 : Nat) (f_16 : Nat → Int32) (f_17 : Nat → Int32) (f_18 : Nat → Int32) (f_19 : Nat → Int32) (f_20 : Nat → Int32) (f_21 : Nat → Int32) (f_22 : Nat → Int32) (f_23 : Nat → Int32) (f_24 : Nat → Int32) (f_25 : Nat → Int32) (h0 : mm_rg i_1 0 10) (h1 : mm_rg i_2 0 99) (h2 : mm_rg i_3 0 99) (h3 : mm_rg i_4 0 9) (h4 : mm_rg i_5 0 3) (h5 : mm_rg i_6 0 6) (h6 : mm_rg i_7 0 30) (h7 : mm_ar f_0 (-1) 4) (h8 : mm_ar f_1 0 99) (h9 : mm_ar f_2 0 7) (h10 : mm_ar f_3 0 9) (h11 : mm_ar f_4 0 8) (h12 : mm_ar f_5 0 9) (h13 : mm_ar f_6 0 9) (h14 : mm_ar f_7 (-1) 2) (h15 : mm_ar f_8 0 99) (h16 : mm_ar f_9 0 9) (h17 : mm_rg i_8 1 10) (h18 : mm_rg i_10 (-2147483648) 210) (h19 : mm_ar f_10 0 9) (h20 : mm_ar f_11 0 9) (h21 : mm_rg i_11 1 10) (h22 : mm_rg i_13 (-2147483648) 210) (h23 : mm_ar f_12 0 9) (h24 : mm_ar f_13 0 9) (h25 : mm_rg i_14 1 10) (h26 : mm_rg i_16 (-2147483648) 210) (h27 : mm_ar f_14 0 9) (h28 : mm_ar f_15 0 9) (h29 : mm_rg i_18 0 10) (h30 : mm_rg i_19 0 99) (h31 : mm_rg i_20 0 99) (h32 : mm_rg i_21 0 9) (h33 : mm_rg i_22 0 3) (h34 : mm_rg i_23 0 6) (h35 : mm_rg i_24 0 30) (h36 : mm_ar f_16 (-1) 4) (h37 : mm_ar f_17 0 99) (h38 : mm_ar f_18 0 7) (h39 : mm_ar f_19 0 9) (h40 : mm_ar f_20 0 8) (h41 : mm_ar f_21 0 9) (h42 : mm_ar f_22 0 9) (h43 : mm_ar f_23 (-1) 2) (h44 : mm_ar f_24 0 99) (h45 : mm_ar f_25 0 9) (h46 : mm_act f_7 f_8) (h47 : mm_act f_23 f_24)  : mm_CV l yX10_turnTo (mm_ws yX10_turnTo cX10_turnTo 3 (none)) ({ frames := 4, cells := 0, slots := 0, locals := 106 } : Room) G cy sz [(a_0, .inr (10, [.ref a_2, .ref a_3])), (a_2, .inr (0, [.int i_0, .int i_1, .int i_2, .int i_3, .int i_4, .int i_5, .int i_6, .int i_7, .ref a_4, .ref a_5, .ref a_6, .ref a_7, .ref a_8, .ref a_9, .ref a_10, .ref a_11, .ref a_12, .ref a_13])), (a_4, .inl (cy 1, 9, .inl f_0)), (a_5, .inl (cy 1, 9, .inl f_1)), (a_6, .inl (cy 1, 3, .inl f_2)), (a_7, .inl (cy 1, 210, .inl f_3)), (a_8, .inl (cy 1, 6, .inl f_4)), (a_9, .inl (cy 1, 48, .inl f_5)), (a_10, .inl (cy 1, 30, .inl f_6)), (a_11, .inl (cy 1, 30, .inl f_7)), (a_12, .inl (cy 1, 30, .inl f_8)), (a_13, .inl (cy 1, 30, .inl f_9)), (a_3, .inl (cy 5, 3, .inr (.inr (.inr (.inr (va_up (va_up (va_up (fun _ => none) 0 (some a_14)) 1 (some a_15)) 2 (some a_16))))))), (a_14, .inr (1, [.ref a_17, .ref a_18, .int i_8, .int i_9, .int i_10])), (a_17, .inl (cy 1, 2100, .inl f_10)), (a_18, .inl (cy 1, 10, .inl f_11)), (a_15, .inr (1, [.ref a_19, .ref a_20, .int i_11, .int i_12, .int i_13])), (a_19, .inl (cy 1, 2100, .inl f_12)), (a_20, .inl (cy 1, 10, .inl f_13)), (a_16, .inr (1, [.ref a_21, .ref a_22, .int i_14, .int i_15, .int i_16])), (a_21, .inl (cy 1, 2100, .inl f_14)), (a_22, .inl (cy 1, 10, .inl f_15)), (a_1, .inr (0, [.int i_17, .int i_18, .int i_19, .int i_20, .int i_21, .int i_22, .int i_23, .int i_24, .ref a_23, .ref a_24, .ref a_25, .ref a_26, .ref a_27, .ref a_28, .ref a_29, .ref a_30, .ref a_31, .ref a_32])), (a_23, .inl (cy 1, 9, .inl f_16)), (a_24, .inl (cy 1, 9, .inl f_17)), (a_25, .inl (cy 1, 3, .inl f_18)), (a_26, .inl (cy 1, 210, .inl f_19)), (a_27, .inl (cy 1, 6, .inl f_20)), (a_28, .inl (cy 1, 48, .inl f_21)), (a_29, .inl (cy 1, 30, .inl f_22)), (a_30, .inl (cy 1, 30, .inl f_23)), (a_31, .inl (cy 1, 30, .inl f_24)), (a_32, .inl (cy 1, 30, .inl f_25))] [.ref a_0, .ref a_1] (fun u : Int32 × Int32 × Int32 × (Nat → Int32) × (Nat → Int32) × Int32 × Int32 × Int32 × (Nat → Int32) × (Nat → Int32) × Int32 × Int32 × Int32 × (Nat → Int32) × (Nat → Int32) => [(a_0, .inr (10, [.ref a_2, .ref a_3])), (a_2, .inr (0, [.int i_17, .int i_18, .int i_19, .int i_20, .int i_21, .int i_22, .int i_23, .int i_24, .ref a_4, .ref a_5, .ref a_6, .ref a_7, .ref a_8, .ref a_9, .ref a_10, .ref a_11, .ref a_12, .ref a_13])), (a_4, .inl (cy 1, 9, .inl f_16)), (a_5, .inl (cy 1, 9, .inl f_17)), (a_6, .inl (cy 1, 3, .inl f_18)), (a_7, .inl (cy 1, 210, .inl f_19)), (a_8, .inl (cy 1, 6, .inl f_20)), (a_9, .inl (cy 1, 48, .inl f_21)), (a_10, .inl (cy 1, 30, .inl f_22)), (a_11, .inl (cy 1, 30, .inl f_23)), (a_12, .inl (cy 1, 30, .inl f_24)), (a_13, .inl (cy 1, 30, .inl f_25)), (a_3, .inl (cy 5, 3, .inr (.inr (.inr (.inr (va_up (va_up (va_up (fun _ => none) 0 (some a_14)) 1 (some a_15)) 2 (some a_16))))))), (a_14, .inr (1, [.ref a_17, .ref a_18, .int u.1, .int u.2.1, .int u.2.2.1])), (a_17, .inl (cy 1, 2100, .inl u.2.2.2.1)), (a_18, .inl (cy 1, 10, .inl u.2.2.2.2.1)), (a_15, .inr (1, [.ref a_19, .ref a_20, .int u.2.2.2.2.2.1, .int u.2.2.2.2.2.2.1, .int u.2.2.2.2.2.2.2.1])), (a_19, .inl (cy 1, 2100, .inl u.2.2.2.2.2.2.2.2.1)), (a_20, .inl (cy 1, 10, .inl u.2.2.2.2.2.2.2.2.2.1)), (a_16, .inr (1, [.ref a_21, .ref a_22, .int u.2.2.2.2.2.2.2.2.2.2.1, .int u.2.2.2.2.2.2.2.2.2.2.2.1, .int u.2.2.2.2.2.2.2.2.2.2.2.2.1])), (a_21, .inl (cy 1, 2100, .inl u.2.2.2.2.2.2.2.2.2.2.2.2.2.1)), (a_22, .inl (cy 1, 10, .inl u.2.2.2.2.2.2.2.2.2.2.2.2.2.2)), (a_1, .inr (0, [.int i_17, .int i_18, .int i_19, .int i_20, .int i_21, .int i_22, .int i_23, .int i_24, .ref a_23, .ref a_24, .ref a_25, .ref a_26, .ref a_27, .ref a_28, .ref a_29, .ref a_30, .ref a_31, .ref a_32])), (a_23, .inl (cy 1, 9, .inl f_16)), (a_24, .inl (cy 1, 9, .inl f_17)), (a_25, .inl (cy 1, 3, .inl f_18)), (a_26, .inl (cy 1, 210, .inl f_19)), (a_27, .inl (cy 1, 6, .inl f_20)), (a_28, .inl (cy 1, 48, .inl f_21)), (a_29, .inl (cy 1, 30, .inl f_22)), (a_30, .inl (cy 1, 30, .inl f_23)), (a_31, .inl (cy 1, 30, .inl f_24)), (a_32, .inl (cy 1, 30, .inl f_25))]) (fun u : Int32 × Int32 × Int32 × (Nat → Int32) × (Nat → Int32) × Int32 × Int32 × Int32 × (Nat → Int32) × (Nat → Int32) × Int32 × Int32 × Int32 × (Nat → Int32) × (Nat → Int32) => mm_rg u.1 1 10 ∧ mm_rg u.2.2.1 (-2147483648) 210 ∧ mm_ar u.2.2.2.1 0 9 ∧ mm_ar u.2.2.2.2.1 0 9 ∧ mm_rg u.2.2.2.2.2.1 1 10 ∧ mm_rg u.2.2.2.2.2.2.2.1 (-2147483648) 210 ∧ mm_ar u.2.2.2.2.2.2.2.2.1 0 9 ∧ mm_ar u.2.2.2.2.2.2.2.2.2.1 0 9 ∧ mm_rg u.2.2.2.2.2.2.2.2.2.2.1 1 10 ∧ mm_rg u.2.2.2.2.2.2.2.2.2.2.2.2.1 (-2147483648) 210 ∧ mm_ar u.2.2.2.2.2.2.2.2.2.2.2.2.2.1 0 9 ∧ mm_ar u.2.2.2.2.2.2.2.2.2.2.2.2.2.2 0 9) 0 0 := by
  refine mm_begin (lv := [(0, .ref a_0), (1, .ref a_1)]) (by decide) (Nat.le_of_ble_eq_true rfl) rfl ?_
  intro p e s m below meth c A ls R args Q H locs hRe hQ hAe hx hb hr hlocks hml hown hnm hts hsz hA hS hP hK hD hZ hl
  have hRf : R.frames = 4 := by rw [hRe]
  have hRl : R.locals = 106 := by rw [hRe]
  have hRc : R.cells = 0 := by rw [hRe]
  have hRs : R.slots = 0 := by rw [hRe]
  refine lv_aload_n hx hb dX10_turnTo_0 rfl (lv_at hl 0 rfl) ?_
  refine va_get (D := G) (ci := 10) (v := .ref a_2) (C := RX10) (T := TX10) (N := 2) hx hb hts (mm_i inlX10) hown hK.1 hP 0 rfl rfl 0 (by decide) (mm_h hts mm_w87) (fun _ h9 => h9) rfl dX10_turnTo_1 ?_
  refine lv_aload_n hx hb dX10_turnTo_4 rfl (lv_at hl 1 rfl) ?_
  refine mm_finv (va_runV (As := [.ref a_1]) (rest := []) ⟨hx, hb, hml, hown, hts⟩ (K533_X0_copyFrom l G cy H.size a_2 a_1 i_0 i_1 i_2 i_3 i_4 i_5 i_6 i_7 a_4 a_5 a_6 a_7 a_8 a_9 a_10 a_11 a_12 a_13 f_0 f_1 f_2 f_3 f_4 f_5 f_6 f_7 f_8 f_9 i_17 i_18 i_19 i_20 i_21 i_22 i_23 i_24 a_23 a_24 a_25 a_26 a_27 a_28 a_29 a_30 a_31 a_32 f_16 f_17 f_18 f_19 f_20 f_21 f_22 f_23 f_24 f_25 h0 h1 h2 h3 h4 h5 h6 h7 h8 h9 h10 h11 h12 h13 h14 h15 h16 h29 h30 h31 h32 h33 h34 h35 h36 h37 h38 h39 h40 h41 h42 h43 h44 h45 h46 h47) (cwV 1 hts (mm_gV mm_w377 mm_w378 mm_w379 mm_w28 mm_w380) rfl rfl rfl hd_X0_copyFrom ⟨by rw [hRf]; exact Nat.le_of_ble_eq_true rfl, by rw [hRl]; exact Nat.le_of_ble_eq_true rfl⟩) (mm_preV hK hZ hS hA hP hD [1, 2, 3, 4, 5, 6, 7, 8, 9, 10, 11, 22, 23, 24, 25, 26, 27, 28, 29, 30, 31, 32] rfl rfl 1 rfl rfl rfl) rfl rfl hl.1 rfl (lv_room (Nat.le_of_ble_eq_true rfl)) dX10_turnTo_5 ⟨by rw [hRc]; exact Nat.le_of_ble_eq_true rfl, by rw [hRs]; exact Nat.le_of_ble_eq_true rfl⟩) hP hD hS hA (fun u : Unit => [(a_0, .inr (10, [.ref a_2, .ref a_3])), (a_2, .inr (0, [.int i_17, .int i_18, .int i_19, .int i_20, .int i_21, .int i_22, .int i_23, .int i_24, .ref a_4, .ref a_5, .ref a_6, .ref a_7, .ref a_8, .ref a_9, .ref a_10, .ref a_11, .ref a_12, .ref a_13])), (a_4, .inl (cy 1, 9, .inl f_16)), (a_5, .inl (cy 1, 9, .inl f_17)), (a_6, .inl (cy 1, 3, .inl f_18)), (a_7, .inl (cy 1, 210, .inl f_19)), (a_8, .inl (cy 1, 6, .inl f_20)), (a_9, .inl (cy 1, 48, .inl f_21)), (a_10, .inl (cy 1, 30, .inl f_22)), (a_11, .inl (cy 1, 30, .inl f_23)), (a_12, .inl (cy 1, 30, .inl f_24)), (a_13, .inl (cy 1, 30, .inl f_25)), (a_3, .inl (cy 5, 3, .inr (.inr (.inr (.inr (va_up (va_up (va_up (fun _ => none) 0 (some a_14)) 1 (some a_15)) 2 (some a_16))))))), (a_14, .inr (1, [.ref a_17, .ref a_18, .int i_8, .int i_9, .int i_10])), (a_17, .inl (cy 1, 2100, .inl f_10)), (a_18, .inl (cy 1, 10, .inl f_11)), (a_15, .inr (1, [.ref a_19, .ref a_20, .int i_11, .int i_12, .int i_13])), (a_19, .inl (cy 1, 2100, .inl f_12)), (a_20, .inl (cy 1, 10, .inl f_13)), (a_16, .inr (1, [.ref a_21, .ref a_22, .int i_14, .int i_15, .int i_16])), (a_21, .inl (cy 1, 2100, .inl f_14)), (a_22, .inl (cy 1, 10, .inl f_15)), (a_1, .inr (0, [.int i_17, .int i_18, .int i_19, .int i_20, .int i_21, .int i_22, .int i_23, .int i_24, .ref a_23, .ref a_24, .ref a_25, .ref a_26, .ref a_27, .ref a_28, .ref a_29, .ref a_30, .ref a_31, .ref a_32])), (a_23, .inl (cy 1, 9, .inl f_16)), (a_24, .inl (cy 1, 9, .inl f_17)), (a_25, .inl (cy 1, 3, .inl f_18)), (a_26, .inl (cy 1, 210, .inl f_19)), (a_27, .inl (cy 1, 6, .inl f_20)), (a_28, .inl (cy 1, 48, .inl f_21)), (a_29, .inl (cy 1, 30, .inl f_22)), (a_30, .inl (cy 1, 30, .inl f_23)), (a_31, .inl (cy 1, 30, .inl f_24)), (a_32, .inl (cy 1, 30, .inl f_25))]) [1, 2, 3, 4, 5, 6, 7, 8, 9, 10, 11, 22, 23, 24, 25, 26, 27, 28, 29, 30, 31, 32] [0, 12, 13, 14, 15, 16, 17, 18, 19, 20, 21] (n := 33) (fun _ => rfl) (by decide +kernel) (by decide +kernel) rfl (fun _ => rfl) (wr := [(a_0, .inr (10, [.ref a_2, .ref a_3])), (a_3, .inl (cy 5, 3, .inr (.inr (.inr (.inr (va_up (va_up (va_up (fun _ => none) 0 (some a_14)) 1 (some a_15)) 2 (some a_16))))))), (a_14, .inr (1, [.ref a_17, .ref a_18, .int i_8, .int i_9, .int i_10])), (a_17, .inl (cy 1, 2100, .inl f_10)), (a_18, .inl (cy 1, 10, .inl f_11)), (a_15, .inr (1, [.ref a_19, .ref a_20, .int i_11, .int i_12, .int i_13])), (a_19, .inl (cy 1, 2100, .inl f_12)), (a_20, .inl (cy 1, 10, .inl f_13)), (a_16, .inr (1, [.ref a_21, .ref a_22, .int i_14, .int i_15, .int i_16])), (a_21, .inl (cy 1, 2100, .inl f_14)), (a_22, .inl (cy 1, 10, .inl f_15))]) rfl (fun _ => rfl) (fun _ => rfl) ?_
  clear hP hD hS
  clear H locs
  intro _u H locs hw (hP : va_P G vwCl [(a_0, .inr (10, [.ref a_2, .ref a_3])), (a_2, .inr (0, [.int i_17, .int i_18, .int i_19, .int i_20, .int i_21, .int i_22, .int i_23, .int i_24, .ref a_4, .ref a_5, .ref a_6, .ref a_7, .ref a_8, .ref a_9, .ref a_10, .ref a_11, .ref a_12, .ref a_13])), (a_4, .inl (cy 1, 9, .inl f_16)), (a_5, .inl (cy 1, 9, .inl f_17)), (a_6, .inl (cy 1, 3, .inl f_18)), (a_7, .inl (cy 1, 210, .inl f_19)), (a_8, .inl (cy 1, 6, .inl f_20)), (a_9, .inl (cy 1, 48, .inl f_21)), (a_10, .inl (cy 1, 30, .inl f_22)), (a_11, .inl (cy 1, 30, .inl f_23)), (a_12, .inl (cy 1, 30, .inl f_24)), (a_13, .inl (cy 1, 30, .inl f_25)), (a_3, .inl (cy 5, 3, .inr (.inr (.inr (.inr (va_up (va_up (va_up (fun _ => none) 0 (some a_14)) 1 (some a_15)) 2 (some a_16))))))), (a_14, .inr (1, [.ref a_17, .ref a_18, .int i_8, .int i_9, .int i_10])), (a_17, .inl (cy 1, 2100, .inl f_10)), (a_18, .inl (cy 1, 10, .inl f_11)), (a_15, .inr (1, [.ref a_19, .ref a_20, .int i_11, .int i_12, .int i_13])), (a_19, .inl (cy 1, 2100, .inl f_12)), (a_20, .inl (cy 1, 10, .inl f_13)), (a_16, .inr (1, [.ref a_21, .ref a_22, .int i_14, .int i_15, .int i_16])), (a_21, .inl (cy 1, 2100, .inl f_14)), (a_22, .inl (cy 1, 10, .inl f_15)), (a_1, .inr (0, [.int i_17, .int i_18, .int i_19, .int i_20, .int i_21, .int i_22, .int i_23, .int i_24, .ref a_23, .ref a_24, .ref a_25, .ref a_26, .ref a_27, .ref a_28, .ref a_29, .ref a_30, .ref a_31, .ref a_32])), (a_23, .inl (cy 1, 9, .inl f_16)), (a_24, .inl (cy 1, 9, .inl f_17)), (a_25, .inl (cy 1, 3, .inl f_18)), (a_26, .inl (cy 1, 210, .inl f_19)), (a_27, .inl (cy 1, 6, .inl f_20)), (a_28, .inl (cy 1, 48, .inl f_21)), (a_29, .inl (cy 1, 30, .inl f_22)), (a_30, .inl (cy 1, 30, .inl f_23)), (a_31, .inl (cy 1, 30, .inl f_24)), (a_32, .inl (cy 1, 30, .inl f_25))] H) (hD : va_D A [(a_0, .inr (10, [.ref a_2, .ref a_3])), (a_2, .inr (0, [.int i_17, .int i_18, .int i_19, .int i_20, .int i_21, .int i_22, .int i_23, .int i_24, .ref a_4, .ref a_5, .ref a_6, .ref a_7, .ref a_8, .ref a_9, .ref a_10, .ref a_11, .ref a_12, .ref a_13])), (a_4, .inl (cy 1, 9, .inl f_16)), (a_5, .inl (cy 1, 9, .inl f_17)), (a_6, .inl (cy 1, 3, .inl f_18)), (a_7, .inl (cy 1, 210, .inl f_19)), (a_8, .inl (cy 1, 6, .inl f_20)), (a_9, .inl (cy 1, 48, .inl f_21)), (a_10, .inl (cy 1, 30, .inl f_22)), (a_11, .inl (cy 1, 30, .inl f_23)), (a_12, .inl (cy 1, 30, .inl f_24)), (a_13, .inl (cy 1, 30, .inl f_25)), (a_3, .inl (cy 5, 3, .inr (.inr (.inr (.inr (va_up (va_up (va_up (fun _ => none) 0 (some a_14)) 1 (some a_15)) 2 (some a_16))))))), (a_14, .inr (1, [.ref a_17, .ref a_18, .int i_8, .int i_9, .int i_10])), (a_17, .inl (cy 1, 2100, .inl f_10)), (a_18, .inl (cy 1, 10, .inl f_11)), (a_15, .inr (1, [.ref a_19, .ref a_20, .int i_11, .int i_12, .int i_13])), (a_19, .inl (cy 1, 2100, .inl f_12)), (a_20, .inl (cy 1, 10, .inl f_13)), (a_16, .inr (1, [.ref a_21, .ref a_22, .int i_14, .int i_15, .int i_16])), (a_21, .inl (cy 1, 2100, .inl f_14)), (a_22, .inl (cy 1, 10, .inl f_15)), (a_1, .inr (0, [.int i_17, .int i_18, .int i_19, .int i_20, .int i_21, .int i_22, .int i_23, .int i_24, .ref a_23, .ref a_24, .ref a_25, .ref a_26, .ref a_27, .ref a_28, .ref a_29, .ref a_30, .ref a_31, .ref a_32])), (a_23, .inl (cy 1, 9, .inl f_16)), (a_24, .inl (cy 1, 9, .inl f_17)), (a_25, .inl (cy 1, 3, .inl f_18)), (a_26, .inl (cy 1, 210, .inl f_19)), (a_27, .inl (cy 1, 6, .inl f_20)), (a_28, .inl (cy 1, 48, .inl f_21)), (a_29, .inl (cy 1, 30, .inl f_22)), (a_30, .inl (cy 1, 30, .inl f_23)), (a_31, .inl (cy 1, 30, .inl f_24)), (a_32, .inl (cy 1, 30, .inl f_25))]) hS
  refine lv_iconst (v := 0) hx hb dX10_turnTo_8 (by decide) ?_
  refine lv_istore_n (lv' := [(2, .int 0), (0, .ref a_0), (1, .ref a_1)]) hx hb dX10_turnTo_9 rfl hl (by decide) rfl ?_
  clear hl
  clear ls
  intro ls hl
  have L10_177 : ∀ (n : Nat) (x10_2_162 : Int32) (y10_13_2_163 : Int32) (y10_13_3_164 : Int32) (y10_13_4_165 : Int32) (y10_16_2_166 : Int32) (y10_16_3_167 : Int32) (y10_16_4_168 : Int32) (y10_19_2_169 : Int32) (y10_19_3_170 : Int32) (y10_19_4_171 : Int32) (z10_14_172 : Nat → Int32) (z10_15_173 : Nat → Int32) (z10_17_174 : Nat → Int32) (z10_18_175 : Nat → Int32) (z10_20_176 : Nat → Int32) (z10_21_177 : Nat → Int32), mm_rg x10_2_162 0 3 → mm_rg y10_13_2_163 1 10 → mm_rg y10_13_4_165 (-2147483648) 210 → mm_rg y10_16_2_166 1 10 → mm_rg y10_16_4_168 (-2147483648) 210 → mm_rg y10_19_2_169 1 10 → mm_rg y10_19_4_171 (-2147483648) 210 → mm_ar z10_14_172 0 9 → mm_ar z10_15_173 0 9 → mm_ar z10_17_174 0 9 → mm_ar z10_18_175 0 9 → mm_ar z10_20_176 0 9 → mm_ar z10_21_177 0 9 → (3 - x10_2_162.toInt).toNat < n → ∀ (H : Heap) (locs : List Loc), va_P G vwCl [(a_0, .inr (10, [.ref a_2, .ref a_3])), (a_2, .inr (0, [.int i_17, .int i_18, .int i_19, .int i_20, .int i_21, .int i_22, .int i_23, .int i_24, .ref a_4, .ref a_5, .ref a_6, .ref a_7, .ref a_8, .ref a_9, .ref a_10, .ref a_11, .ref a_12, .ref a_13])), (a_4, .inl (cy 1, 9, .inl f_16)), (a_5, .inl (cy 1, 9, .inl f_17)), (a_6, .inl (cy 1, 3, .inl f_18)), (a_7, .inl (cy 1, 210, .inl f_19)), (a_8, .inl (cy 1, 6, .inl f_20)), (a_9, .inl (cy 1, 48, .inl f_21)), (a_10, .inl (cy 1, 30, .inl f_22)), (a_11, .inl (cy 1, 30, .inl f_23)), (a_12, .inl (cy 1, 30, .inl f_24)), (a_13, .inl (cy 1, 30, .inl f_25)), (a_3, .inl (cy 5, 3, .inr (.inr (.inr (.inr (va_up (va_up (va_up (fun _ => none) 0 (some a_14)) 1 (some a_15)) 2 (some a_16))))))), (a_14, .inr (1, [.ref a_17, .ref a_18, .int y10_13_2_163, .int y10_13_3_164, .int y10_13_4_165])), (a_17, .inl (cy 1, 2100, .inl z10_14_172)), (a_18, .inl (cy 1, 10, .inl z10_15_173)), (a_15, .inr (1, [.ref a_19, .ref a_20, .int y10_16_2_166, .int y10_16_3_167, .int y10_16_4_168])), (a_19, .inl (cy 1, 2100, .inl z10_17_174)), (a_20, .inl (cy 1, 10, .inl z10_18_175)), (a_16, .inr (1, [.ref a_21, .ref a_22, .int y10_19_2_169, .int y10_19_3_170, .int y10_19_4_171])), (a_21, .inl (cy 1, 2100, .inl z10_20_176)), (a_22, .inl (cy 1, 10, .inl z10_21_177)), (a_1, .inr (0, [.int i_17, .int i_18, .int i_19, .int i_20, .int i_21, .int i_22, .int i_23, .int i_24, .ref a_23, .ref a_24, .ref a_25, .ref a_26, .ref a_27, .ref a_28, .ref a_29, .ref a_30, .ref a_31, .ref a_32])), (a_23, .inl (cy 1, 9, .inl f_16)), (a_24, .inl (cy 1, 9, .inl f_17)), (a_25, .inl (cy 1, 3, .inl f_18)), (a_26, .inl (cy 1, 210, .inl f_19)), (a_27, .inl (cy 1, 6, .inl f_20)), (a_28, .inl (cy 1, 48, .inl f_21)), (a_29, .inl (cy 1, 30, .inl f_22)), (a_30, .inl (cy 1, 30, .inl f_23)), (a_31, .inl (cy 1, 30, .inl f_24)), (a_32, .inl (cy 1, 30, .inl f_25))] H → va_D A [(a_0, .inr (10, [.ref a_2, .ref a_3])), (a_2, .inr (0, [.int i_17, .int i_18, .int i_19, .int i_20, .int i_21, .int i_22, .int i_23, .int i_24, .ref a_4, .ref a_5, .ref a_6, .ref a_7, .ref a_8, .ref a_9, .ref a_10, .ref a_11, .ref a_12, .ref a_13])), (a_4, .inl (cy 1, 9, .inl f_16)), (a_5, .inl (cy 1, 9, .inl f_17)), (a_6, .inl (cy 1, 3, .inl f_18)), (a_7, .inl (cy 1, 210, .inl f_19)), (a_8, .inl (cy 1, 6, .inl f_20)), (a_9, .inl (cy 1, 48, .inl f_21)), (a_10, .inl (cy 1, 30, .inl f_22)), (a_11, .inl (cy 1, 30, .inl f_23)), (a_12, .inl (cy 1, 30, .inl f_24)), (a_13, .inl (cy 1, 30, .inl f_25)), (a_3, .inl (cy 5, 3, .inr (.inr (.inr (.inr (va_up (va_up (va_up (fun _ => none) 0 (some a_14)) 1 (some a_15)) 2 (some a_16))))))), (a_14, .inr (1, [.ref a_17, .ref a_18, .int y10_13_2_163, .int y10_13_3_164, .int y10_13_4_165])), (a_17, .inl (cy 1, 2100, .inl z10_14_172)), (a_18, .inl (cy 1, 10, .inl z10_15_173)), (a_15, .inr (1, [.ref a_19, .ref a_20, .int y10_16_2_166, .int y10_16_3_167, .int y10_16_4_168])), (a_19, .inl (cy 1, 2100, .inl z10_17_174)), (a_20, .inl (cy 1, 10, .inl z10_18_175)), (a_16, .inr (1, [.ref a_21, .ref a_22, .int y10_19_2_169, .int y10_19_3_170, .int y10_19_4_171])), (a_21, .inl (cy 1, 2100, .inl z10_20_176)), (a_22, .inl (cy 1, 10, .inl z10_21_177)), (a_1, .inr (0, [.int i_17, .int i_18, .int i_19, .int i_20, .int i_21, .int i_22, .int i_23, .int i_24, .ref a_23, .ref a_24, .ref a_25, .ref a_26, .ref a_27, .ref a_28, .ref a_29, .ref a_30, .ref a_31, .ref a_32])), (a_23, .inl (cy 1, 9, .inl f_16)), (a_24, .inl (cy 1, 9, .inl f_17)), (a_25, .inl (cy 1, 3, .inl f_18)), (a_26, .inl (cy 1, 210, .inl f_19)), (a_27, .inl (cy 1, 6, .inl f_20)), (a_28, .inl (cy 1, 48, .inl f_21)), (a_29, .inl (cy 1, 30, .inl f_22)), (a_30, .inl (cy 1, 30, .inl f_23)), (a_31, .inl (cy 1, 30, .inl f_24)), (a_32, .inl (cy 1, 30, .inl f_25))] → va_S A s.heap H locs → ∀ (ls : Array Slot), lv_has ls 3 [(2, .int x10_2_162), (0, .ref a_0), (1, .ref a_1)] → W p l e R s m args below meth c H locs 0 0 Q (F0 m 10 ls []) := by
    intro n
    induction n with
    | zero => intro x10_2_162 y10_13_2_163 y10_13_3_164 y10_13_4_165 y10_16_2_166 y10_16_3_167 y10_16_4_168 y10_19_2_169 y10_19_3_170 y10_19_4_171 z10_14_172 z10_15_173 z10_17_174 z10_18_175 z10_20_176 z10_21_177 rx10_2_162 ry10_13_2_163 ry10_13_4_165 ry10_16_2_166 ry10_16_4_168 ry10_19_2_169 ry10_19_4_171 rz10_14_172 rz10_15_173 rz10_17_174 rz10_18_175 rz10_20_176 rz10_21_177 hm; exact absurd hm (Nat.not_lt_zero _)
    | succ n ih10 =>
      intro x10_2_162 y10_13_2_163 y10_13_3_164 y10_13_4_165 y10_16_2_166 y10_16_3_167 y10_16_4_168 y10_19_2_169 y10_19_3_170 y10_19_4_171 z10_14_172 z10_15_173 z10_17_174 z10_18_175 z10_20_176 z10_21_177 rx10_2_162 ry10_13_2_163 ry10_13_4_165 ry10_16_2_166 ry10_16_4_168 ry10_19_2_169 ry10_19_4_171 rz10_14_172 rz10_15_173 rz10_17_174 rz10_18_175 rz10_20_176 rz10_21_177 hm10 H locs hP hD hS ls hl
      refine lv_iload_n hx hb dX10_turnTo_10 rfl (lv_at hl 0 rfl) ?_
      refine lv_aload_n hx hb dX10_turnTo_11 rfl (lv_at hl 1 rfl) ?_
      refine va_get (D := G) (ci := 10) (v := .ref a_2) (C := RX10) (T := TX10) (N := 2) hx hb hts (mm_i inlX10) hown hK.1 hP 0 rfl rfl 0 (by decide) (mm_h hts mm_w87) (fun _ h9 => h9) rfl dX10_turnTo_12 ?_
      refine va_get (D := G) (ci := 0) (v := .int i_22) (C := RX0) (T := TX0) (N := 18) hx hb hts (mm_i inlX0) hown hK.1 hP 1 rfl rfl 5 (by decide) (mm_h hts mm_w376) (fun _ h9 => h9) rfl dX10_turnTo_15 ?_
      refine lv_icmp_ge (tgt := 41) hx hb dX10_turnTo_18 (by decide) (fun c179 => ?_) (fun c179 => ?_)
      · subst hAe
        rw [hQ]
        exact W.vret hx hb hr (fun t ht hW => ⟨⟨(y10_13_2_163, y10_13_3_164, y10_13_4_165, z10_14_172, z10_15_173, y10_16_2_166, y10_16_3_167, y10_16_4_168, z10_17_174, z10_18_175, y10_19_2_169, y10_19_3_170, y10_19_4_171, z10_20_176, z10_21_177), rfl, ⟨ry10_13_2_163, ry10_13_4_165, rz10_14_172, rz10_15_173, ry10_16_2_166, ry10_16_4_168, rz10_17_174, rz10_18_175, ry10_19_2_169, ry10_19_4_171, rz10_20_176, rz10_21_177⟩, by rw [ht]; exact hP, hK.warm hW, hD⟩, hS.F ht⟩) hS.2.2 dX10_turnTo_41
      · have q180 := mm_ltL (h := 2) (mm_nle c179) rx10_2_162 h33 (by decide)
        have q181 := mm_ltR (lo := 1) (mm_nle c179) rx10_2_162 h33 (by decide)
        refine lv_aload_n hx hb dX10_turnTo_21 rfl (lv_at hl 1 rfl) ?_
        refine va_get (D := G) (ci := 10) (v := .ref a_3) (C := RX10) (T := TX10) (N := 2) hx hb hts (mm_i inlX10) hown hK.1 hP 0 rfl rfl 1 (by decide) (mm_h hts mm_w89) (fun _ h9 => h9) rfl dX10_turnTo_22 ?_
        refine lv_iload_n hx hb dX10_turnTo_25 rfl (lv_at hl 0 rfl) ?_
        refine va_aldq hx hb hK.1 hP 12 5 rfl rfl (mm_in q180 (by decide)) dX10_turnTo_26 ?_
        have c182 := mm_cases3 q180
        rcases c182 with rfl | rfl | rfl
        · refine W.eq (g2 := F0 m 27 ls [.ref a_14]) rfl ?_
          refine lv_aload_n hx hb dX10_turnTo_27 rfl (lv_at hl 1 rfl) ?_
          refine va_get (D := G) (ci := 10) (v := .ref a_2) (C := RX10) (T := TX10) (N := 2) hx hb hts (mm_i inlX10) hown hK.1 hP 0 rfl rfl 0 (by decide) (mm_h hts mm_w87) (fun _ h9 => h9) rfl dX10_turnTo_28 ?_
          refine lv_iload_n hx hb dX10_turnTo_31 rfl (lv_at hl 0 rfl) ?_
          refine mm_finv (va_runV (As := [.ref a_2, .int 0]) (rest := []) ⟨hx, hb, hml, hown, hts⟩ (K340_X1_lay l G cy H.size a_14 a_2 0 i_17 i_18 i_19 i_20 i_21 i_22 i_23 i_24 a_4 a_5 a_6 a_7 a_8 a_9 a_10 a_11 a_12 a_13 f_18 f_19 a_17 a_18 y10_13_2_163 y10_13_3_164 y10_13_4_165 z10_14_172 z10_15_173 (mm_wk mm_k0 (by decide)) h32 h38 h39 ry10_13_2_163 ry10_13_4_165 rz10_14_172 rz10_15_173) (cwV 2 hts (mm_gV mm_w391 mm_w392 mm_w393 mm_w91 mm_w394) rfl rfl rfl hd_X1_lay ⟨by rw [hRf]; exact Nat.le_of_ble_eq_true rfl, by rw [hRl]; exact Nat.le_of_ble_eq_true rfl⟩) (mm_preV hK hZ hS hA hP hD [1, 4, 5, 13, 14, 15] rfl rfl 13 rfl rfl rfl) rfl rfl hl.1 rfl (lv_room (Nat.le_of_ble_eq_true rfl)) dX10_turnTo_32 ⟨by rw [hRc]; exact Nat.le_of_ble_eq_true rfl, by rw [hRs]; exact Nat.le_of_ble_eq_true rfl⟩) hP hD hS hA (fun u : Int32 × Int32 × Int32 × (Nat → Int32) × (Nat → Int32) => [(a_0, .inr (10, [.ref a_2, .ref a_3])), (a_2, .inr (0, [.int i_17, .int i_18, .int i_19, .int i_20, .int i_21, .int i_22, .int i_23, .int i_24, .ref a_4, .ref a_5, .ref a_6, .ref a_7, .ref a_8, .ref a_9, .ref a_10, .ref a_11, .ref a_12, .ref a_13])), (a_4, .inl (cy 1, 9, .inl f_16)), (a_5, .inl (cy 1, 9, .inl f_17)), (a_6, .inl (cy 1, 3, .inl f_18)), (a_7, .inl (cy 1, 210, .inl f_19)), (a_8, .inl (cy 1, 6, .inl f_20)), (a_9, .inl (cy 1, 48, .inl f_21)), (a_10, .inl (cy 1, 30, .inl f_22)), (a_11, .inl (cy 1, 30, .inl f_23)), (a_12, .inl (cy 1, 30, .inl f_24)), (a_13, .inl (cy 1, 30, .inl f_25)), (a_3, .inl (cy 5, 3, .inr (.inr (.inr (.inr (va_up (va_up (va_up (fun _ => none) 0 (some a_14)) 1 (some a_15)) 2 (some a_16))))))), (a_14, .inr (1, [.ref a_17, .ref a_18, .int u.1, .int u.2.1, .int u.2.2.1])), (a_17, .inl (cy 1, 2100, .inl u.2.2.2.1)), (a_18, .inl (cy 1, 10, .inl u.2.2.2.2)), (a_15, .inr (1, [.ref a_19, .ref a_20, .int y10_16_2_166, .int y10_16_3_167, .int y10_16_4_168])), (a_19, .inl (cy 1, 2100, .inl z10_17_174)), (a_20, .inl (cy 1, 10, .inl z10_18_175)), (a_16, .inr (1, [.ref a_21, .ref a_22, .int y10_19_2_169, .int y10_19_3_170, .int y10_19_4_171])), (a_21, .inl (cy 1, 2100, .inl z10_20_176)), (a_22, .inl (cy 1, 10, .inl z10_21_177)), (a_1, .inr (0, [.int i_17, .int i_18, .int i_19, .int i_20, .int i_21, .int i_22, .int i_23, .int i_24, .ref a_23, .ref a_24, .ref a_25, .ref a_26, .ref a_27, .ref a_28, .ref a_29, .ref a_30, .ref a_31, .ref a_32])), (a_23, .inl (cy 1, 9, .inl f_16)), (a_24, .inl (cy 1, 9, .inl f_17)), (a_25, .inl (cy 1, 3, .inl f_18)), (a_26, .inl (cy 1, 210, .inl f_19)), (a_27, .inl (cy 1, 6, .inl f_20)), (a_28, .inl (cy 1, 48, .inl f_21)), (a_29, .inl (cy 1, 30, .inl f_22)), (a_30, .inl (cy 1, 30, .inl f_23)), (a_31, .inl (cy 1, 30, .inl f_24)), (a_32, .inl (cy 1, 30, .inl f_25))]) [1, 4, 5, 13, 14, 15] [0, 2, 3, 6, 7, 8, 9, 10, 11, 12, 16, 17, 18, 19, 20, 21, 22, 23, 24, 25, 26, 27, 28, 29, 30, 31, 32] (n := 33) (fun _ => rfl) (by decide +kernel) (by decide +kernel) rfl (fun _ => rfl) (wr := [(a_0, .inr (10, [.ref a_2, .ref a_3])), (a_4, .inl (cy 1, 9, .inl f_16)), (a_5, .inl (cy 1, 9, .inl f_17)), (a_8, .inl (cy 1, 6, .inl f_20)), (a_9, .inl (cy 1, 48, .inl f_21)), (a_10, .inl (cy 1, 30, .inl f_22)), (a_11, .inl (cy 1, 30, .inl f_23)), (a_12, .inl (cy 1, 30, .inl f_24)), (a_13, .inl (cy 1, 30, .inl f_25)), (a_3, .inl (cy 5, 3, .inr (.inr (.inr (.inr (va_up (va_up (va_up (fun _ => none) 0 (some a_14)) 1 (some a_15)) 2 (some a_16))))))), (a_15, .inr (1, [.ref a_19, .ref a_20, .int y10_16_2_166, .int y10_16_3_167, .int y10_16_4_168])), (a_19, .inl (cy 1, 2100, .inl z10_17_174)), (a_20, .inl (cy 1, 10, .inl z10_18_175)), (a_16, .inr (1, [.ref a_21, .ref a_22, .int y10_19_2_169, .int y10_19_3_170, .int y10_19_4_171])), (a_21, .inl (cy 1, 2100, .inl z10_20_176)), (a_22, .inl (cy 1, 10, .inl z10_21_177)), (a_1, .inr (0, [.int i_17, .int i_18, .int i_19, .int i_20, .int i_21, .int i_22, .int i_23, .int i_24, .ref a_23, .ref a_24, .ref a_25, .ref a_26, .ref a_27, .ref a_28, .ref a_29, .ref a_30, .ref a_31, .ref a_32])), (a_23, .inl (cy 1, 9, .inl f_16)), (a_24, .inl (cy 1, 9, .inl f_17)), (a_25, .inl (cy 1, 3, .inl f_18)), (a_26, .inl (cy 1, 210, .inl f_19)), (a_27, .inl (cy 1, 6, .inl f_20)), (a_28, .inl (cy 1, 48, .inl f_21)), (a_29, .inl (cy 1, 30, .inl f_22)), (a_30, .inl (cy 1, 30, .inl f_23)), (a_31, .inl (cy 1, 30, .inl f_24)), (a_32, .inl (cy 1, 30, .inl f_25))]) rfl (fun _ => rfl) (fun _ => rfl) ?_
          clear hP hD hS
          clear H locs
          intro u
          obtain ⟨n183, n184, n185, n186, n187⟩ := u
          intro H locs hw (hP : va_P G vwCl [(a_0, .inr (10, [.ref a_2, .ref a_3])), (a_2, .inr (0, [.int i_17, .int i_18, .int i_19, .int i_20, .int i_21, .int i_22, .int i_23, .int i_24, .ref a_4, .ref a_5, .ref a_6, .ref a_7, .ref a_8, .ref a_9, .ref a_10, .ref a_11, .ref a_12, .ref a_13])), (a_4, .inl (cy 1, 9, .inl f_16)), (a_5, .inl (cy 1, 9, .inl f_17)), (a_6, .inl (cy 1, 3, .inl f_18)), (a_7, .inl (cy 1, 210, .inl f_19)), (a_8, .inl (cy 1, 6, .inl f_20)), (a_9, .inl (cy 1, 48, .inl f_21)), (a_10, .inl (cy 1, 30, .inl f_22)), (a_11, .inl (cy 1, 30, .inl f_23)), (a_12, .inl (cy 1, 30, .inl f_24)), (a_13, .inl (cy 1, 30, .inl f_25)), (a_3, .inl (cy 5, 3, .inr (.inr (.inr (.inr (va_up (va_up (va_up (fun _ => none) 0 (some a_14)) 1 (some a_15)) 2 (some a_16))))))), (a_14, .inr (1, [.ref a_17, .ref a_18, .int n183, .int n184, .int n185])), (a_17, .inl (cy 1, 2100, .inl n186)), (a_18, .inl (cy 1, 10, .inl n187)), (a_15, .inr (1, [.ref a_19, .ref a_20, .int y10_16_2_166, .int y10_16_3_167, .int y10_16_4_168])), (a_19, .inl (cy 1, 2100, .inl z10_17_174)), (a_20, .inl (cy 1, 10, .inl z10_18_175)), (a_16, .inr (1, [.ref a_21, .ref a_22, .int y10_19_2_169, .int y10_19_3_170, .int y10_19_4_171])), (a_21, .inl (cy 1, 2100, .inl z10_20_176)), (a_22, .inl (cy 1, 10, .inl z10_21_177)), (a_1, .inr (0, [.int i_17, .int i_18, .int i_19, .int i_20, .int i_21, .int i_22, .int i_23, .int i_24, .ref a_23, .ref a_24, .ref a_25, .ref a_26, .ref a_27, .ref a_28, .ref a_29, .ref a_30, .ref a_31, .ref a_32])), (a_23, .inl (cy 1, 9, .inl f_16)), (a_24, .inl (cy 1, 9, .inl f_17)), (a_25, .inl (cy 1, 3, .inl f_18)), (a_26, .inl (cy 1, 210, .inl f_19)), (a_27, .inl (cy 1, 6, .inl f_20)), (a_28, .inl (cy 1, 48, .inl f_21)), (a_29, .inl (cy 1, 30, .inl f_22)), (a_30, .inl (cy 1, 30, .inl f_23)), (a_31, .inl (cy 1, 30, .inl f_24)), (a_32, .inl (cy 1, 30, .inl f_25))] H) (hD : va_D A [(a_0, .inr (10, [.ref a_2, .ref a_3])), (a_2, .inr (0, [.int i_17, .int i_18, .int i_19, .int i_20, .int i_21, .int i_22, .int i_23, .int i_24, .ref a_4, .ref a_5, .ref a_6, .ref a_7, .ref a_8, .ref a_9, .ref a_10, .ref a_11, .ref a_12, .ref a_13])), (a_4, .inl (cy 1, 9, .inl f_16)), (a_5, .inl (cy 1, 9, .inl f_17)), (a_6, .inl (cy 1, 3, .inl f_18)), (a_7, .inl (cy 1, 210, .inl f_19)), (a_8, .inl (cy 1, 6, .inl f_20)), (a_9, .inl (cy 1, 48, .inl f_21)), (a_10, .inl (cy 1, 30, .inl f_22)), (a_11, .inl (cy 1, 30, .inl f_23)), (a_12, .inl (cy 1, 30, .inl f_24)), (a_13, .inl (cy 1, 30, .inl f_25)), (a_3, .inl (cy 5, 3, .inr (.inr (.inr (.inr (va_up (va_up (va_up (fun _ => none) 0 (some a_14)) 1 (some a_15)) 2 (some a_16))))))), (a_14, .inr (1, [.ref a_17, .ref a_18, .int n183, .int n184, .int n185])), (a_17, .inl (cy 1, 2100, .inl n186)), (a_18, .inl (cy 1, 10, .inl n187)), (a_15, .inr (1, [.ref a_19, .ref a_20, .int y10_16_2_166, .int y10_16_3_167, .int y10_16_4_168])), (a_19, .inl (cy 1, 2100, .inl z10_17_174)), (a_20, .inl (cy 1, 10, .inl z10_18_175)), (a_16, .inr (1, [.ref a_21, .ref a_22, .int y10_19_2_169, .int y10_19_3_170, .int y10_19_4_171])), (a_21, .inl (cy 1, 2100, .inl z10_20_176)), (a_22, .inl (cy 1, 10, .inl z10_21_177)), (a_1, .inr (0, [.int i_17, .int i_18, .int i_19, .int i_20, .int i_21, .int i_22, .int i_23, .int i_24, .ref a_23, .ref a_24, .ref a_25, .ref a_26, .ref a_27, .ref a_28, .ref a_29, .ref a_30, .ref a_31, .ref a_32])), (a_23, .inl (cy 1, 9, .inl f_16)), (a_24, .inl (cy 1, 9, .inl f_17)), (a_25, .inl (cy 1, 3, .inl f_18)), (a_26, .inl (cy 1, 210, .inl f_19)), (a_27, .inl (cy 1, 6, .inl f_20)), (a_28, .inl (cy 1, 48, .inl f_21)), (a_29, .inl (cy 1, 30, .inl f_22)), (a_30, .inl (cy 1, 30, .inl f_23)), (a_31, .inl (cy 1, 30, .inl f_24)), (a_32, .inl (cy 1, 30, .inl f_25))]) hS
          obtain ⟨w188, w189, w190, w191⟩ := hw
          refine lv_iinc (v := 1) (lv' := [(2, .int 1), (0, .ref a_0), (1, .ref a_1)]) hx hb dX10_turnTo_35 hl (k := 0) rfl (by decide) (by decide) rfl ?_
          clear hl
          clear ls
          intro ls hl
          refine lv_goto (tgt := 10) hx hb dX10_turnTo_38 (by decide) ?_
          exact ih10 1 n183 n184 n185 y10_16_2_166 y10_16_3_167 y10_16_4_168 y10_19_2_169 y10_19_3_170 y10_19_4_171 n186 n187 z10_17_174 z10_18_175 z10_20_176 z10_21_177 (mm_wk mm_k1 (by decide)) w188 w189 ry10_16_2_166 ry10_16_4_168 ry10_19_2_169 ry10_19_4_171 w190 w191 rz10_17_174 rz10_18_175 rz10_20_176 rz10_21_177 (mm_muL hm10 (by decide)) H locs hP hD hS ls (lv_sub hl [0, 1, 2] rfl)
        · refine W.eq (g2 := F0 m 27 ls [.ref a_15]) rfl ?_
          refine lv_aload_n hx hb dX10_turnTo_27 rfl (lv_at hl 1 rfl) ?_
          refine va_get (D := G) (ci := 10) (v := .ref a_2) (C := RX10) (T := TX10) (N := 2) hx hb hts (mm_i inlX10) hown hK.1 hP 0 rfl rfl 0 (by decide) (mm_h hts mm_w87) (fun _ h9 => h9) rfl dX10_turnTo_28 ?_
          refine lv_iload_n hx hb dX10_turnTo_31 rfl (lv_at hl 0 rfl) ?_
          refine mm_finv (va_runV (As := [.ref a_2, .int 1]) (rest := []) ⟨hx, hb, hml, hown, hts⟩ (K340_X1_lay l G cy H.size a_15 a_2 1 i_17 i_18 i_19 i_20 i_21 i_22 i_23 i_24 a_4 a_5 a_6 a_7 a_8 a_9 a_10 a_11 a_12 a_13 f_18 f_19 a_19 a_20 y10_16_2_166 y10_16_3_167 y10_16_4_168 z10_17_174 z10_18_175 (mm_wk mm_k1 (by decide)) h32 h38 h39 ry10_16_2_166 ry10_16_4_168 rz10_17_174 rz10_18_175) (cwV 2 hts (mm_gV mm_w391 mm_w392 mm_w393 mm_w91 mm_w394) rfl rfl rfl hd_X1_lay ⟨by rw [hRf]; exact Nat.le_of_ble_eq_true rfl, by rw [hRl]; exact Nat.le_of_ble_eq_true rfl⟩) (mm_preV hK hZ hS hA hP hD [1, 4, 5, 16, 17, 18] rfl rfl 16 rfl rfl rfl) rfl rfl hl.1 rfl (lv_room (Nat.le_of_ble_eq_true rfl)) dX10_turnTo_32 ⟨by rw [hRc]; exact Nat.le_of_ble_eq_true rfl, by rw [hRs]; exact Nat.le_of_ble_eq_true rfl⟩) hP hD hS hA (fun u : Int32 × Int32 × Int32 × (Nat → Int32) × (Nat → Int32) => [(a_0, .inr (10, [.ref a_2, .ref a_3])), (a_2, .inr (0, [.int i_17, .int i_18, .int i_19, .int i_20, .int i_21, .int i_22, .int i_23, .int i_24, .ref a_4, .ref a_5, .ref a_6, .ref a_7, .ref a_8, .ref a_9, .ref a_10, .ref a_11, .ref a_12, .ref a_13])), (a_4, .inl (cy 1, 9, .inl f_16)), (a_5, .inl (cy 1, 9, .inl f_17)), (a_6, .inl (cy 1, 3, .inl f_18)), (a_7, .inl (cy 1, 210, .inl f_19)), (a_8, .inl (cy 1, 6, .inl f_20)), (a_9, .inl (cy 1, 48, .inl f_21)), (a_10, .inl (cy 1, 30, .inl f_22)), (a_11, .inl (cy 1, 30, .inl f_23)), (a_12, .inl (cy 1, 30, .inl f_24)), (a_13, .inl (cy 1, 30, .inl f_25)), (a_3, .inl (cy 5, 3, .inr (.inr (.inr (.inr (va_up (va_up (va_up (fun _ => none) 0 (some a_14)) 1 (some a_15)) 2 (some a_16))))))), (a_14, .inr (1, [.ref a_17, .ref a_18, .int y10_13_2_163, .int y10_13_3_164, .int y10_13_4_165])), (a_17, .inl (cy 1, 2100, .inl z10_14_172)), (a_18, .inl (cy 1, 10, .inl z10_15_173)), (a_15, .inr (1, [.ref a_19, .ref a_20, .int u.1, .int u.2.1, .int u.2.2.1])), (a_19, .inl (cy 1, 2100, .inl u.2.2.2.1)), (a_20, .inl (cy 1, 10, .inl u.2.2.2.2)), (a_16, .inr (1, [.ref a_21, .ref a_22, .int y10_19_2_169, .int y10_19_3_170, .int y10_19_4_171])), (a_21, .inl (cy 1, 2100, .inl z10_20_176)), (a_22, .inl (cy 1, 10, .inl z10_21_177)), (a_1, .inr (0, [.int i_17, .int i_18, .int i_19, .int i_20, .int i_21, .int i_22, .int i_23, .int i_24, .ref a_23, .ref a_24, .ref a_25, .ref a_26, .ref a_27, .ref a_28, .ref a_29, .ref a_30, .ref a_31, .ref a_32])), (a_23, .inl (cy 1, 9, .inl f_16)), (a_24, .inl (cy 1, 9, .inl f_17)), (a_25, .inl (cy 1, 3, .inl f_18)), (a_26, .inl (cy 1, 210, .inl f_19)), (a_27, .inl (cy 1, 6, .inl f_20)), (a_28, .inl (cy 1, 48, .inl f_21)), (a_29, .inl (cy 1, 30, .inl f_22)), (a_30, .inl (cy 1, 30, .inl f_23)), (a_31, .inl (cy 1, 30, .inl f_24)), (a_32, .inl (cy 1, 30, .inl f_25))]) [1, 4, 5, 16, 17, 18] [0, 2, 3, 6, 7, 8, 9, 10, 11, 12, 13, 14, 15, 19, 20, 21, 22, 23, 24, 25, 26, 27, 28, 29, 30, 31, 32] (n := 33) (fun _ => rfl) (by decide +kernel) (by decide +kernel) rfl (fun _ => rfl) (wr := [(a_0, .inr (10, [.ref a_2, .ref a_3])), (a_4, .inl (cy 1, 9, .inl f_16)), (a_5, .inl (cy 1, 9, .inl f_17)), (a_8, .inl (cy 1, 6, .inl f_20)), (a_9, .inl (cy 1, 48, .inl f_21)), (a_10, .inl (cy 1, 30, .inl f_22)), (a_11, .inl (cy 1, 30, .inl f_23)), (a_12, .inl (cy 1, 30, .inl f_24)), (a_13, .inl (cy 1, 30, .inl f_25)), (a_3, .inl (cy 5, 3, .inr (.inr (.inr (.inr (va_up (va_up (va_up (fun _ => none) 0 (some a_14)) 1 (some a_15)) 2 (some a_16))))))), (a_14, .inr (1, [.ref a_17, .ref a_18, .int y10_13_2_163, .int y10_13_3_164, .int y10_13_4_165])), (a_17, .inl (cy 1, 2100, .inl z10_14_172)), (a_18, .inl (cy 1, 10, .inl z10_15_173)), (a_16, .inr (1, [.ref a_21, .ref a_22, .int y10_19_2_169, .int y10_19_3_170, .int y10_19_4_171])), (a_21, .inl (cy 1, 2100, .inl z10_20_176)), (a_22, .inl (cy 1, 10, .inl z10_21_177)), (a_1, .inr (0, [.int i_17, .int i_18, .int i_19, .int i_20, .int i_21, .int i_22, .int i_23, .int i_24, .ref a_23, .ref a_24, .ref a_25, .ref a_26, .ref a_27, .ref a_28, .ref a_29, .ref a_30, .ref a_31, .ref a_32])), (a_23, .inl (cy 1, 9, .inl f_16)), (a_24, .inl (cy 1, 9, .inl f_17)), (a_25, .inl (cy 1, 3, .inl f_18)), (a_26, .inl (cy 1, 210, .inl f_19)), (a_27, .inl (cy 1, 6, .inl f_20)), (a_28, .inl (cy 1, 48, .inl f_21)), (a_29, .inl (cy 1, 30, .inl f_22)), (a_30, .inl (cy 1, 30, .inl f_23)), (a_31, .inl (cy 1, 30, .inl f_24)), (a_32, .inl (cy 1, 30, .inl f_25))]) rfl (fun _ => rfl) (fun _ => rfl) ?_
          clear hP hD hS
          clear H locs
          intro u
          obtain ⟨n192, n193, n194, n195, n196⟩ := u
          intro H locs hw (hP : va_P G vwCl [(a_0, .inr (10, [.ref a_2, .ref a_3])), (a_2, .inr (0, [.int i_17, .int i_18, .int i_19, .int i_20, .int i_21, .int i_22, .int i_23, .int i_24, .ref a_4, .ref a_5, .ref a_6, .ref a_7, .ref a_8, .ref a_9, .ref a_10, .ref a_11, .ref a_12, .ref a_13])), (a_4, .inl (cy 1, 9, .inl f_16)), (a_5, .inl (cy 1, 9, .inl f_17)), (a_6, .inl (cy 1, 3, .inl f_18)), (a_7, .inl (cy 1, 210, .inl f_19)), (a_8, .inl (cy 1, 6, .inl f_20)), (a_9, .inl (cy 1, 48, .inl f_21)), (a_10, .inl (cy 1, 30, .inl f_22)), (a_11, .inl (cy 1, 30, .inl f_23)), (a_12, .inl (cy 1, 30, .inl f_24)), (a_13, .inl (cy 1, 30, .inl f_25)), (a_3, .inl (cy 5, 3, .inr (.inr (.inr (.inr (va_up (va_up (va_up (fun _ => none) 0 (some a_14)) 1 (some a_15)) 2 (some a_16))))))), (a_14, .inr (1, [.ref a_17, .ref a_18, .int y10_13_2_163, .int y10_13_3_164, .int y10_13_4_165])), (a_17, .inl (cy 1, 2100, .inl z10_14_172)), (a_18, .inl (cy 1, 10, .inl z10_15_173)), (a_15, .inr (1, [.ref a_19, .ref a_20, .int n192, .int n193, .int n194])), (a_19, .inl (cy 1, 2100, .inl n195)), (a_20, .inl (cy 1, 10, .inl n196)), (a_16, .inr (1, [.ref a_21, .ref a_22, .int y10_19_2_169, .int y10_19_3_170, .int y10_19_4_171])), (a_21, .inl (cy 1, 2100, .inl z10_20_176)), (a_22, .inl (cy 1, 10, .inl z10_21_177)), (a_1, .inr (0, [.int i_17, .int i_18, .int i_19, .int i_20, .int i_21, .int i_22, .int i_23, .int i_24, .ref a_23, .ref a_24, .ref a_25, .ref a_26, .ref a_27, .ref a_28, .ref a_29, .ref a_30, .ref a_31, .ref a_32])), (a_23, .inl (cy 1, 9, .inl f_16)), (a_24, .inl (cy 1, 9, .inl f_17)), (a_25, .inl (cy 1, 3, .inl f_18)), (a_26, .inl (cy 1, 210, .inl f_19)), (a_27, .inl (cy 1, 6, .inl f_20)), (a_28, .inl (cy 1, 48, .inl f_21)), (a_29, .inl (cy 1, 30, .inl f_22)), (a_30, .inl (cy 1, 30, .inl f_23)), (a_31, .inl (cy 1, 30, .inl f_24)), (a_32, .inl (cy 1, 30, .inl f_25))] H) (hD : va_D A [(a_0, .inr (10, [.ref a_2, .ref a_3])), (a_2, .inr (0, [.int i_17, .int i_18, .int i_19, .int i_20, .int i_21, .int i_22, .int i_23, .int i_24, .ref a_4, .ref a_5, .ref a_6, .ref a_7, .ref a_8, .ref a_9, .ref a_10, .ref a_11, .ref a_12, .ref a_13])), (a_4, .inl (cy 1, 9, .inl f_16)), (a_5, .inl (cy 1, 9, .inl f_17)), (a_6, .inl (cy 1, 3, .inl f_18)), (a_7, .inl (cy 1, 210, .inl f_19)), (a_8, .inl (cy 1, 6, .inl f_20)), (a_9, .inl (cy 1, 48, .inl f_21)), (a_10, .inl (cy 1, 30, .inl f_22)), (a_11, .inl (cy 1, 30, .inl f_23)), (a_12, .inl (cy 1, 30, .inl f_24)), (a_13, .inl (cy 1, 30, .inl f_25)), (a_3, .inl (cy 5, 3, .inr (.inr (.inr (.inr (va_up (va_up (va_up (fun _ => none) 0 (some a_14)) 1 (some a_15)) 2 (some a_16))))))), (a_14, .inr (1, [.ref a_17, .ref a_18, .int y10_13_2_163, .int y10_13_3_164, .int y10_13_4_165])), (a_17, .inl (cy 1, 2100, .inl z10_14_172)), (a_18, .inl (cy 1, 10, .inl z10_15_173)), (a_15, .inr (1, [.ref a_19, .ref a_20, .int n192, .int n193, .int n194])), (a_19, .inl (cy 1, 2100, .inl n195)), (a_20, .inl (cy 1, 10, .inl n196)), (a_16, .inr (1, [.ref a_21, .ref a_22, .int y10_19_2_169, .int y10_19_3_170, .int y10_19_4_171])), (a_21, .inl (cy 1, 2100, .inl z10_20_176)), (a_22, .inl (cy 1, 10, .inl z10_21_177)), (a_1, .inr (0, [.int i_17, .int i_18, .int i_19, .int i_20, .int i_21, .int i_22, .int i_23, .int i_24, .ref a_23, .ref a_24, .ref a_25, .ref a_26, .ref a_27, .ref a_28, .ref a_29, .ref a_30, .ref a_31, .ref a_32])), (a_23, .inl (cy 1, 9, .inl f_16)), (a_24, .inl (cy 1, 9, .inl f_17)), (a_25, .inl (cy 1, 3, .inl f_18)), (a_26, .inl (cy 1, 210, .inl f_19)), (a_27, .inl (cy 1, 6, .inl f_20)), (a_28, .inl (cy 1, 48, .inl f_21)), (a_29, .inl (cy 1, 30, .inl f_22)), (a_30, .inl (cy 1, 30, .inl f_23)), (a_31, .inl (cy 1, 30, .inl f_24)), (a_32, .inl (cy 1, 30, .inl f_25))]) hS
          obtain ⟨w197, w198, w199, w200⟩ := hw
          refine lv_iinc (v := 2) (lv' := [(2, .int 2), (0, .ref a_0), (1, .ref a_1)]) hx hb dX10_turnTo_35 hl (k := 0) rfl (by decide) (by decide) rfl ?_
          clear hl
          clear ls
          intro ls hl
          refine lv_goto (tgt := 10) hx hb dX10_turnTo_38 (by decide) ?_
          exact ih10 2 y10_13_2_163 y10_13_3_164 y10_13_4_165 n192 n193 n194 y10_19_2_169 y10_19_3_170 y10_19_4_171 z10_14_172 z10_15_173 n195 n196 z10_20_176 z10_21_177 (mm_wk mm_k2 (by decide)) ry10_13_2_163 ry10_13_4_165 w197 w198 ry10_19_2_169 ry10_19_4_171 rz10_14_172 rz10_15_173 w199 w200 rz10_20_176 rz10_21_177 (mm_muL hm10 (by decide)) H locs hP hD hS ls (lv_sub hl [0, 1, 2] rfl)
        · refine W.eq (g2 := F0 m 27 ls [.ref a_16]) rfl ?_
          refine lv_aload_n hx hb dX10_turnTo_27 rfl (lv_at hl 1 rfl) ?_
          refine va_get (D := G) (ci := 10) (v := .ref a_2) (C := RX10) (T := TX10) (N := 2) hx hb hts (mm_i inlX10) hown hK.1 hP 0 rfl rfl 0 (by decide) (mm_h hts mm_w87) (fun _ h9 => h9) rfl dX10_turnTo_28 ?_
          refine lv_iload_n hx hb dX10_turnTo_31 rfl (lv_at hl 0 rfl) ?_
          refine mm_finv (va_runV (As := [.ref a_2, .int 2]) (rest := []) ⟨hx, hb, hml, hown, hts⟩ (K340_X1_lay l G cy H.size a_16 a_2 2 i_17 i_18 i_19 i_20 i_21 i_22 i_23 i_24 a_4 a_5 a_6 a_7 a_8 a_9 a_10 a_11 a_12 a_13 f_18 f_19 a_21 a_22 y10_19_2_169 y10_19_3_170 y10_19_4_171 z10_20_176 z10_21_177 (mm_wk mm_k2 (by decide)) h32 h38 h39 ry10_19_2_169 ry10_19_4_171 rz10_20_176 rz10_21_177) (cwV 2 hts (mm_gV mm_w391 mm_w392 mm_w393 mm_w91 mm_w394) rfl rfl rfl hd_X1_lay ⟨by rw [hRf]; exact Nat.le_of_ble_eq_true rfl, by rw [hRl]; exact Nat.le_of_ble_eq_true rfl⟩) (mm_preV hK hZ hS hA hP hD [1, 4, 5, 19, 20, 21] rfl rfl 19 rfl rfl rfl) rfl rfl hl.1 rfl (lv_room (Nat.le_of_ble_eq_true rfl)) dX10_turnTo_32 ⟨by rw [hRc]; exact Nat.le_of_ble_eq_true rfl, by rw [hRs]; exact Nat.le_of_ble_eq_true rfl⟩) hP hD hS hA (fun u : Int32 × Int32 × Int32 × (Nat → Int32) × (Nat → Int32) => [(a_0, .inr (10, [.ref a_2, .ref a_3])), (a_2, .inr (0, [.int i_17, .int i_18, .int i_19, .int i_20, .int i_21, .int i_22, .int i_23, .int i_24, .ref a_4, .ref a_5, .ref a_6, .ref a_7, .ref a_8, .ref a_9, .ref a_10, .ref a_11, .ref a_12, .ref a_13])), (a_4, .inl (cy 1, 9, .inl f_16)), (a_5, .inl (cy 1, 9, .inl f_17)), (a_6, .inl (cy 1, 3, .inl f_18)), (a_7, .inl (cy 1, 210, .inl f_19)), (a_8, .inl (cy 1, 6, .inl f_20)), (a_9, .inl (cy 1, 48, .inl f_21)), (a_10, .inl (cy 1, 30, .inl f_22)), (a_11, .inl (cy 1, 30, .inl f_23)), (a_12, .inl (cy 1, 30, .inl f_24)), (a_13, .inl (cy 1, 30, .inl f_25)), (a_3, .inl (cy 5, 3, .inr (.inr (.inr (.inr (va_up (va_up (va_up (fun _ => none) 0 (some a_14)) 1 (some a_15)) 2 (some a_16))))))), (a_14, .inr (1, [.ref a_17, .ref a_18, .int y10_13_2_163, .int y10_13_3_164, .int y10_13_4_165])), (a_17, .inl (cy 1, 2100, .inl z10_14_172)), (a_18, .inl (cy 1, 10, .inl z10_15_173)), (a_15, .inr (1, [.ref a_19, .ref a_20, .int y10_16_2_166, .int y10_16_3_167, .int y10_16_4_168])), (a_19, .inl (cy 1, 2100, .inl z10_17_174)), (a_20, .inl (cy 1, 10, .inl z10_18_175)), (a_16, .inr (1, [.ref a_21, .ref a_22, .int u.1, .int u.2.1, .int u.2.2.1])), (a_21, .inl (cy 1, 2100, .inl u.2.2.2.1)), (a_22, .inl (cy 1, 10, .inl u.2.2.2.2)), (a_1, .inr (0, [.int i_17, .int i_18, .int i_19, .int i_20, .int i_21, .int i_22, .int i_23, .int i_24, .ref a_23, .ref a_24, .ref a_25, .ref a_26, .ref a_27, .ref a_28, .ref a_29, .ref a_30, .ref a_31, .ref a_32])), (a_23, .inl (cy 1, 9, .inl f_16)), (a_24, .inl (cy 1, 9, .inl f_17)), (a_25, .inl (cy 1, 3, .inl f_18)), (a_26, .inl (cy 1, 210, .inl f_19)), (a_27, .inl (cy 1, 6, .inl f_20)), (a_28, .inl (cy 1, 48, .inl f_21)), (a_29, .inl (cy 1, 30, .inl f_22)), (a_30, .inl (cy 1, 30, .inl f_23)), (a_31, .inl (cy 1, 30, .inl f_24)), (a_32, .inl (cy 1, 30, .inl f_25))]) [1, 4, 5, 19, 20, 21] [0, 2, 3, 6, 7, 8, 9, 10, 11, 12, 13, 14, 15, 16, 17, 18, 22, 23, 24, 25, 26, 27, 28, 29, 30, 31, 32] (n := 33) (fun _ => rfl) (by decide +kernel) (by decide +kernel) rfl (fun _ => rfl) (wr := [(a_0, .inr (10, [.ref a_2, .ref a_3])), (a_4, .inl (cy 1, 9, .inl f_16)), (a_5, .inl (cy 1, 9, .inl f_17)), (a_8, .inl (cy 1, 6, .inl f_20)), (a_9, .inl (cy 1, 48, .inl f_21)), (a_10, .inl (cy 1, 30, .inl f_22)), (a_11, .inl (cy 1, 30, .inl f_23)), (a_12, .inl (cy 1, 30, .inl f_24)), (a_13, .inl (cy 1, 30, .inl f_25)), (a_3, .inl (cy 5, 3, .inr (.inr (.inr (.inr (va_up (va_up (va_up (fun _ => none) 0 (some a_14)) 1 (some a_15)) 2 (some a_16))))))), (a_14, .inr (1, [.ref a_17, .ref a_18, .int y10_13_2_163, .int y10_13_3_164, .int y10_13_4_165])), (a_17, .inl (cy 1, 2100, .inl z10_14_172)), (a_18, .inl (cy 1, 10, .inl z10_15_173)), (a_15, .inr (1, [.ref a_19, .ref a_20, .int y10_16_2_166, .int y10_16_3_167, .int y10_16_4_168])), (a_19, .inl (cy 1, 2100, .inl z10_17_174)), (a_20, .inl (cy 1, 10, .inl z10_18_175)), (a_1, .inr (0, [.int i_17, .int i_18, .int i_19, .int i_20, .int i_21, .int i_22, .int i_23, .int i_24, .ref a_23, .ref a_24, .ref a_25, .ref a_26, .ref a_27, .ref a_28, .ref a_29, .ref a_30, .ref a_31, .ref a_32])), (a_23, .inl (cy 1, 9, .inl f_16)), (a_24, .inl (cy 1, 9, .inl f_17)), (a_25, .inl (cy 1, 3, .inl f_18)), (a_26, .inl (cy 1, 210, .inl f_19)), (a_27, .inl (cy 1, 6, .inl f_20)), (a_28, .inl (cy 1, 48, .inl f_21)), (a_29, .inl (cy 1, 30, .inl f_22)), (a_30, .inl (cy 1, 30, .inl f_23)), (a_31, .inl (cy 1, 30, .inl f_24)), (a_32, .inl (cy 1, 30, .inl f_25))]) rfl (fun _ => rfl) (fun _ => rfl) ?_
          clear hP hD hS
          clear H locs
          intro u
          obtain ⟨n201, n202, n203, n204, n205⟩ := u
          intro H locs hw (hP : va_P G vwCl [(a_0, .inr (10, [.ref a_2, .ref a_3])), (a_2, .inr (0, [.int i_17, .int i_18, .int i_19, .int i_20, .int i_21, .int i_22, .int i_23, .int i_24, .ref a_4, .ref a_5, .ref a_6, .ref a_7, .ref a_8, .ref a_9, .ref a_10, .ref a_11, .ref a_12, .ref a_13])), (a_4, .inl (cy 1, 9, .inl f_16)), (a_5, .inl (cy 1, 9, .inl f_17)), (a_6, .inl (cy 1, 3, .inl f_18)), (a_7, .inl (cy 1, 210, .inl f_19)), (a_8, .inl (cy 1, 6, .inl f_20)), (a_9, .inl (cy 1, 48, .inl f_21)), (a_10, .inl (cy 1, 30, .inl f_22)), (a_11, .inl (cy 1, 30, .inl f_23)), (a_12, .inl (cy 1, 30, .inl f_24)), (a_13, .inl (cy 1, 30, .inl f_25)), (a_3, .inl (cy 5, 3, .inr (.inr (.inr (.inr (va_up (va_up (va_up (fun _ => none) 0 (some a_14)) 1 (some a_15)) 2 (some a_16))))))), (a_14, .inr (1, [.ref a_17, .ref a_18, .int y10_13_2_163, .int y10_13_3_164, .int y10_13_4_165])), (a_17, .inl (cy 1, 2100, .inl z10_14_172)), (a_18, .inl (cy 1, 10, .inl z10_15_173)), (a_15, .inr (1, [.ref a_19, .ref a_20, .int y10_16_2_166, .int y10_16_3_167, .int y10_16_4_168])), (a_19, .inl (cy 1, 2100, .inl z10_17_174)), (a_20, .inl (cy 1, 10, .inl z10_18_175)), (a_16, .inr (1, [.ref a_21, .ref a_22, .int n201, .int n202, .int n203])), (a_21, .inl (cy 1, 2100, .inl n204)), (a_22, .inl (cy 1, 10, .inl n205)), (a_1, .inr (0, [.int i_17, .int i_18, .int i_19, .int i_20, .int i_21, .int i_22, .int i_23, .int i_24, .ref a_23, .ref a_24, .ref a_25, .ref a_26, .ref a_27, .ref a_28, .ref a_29, .ref a_30, .ref a_31, .ref a_32])), (a_23, .inl (cy 1, 9, .inl f_16)), (a_24, .inl (cy 1, 9, .inl f_17)), (a_25, .inl (cy 1, 3, .inl f_18)), (a_26, .inl (cy 1, 210, .inl f_19)), (a_27, .inl (cy 1, 6, .inl f_20)), (a_28, .inl (cy 1, 48, .inl f_21)), (a_29, .inl (cy 1, 30, .inl f_22)), (a_30, .inl (cy 1, 30, .inl f_23)), (a_31, .inl (cy 1, 30, .inl f_24)), (a_32, .inl (cy 1, 30, .inl f_25))] H) (hD : va_D A [(a_0, .inr (10, [.ref a_2, .ref a_3])), (a_2, .inr (0, [.int i_17, .int i_18, .int i_19, .int i_20, .int i_21, .int i_22, .int i_23, .int i_24, .ref a_4, .ref a_5, .ref a_6, .ref a_7, .ref a_8, .ref a_9, .ref a_10, .ref a_11, .ref a_12, .ref a_13])), (a_4, .inl (cy 1, 9, .inl f_16)), (a_5, .inl (cy 1, 9, .inl f_17)), (a_6, .inl (cy 1, 3, .inl f_18)), (a_7, .inl (cy 1, 210, .inl f_19)), (a_8, .inl (cy 1, 6, .inl f_20)), (a_9, .inl (cy 1, 48, .inl f_21)), (a_10, .inl (cy 1, 30, .inl f_22)), (a_11, .inl (cy 1, 30, .inl f_23)), (a_12, .inl (cy 1, 30, .inl f_24)), (a_13, .inl (cy 1, 30, .inl f_25)), (a_3, .inl (cy 5, 3, .inr (.inr (.inr (.inr (va_up (va_up (va_up (fun _ => none) 0 (some a_14)) 1 (some a_15)) 2 (some a_16))))))), (a_14, .inr (1, [.ref a_17, .ref a_18, .int y10_13_2_163, .int y10_13_3_164, .int y10_13_4_165])), (a_17, .inl (cy 1, 2100, .inl z10_14_172)), (a_18, .inl (cy 1, 10, .inl z10_15_173)), (a_15, .inr (1, [.ref a_19, .ref a_20, .int y10_16_2_166, .int y10_16_3_167, .int y10_16_4_168])), (a_19, .inl (cy 1, 2100, .inl z10_17_174)), (a_20, .inl (cy 1, 10, .inl z10_18_175)), (a_16, .inr (1, [.ref a_21, .ref a_22, .int n201, .int n202, .int n203])), (a_21, .inl (cy 1, 2100, .inl n204)), (a_22, .inl (cy 1, 10, .inl n205)), (a_1, .inr (0, [.int i_17, .int i_18, .int i_19, .int i_20, .int i_21, .int i_22, .int i_23, .int i_24, .ref a_23, .ref a_24, .ref a_25, .ref a_26, .ref a_27, .ref a_28, .ref a_29, .ref a_30, .ref a_31, .ref a_32])), (a_23, .inl (cy 1, 9, .inl f_16)), (a_24, .inl (cy 1, 9, .inl f_17)), (a_25, .inl (cy 1, 3, .inl f_18)), (a_26, .inl (cy 1, 210, .inl f_19)), (a_27, .inl (cy 1, 6, .inl f_20)), (a_28, .inl (cy 1, 48, .inl f_21)), (a_29, .inl (cy 1, 30, .inl f_22)), (a_30, .inl (cy 1, 30, .inl f_23)), (a_31, .inl (cy 1, 30, .inl f_24)), (a_32, .inl (cy 1, 30, .inl f_25))]) hS
          obtain ⟨w206, w207, w208, w209⟩ := hw
          refine lv_iinc (v := 3) (lv' := [(2, .int 3), (0, .ref a_0), (1, .ref a_1)]) hx hb dX10_turnTo_35 hl (k := 0) rfl (by decide) (by decide) rfl ?_
          clear hl
          clear ls
          intro ls hl
          refine lv_goto (tgt := 10) hx hb dX10_turnTo_38 (by decide) ?_
          exact ih10 3 y10_13_2_163 y10_13_3_164 y10_13_4_165 y10_16_2_166 y10_16_3_167 y10_16_4_168 n201 n202 n203 z10_14_172 z10_15_173 z10_17_174 z10_18_175 n204 n205 (mm_wk mm_k3 (by decide)) ry10_13_2_163 ry10_13_4_165 ry10_16_2_166 ry10_16_4_168 w206 w207 rz10_14_172 rz10_15_173 rz10_17_174 rz10_18_175 w208 w209 (mm_muL hm10 (by decide)) H locs hP hD hS ls (lv_sub hl [0, 1, 2] rfl)
  exact L10_177 _ 0 i_8 i_9 i_10 i_11 i_12 i_13 i_14 i_15 i_16 f_10 f_11 f_12 f_13 f_14 f_15 (mm_wk mm_k0 (by decide)) h17 h18 h21 h22 h25 h26 h19 h20 h23 h24 h27 h28 (Nat.lt_succ_self _) H locs hP hD hS ls (lv_sub hl [0, 1, 2] rfl)

set_option maxHeartbeats 4000000 in
set_option maxRecDepth 100000 in
theorem K535_X11_back (l : Launch) (G : va_G) (cy : Nat → ClassId) (sz : Nat) (a_0 : Nat) (i_0 : Int32) (a_1 : Nat) (a_2 : Nat) (a_3 : Nat) (a_4 : Nat) (a_5 : Nat) (a_6 : Nat) (a_7 : Nat) (a_8 : Nat) (a_9 : Nat) (a_10 : Nat) (a_11 : Nat) (a_12 : Nat) (a_13 : Nat) (i_1 : Int32) (i_2 : Int32) (i_3 : Int32) (i_4 : Int32) (i_5 : Int32) (i_6 : Int32) (i_7 : Int32) (i_8 : Int32) (a_14 : Nat) (a_15 : Nat) (a_16 : Nat) (a_17 : Nat) (a_18 : Nat) (a_19 : Nat) (a_20 : Nat) (a_21 : Nat) (a_22 : Nat) (a_23 : Nat) (f_0 : Nat → Int32) (f_1 : Nat → Int32) (f_2 : Nat → Int32) (f_3 : Nat → Int32) (f_4 : Nat → Int32) (f_5 : Nat → Int32) (f_6 : Nat → Int32) (f_7 : Nat → Int32) (f_8 : Nat → Int32) (f_9 : Nat → Int32) (a_24 : Nat) (a_25 : Nat) (a_26 : Nat) (a_27 : Nat) (a_28 : Nat) (i_9 : Int32) (i_10 : Int32) (i_11 : Int32) (f_10 : Nat → Int32) (f_11 : Nat → Int32) (a_29 : Nat) (a_30 : Nat) (i_12 : Int32) (i_13 : Int32) (i_14 : Int32) (f_12 : Nat → Int32) (f_13 : Nat → Int32) (a_31 : Nat) (a_32 : Nat) (i_15 : Int32) (i_16 : Int32) (i_17 : Int32) (f_14 : Nat → Int32) (f_15 : Nat → Int32) (a_33 : Nat) (a_34 : Nat) (a_35 : Nat) (i_18 : Int32) (i_19 : Int32) (i_20 : Int32) (i_21 : Int32) (i_22 : Int32) (i_23 : Int32) (i_24 : Int32) (i_25 : Int32) (a_36 : Nat) (a_37 : Nat) (a_38 : Nat) (a_39 : Nat) (a_40 : Nat) (a_41 : Nat) (a_42 : Nat) (a_43 : Nat) (a_44 : Nat) (a_45 : Nat) (f_16 : Nat → Int32) (f_17 : Nat → Int32) (f_18 : Nat → Int32) (f_19 : Nat → Int32) (f_20 : Nat → Int32) (f_21 : Nat → Int32) (f_22 : Nat → Int32) (f_23 : Nat → Int32) (f_24 : Nat → Int32) (f_25 : Nat → Int32) (i_26 : Int32) (i_27 : Int32) (i_28 : Int32) (i_29 : Int32) (i_30 : Int32) (i_31 : Int32) (i_32 : Int32) (i_33 : Int32) (a_46 : Nat) (a_47 : Nat) (a_48 : Nat) (a_49 : Nat) (a_50 : Nat) (a_51 : Nat) (a_52 : Nat) (a_53 : Nat) (a_54 : Nat) (a_55 : Nat) (f_26 : Nat → Int32) (f_27 : Nat → Int32) (f_28 : Nat → Int32) (f_29 : Nat → Int32) (f_30 : Nat → Int32) (f_31 : Nat → Int32) (f_32 : Nat → Int32) (f_33 : Nat → Int32) (f_34 : Nat → Int32) (f_35 : Nat → Int32) (i_34 : Int32) (i_35 : Int32) (i_36 : Int32) (i_37 : Int32) (i_38 : Int32) (i_39 : Int32) (i_40 : Int32) (i_41 : Int32) (a_56 : Nat) (a_57 : Nat) (a_58 : Nat) (a_59 : Nat) (a_60 : Nat) (a_61 : Nat) (a_62 : Nat) (a_63 : Nat) (a_64 : Nat) (a_65 : Nat) (f_36 : Nat → Int32) (f_37 : Nat → Int32) (f_38 : Nat → Int32) (f_39 : Nat → Int32) (f_40 : Nat → Int32) (f_41 : Nat → Int32) (f_42 : Nat → Int32) (f_43 : Nat → Int32) (f_44 : Nat → Int32) (f_45 : Nat → Int32) (f_46 : Nat → Int32) (h0 : mm_rg i_2 0 10) (h1 : mm_rg i_3 0 99) (h2 : mm_rg i_4 0 99) (h3 : mm_rg i_5 0 9) (h4 : mm_rg i_6 0 3) (h5 : mm_rg i_7 0 6) (h6 : mm_rg i_8 0 30) (h7 : mm_ar f_0 (-1) 4) (h8 : mm_ar f_1 0 99) (h9 : mm_ar f_2 0 7) (h10 : mm_ar f_3 0 9) (h11 : mm_ar f_4 0 8) (h12 : mm_ar f_5 0 9) (h13 : mm_ar f_6 0 9) (h14 : mm_ar f_7 (-1) 2) (h15 : mm_ar f_8 0 99) (h16 : mm_ar f_9 0 9) (h17 : mm_rg i_9 1 10) (h18 : mm_rg i_11 (-2147483648) 210) (h19 : mm_ar f_10 0 9) (h20 : mm_ar f_11 0 9) (h21 : mm_rg i_12 1 10) (h22 : mm_rg i_14 (-2147483648) 210) (h23 : mm_ar f_12 0 9) (h24 : mm_ar f_13 0 9) (h25 : mm_rg i_15 1 10) (h26 : mm_rg i_17 (-2147483648) 210) (h27 : mm_ar f_14 0 9) (h28 : mm_ar f_15 0 9) (h29 : mm_rg i_19 0 10) (h30 : mm_rg i_20 0 99) (h31 : mm_rg i_21 0 99) (h32 : mm_rg i_22 0 9) (h33 : mm_rg i_23 0 3) (h34 : mm_rg i_24 0 6) (h35 : mm_rg i_25 0 30) (h36 : mm_ar f_16 (-1) 4) (h37 : mm_ar f_17 0 99) (h38 : mm_ar f_18 0 7) (h39 : mm_ar f_19 0 9) (h40 : mm_ar f_20 0 8) (h41 : mm_ar f_21 0 9) (h42 : mm_ar f_22 0 9) (h43 : mm_ar f_23 (-1) 2) (h44 : mm_ar f_24 0 99) (h45 : mm_ar f_25 0 9) (h46 : mm_rg i_27 0 10) (h47 : mm_rg i_28 0 99) (h48 : mm_rg i_29 0 99) (h49 : mm_rg i_30 0 9) (h50 : mm_rg i_31 0 3) (h51 : mm_rg i_32 0 6) (h52 : mm_rg i_33 0 30) (h53 : mm_ar f_26 (-1) 4) (h54 : mm_ar f_27 0 99) (h55 : mm_ar f_28 0 7) (h56 : mm_ar f_29 0 9) (h57 : mm_ar f_30 0 8) (h58 : mm_ar f_31 0 9) (h59 : mm_ar f_32 0 9) (h60 : mm_ar f_33 (-1) 2) (h61 : mm_ar f_34 0 99) (h62 : mm_ar f_35 0 9) (h63 : mm_rg i_35 0 10) (h64 : mm_rg i_36 0 99) (h65 : mm_rg i_37 0 99) (h66 : mm_rg i_38 0 9) (h67 : mm_rg i_39 0 3) (h68 : mm_rg i_40 0 6) (h69 : mm_rg i_41 0 30) (h70 : mm_ar f_36 (-1) 4) (h71 : mm_ar f_37 0 99) (h72 : mm_ar f_38 0 7) (h73 : mm_ar f_39 0 9) (h74 : mm_ar f_40 0 8) (h75 : mm_ar f_41 0 9) (h76 : mm_ar f_42 0 9) (h77 : mm_ar f_43 (-1) 2) (h78 : mm_ar f_44 0 99) (h79 : mm_ar f_45 0 9) (h80 : mm_ar f_46 0 1) (h81 : mm_act f_7 f_8) (h82 : mm_act f_23 f_24) (h83 : mm_act f_33 f_34) (h84 : mm_act f_43 f_44)  : mm_CI l yX11_back (mm_ws yX11_back cX11_back 2 (some .int)) ({ frames := 5, cells := 0, slots := 0, locals := 128 } : Room) G cy sz [(a_0, .inr (11, [.ref a_1, .ref a_2, .ref a_3, .ref a_4, .ref a_5, .ref a_6, .ref a_7, .ref a_8, .ref a_9, .ref a_10, .ref a_11])), (a_3, .inr (10, [.ref a_12, .ref a_13])), (a_12, .inr (0, [.int i_1, .int i_2, .int i_3, .int i_4, .int i_5, .int i_6, .int i_7, .int i_8, .ref a_14, .ref a_15, .ref a_16, .ref a_17, .ref a_18, .ref a_19, .ref a_20, .ref a_21, .ref a_22, .ref a_23])), (a_14, .inl (cy 1, 9, .inl f_0)), (a_15, .inl (cy 1, 9, .inl f_1)), (a_16, .inl (cy 1, 3, .inl f_2)), (a_17, .inl (cy 1, 210, .inl f_3)), (a_18, .inl (cy 1, 6, .inl f_4)), (a_19, .inl (cy 1, 48, .inl f_5)), (a_20, .inl (cy 1, 30, .inl f_6)), (a_21, .inl (cy 1, 30, .inl f_7)), (a_22, .inl (cy 1, 30, .inl f_8)), (a_23, .inl (cy 1, 30, .inl f_9)), (a_13, .inl (cy 5, 3, .inr (.inr (.inr (.inr (va_up (va_up (va_up (fun _ => none) 0 (some a_24)) 1 (some a_25)) 2 (some a_26))))))), (a_24, .inr (1, [.ref a_27, .ref a_28, .int i_9, .int i_10, .int i_11])), (a_27, .inl (cy 1, 2100, .inl f_10)), (a_28, .inl (cy 1, 10, .inl f_11)), (a_25, .inr (1, [.ref a_29, .ref a_30, .int i_12, .int i_13, .int i_14])), (a_29, .inl (cy 1, 2100, .inl f_12)), (a_30, .inl (cy 1, 10, .inl f_13)), (a_26, .inr (1, [.ref a_31, .ref a_32, .int i_15, .int i_16, .int i_17])), (a_31, .inl (cy 1, 2100, .inl f_14)), (a_32, .inl (cy 1, 10, .inl f_15)), (a_4, .inl (cy 4, 3, .inr (.inr (.inr (.inr (va_up (va_up (va_up (fun _ => none) 0 (some a_33)) 1 (some a_34)) 2 (some a_35))))))), (a_33, .inr (0, [.int i_18, .int i_19, .int i_20, .int i_21, .int i_22, .int i_23, .int i_24, .int i_25, .ref a_36, .ref a_37, .ref a_38, .ref a_39, .ref a_40, .ref a_41, .ref a_42, .ref a_43, .ref a_44, .ref a_45])), (a_36, .inl (cy 1, 9, .inl f_16)), (a_37, .inl (cy 1, 9, .inl f_17)), (a_38, .inl (cy 1, 3, .inl f_18)), (a_39, .inl (cy 1, 210, .inl f_19)), (a_40, .inl (cy 1, 6, .inl f_20)), (a_41, .inl (cy 1, 48, .inl f_21)), (a_42, .inl (cy 1, 30, .inl f_22)), (a_43, .inl (cy 1, 30, .inl f_23)), (a_44, .inl (cy 1, 30, .inl f_24)), (a_45, .inl (cy 1, 30, .inl f_25)), (a_34, .inr (0, [.int i_26, .int i_27, .int i_28, .int i_29, .int i_30, .int i_31, .int i_32, .int i_33, .ref a_46, .ref a_47, .ref a_48, .ref a_49, .ref a_50, .ref a_51, .ref a_52, .ref a_53, .ref a_54, .ref a_55])), (a_46, .inl (cy 1, 9, .inl f_26)), (a_47, .inl (cy 1, 9, .inl f_27)), (a_48, .inl (cy 1, 3, .inl f_28)), (a_49, .inl (cy 1, 210, .inl f_29)), (a_50, .inl (cy 1, 6, .inl f_30)), (a_51, .inl (cy 1, 48, .inl f_31)), (a_52, .inl (cy 1, 30, .inl f_32)), (a_53, .inl (cy 1, 30, .inl f_33)), (a_54, .inl (cy 1, 30, .inl f_34)), (a_55, .inl (cy 1, 30, .inl f_35)), (a_35, .inr (0, [.int i_34, .int i_35, .int i_36, .int i_37, .int i_38, .int i_39, .int i_40, .int i_41, .ref a_56, .ref a_57, .ref a_58, .ref a_59, .ref a_60, .ref a_61, .ref a_62, .ref a_63, .ref a_64, .ref a_65])), (a_56, .inl (cy 1, 9, .inl f_36)), (a_57, .inl (cy 1, 9, .inl f_37)), (a_58, .inl (cy 1, 3, .inl f_38)), (a_59, .inl (cy 1, 210, .inl f_39)), (a_60, .inl (cy 1, 6, .inl f_40)), (a_61, .inl (cy 1, 48, .inl f_41)), (a_62, .inl (cy 1, 30, .inl f_42)), (a_63, .inl (cy 1, 30, .inl f_43)), (a_64, .inl (cy 1, 30, .inl f_44)), (a_65, .inl (cy 1, 30, .inl f_45)), (a_5, .inl (cy 3, 3, .inl f_46))] [.ref a_0, .int i_0] (fun u : Int32 × Int32 × Int32 × Int32 × Int32 × Int32 × Int32 × Int32 × (Nat → Int32) × (Nat → Int32) × (Nat → Int32) × (Nat → Int32) × (Nat → Int32) × (Nat → Int32) × (Nat → Int32) × (Nat → Int32) × (Nat → Int32) × (Nat → Int32) × Int32 × Int32 × Int32 × (Nat → Int32) × (Nat → Int32) × Int32 × Int32 × Int32 × (Nat → Int32) × (Nat → Int32) × Int32 × Int32 × Int32 × (Nat → Int32) × (Nat → Int32) => [(a_0, .inr (11, [.ref a_1, .ref a_2, .ref a_3, .ref a_4, .ref a_5, .ref a_6, .ref a_7, .ref a_8, .ref a_9, .ref a_10, .ref a_11])), (a_3, .inr (10, [.ref a_12, .ref a_13])), (a_12, .inr (0, [.int u.1, .int u.2.1, .int u.2.2.1, .int u.2.2.2.1, .int u.2.2.2.2.1, .int u.2.2.2.2.2.1, .int u.2.2.2.2.2.2.1, .int u.2.2.2.2.2.2.2.1, .ref a_14, .ref a_15, .ref a_16, .ref a_17, .ref a_18, .ref a_19, .ref a_20, .ref a_21, .ref a_22, .ref a_23])), (a_14, .inl (cy 1, 9, .inl u.2.2.2.2.2.2.2.2.1)), (a_15, .inl (cy 1, 9, .inl u.2.2.2.2.2.2.2.2.2.1)), (a_16, .inl (cy 1, 3, .inl u.2.2.2.2.2.2.2.2.2.2.1)), (a_17, .inl (cy 1, 210, .inl u.2.2.2.2.2.2.2.2.2.2.2.1)), (a_18, .inl (cy 1, 6, .inl u.2.2.2.2.2.2.2.2.2.2.2.2.1)), (a_19, .inl (cy 1, 48, .inl u.2.2.2.2.2.2.2.2.2.2.2.2.2.1)), (a_20, .inl (cy 1, 30, .inl u.2.2.2.2.2.2.2.2.2.2.2.2.2.2.1)), (a_21, .inl (cy 1, 30, .inl u.2.2.2.2.2.2.2.2.2.2.2.2.2.2.2.1)), (a_22, .inl (cy 1, 30, .inl u.2.2.2.2.2.2.2.2.2.2.2.2.2.2.2.2.1)), (a_23, .inl (cy 1, 30, .inl u.2.2.2.2.2.2.2.2.2.2.2.2.2.2.2.2.2.1)), (a_13, .inl (cy 5, 3, .inr (.inr (.inr (.inr (va_up (va_up (va_up (fun _ => none) 0 (some a_24)) 1 (some a_25)) 2 (some a_26))))))), (a_24, .inr (1, [.ref a_27, .ref a_28, .int u.2.2.2.2.2.2.2.2.2.2.2.2.2.2.2.2.2.2.1, .int u.2.2.2.2.2.2.2.2.2.2.2.2.2.2.2.2.2.2.2.1, .int u.2.2.2.2.2.2.2.2.2.2.2.2.2.2.2.2.2.2.2.2.1])), (a_27, .inl (cy 1, 2100, .inl u.2.2.2.2.2.2.2.2.2.2.2.2.2.2.2.2.2.2.2.2.2.1)), (a_28, .inl (cy 1, 10, .inl u.2.2.2.2.2.2.2.2.2.2.2.2.2.2.2.2.2.2.2.2.2.2.1)), (a_25, .inr (1, [.ref a_29, .ref a_30, .int u.2.2.2.2.2.2.2.2.2.2.2.2.2.2.2.2.2.2.2.2.2.2.2.1, .int u.2.2.2.2.2.2.2.2.2.2.2.2.2.2.2.2.2.2.2.2.2.2.2.2.1, .int u.2.2.2.2.2.2.2.2.2.2.2.2.2.2.2.2.2.2.2.2.2.2.2.2.2.1])), (a_29, .inl (cy 1, 2100, .inl u.2.2.2.2.2.2.2.2.2.2.2.2.2.2.2.2.2.2.2.2.2.2.2.2.2.2.1)), (a_30, .inl (cy 1, 10, .inl u.2.2.2.2.2.2.2.2.2.2.2.2.2.2.2.2.2.2.2.2.2.2.2.2.2.2.2.1)), (a_26, .inr (1, [.ref a_31, .ref a_32, .int u.2.2.2.2.2.2.2.2.2.2.2.2.2.2.2.2.2.2.2.2.2.2.2.2.2.2.2.2.1, .int u.2.2.2.2.2.2.2.2.2.2.2.2.2.2.2.2.2.2.2.2.2.2.2.2.2.2.2.2.2.1, .int u.2.2.2.2.2.2.2.2.2.2.2.2.2.2.2.2.2.2.2.2.2.2.2.2.2.2.2.2.2.2.1])), (a_31, .inl (cy 1, 2100, .inl u.2.2.2.2.2.2.2.2.2.2.2.2.2.2.2.2.2.2.2.2.2.2.2.2.2.2.2.2.2.2.2.1)), (a_32, .inl (cy 1, 10, .inl u.2.2.2.2.2.2.2.2.2.2.2.2.2.2.2.2.2.2.2.2.2.2.2.2.2.2.2.2.2.2.2.2)), (a_4, .inl (cy 4, 3, .inr (.inr (.inr (.inr (va_up (va_up (va_up (fun _ => none) 0 (some a_33)) 1 (some a_34)) 2 (some a_35))))))), (a_33, .inr (0, [.int i_18, .int i_19, .int i_20, .int i_21, .int i_22, .int i_23, .int i_24, .int i_25, .ref a_36, .ref a_37, .ref a_38, .ref a_39, .ref a_40, .ref a_41, .ref a_42, .ref a_43, .ref a_44, .ref a_45])), (a_36, .inl (cy 1, 9, .inl f_16)), (a_37, .inl (cy 1, 9, .inl f_17)), (a_38, .inl (cy 1, 3, .inl f_18)), (a_39, .inl (cy 1, 210, .inl f_19)), (a_40, .inl (cy 1, 6, .inl f_20)), (a_41, .inl (cy 1, 48, .inl f_21)), (a_42, .inl (cy 1, 30, .inl f_22)), (a_43, .inl (cy 1, 30, .inl f_23)), (a_44, .inl (cy 1, 30, .inl f_24)), (a_45, .inl (cy 1, 30, .inl f_25)), (a_34, .inr (0, [.int i_26, .int i_27, .int i_28, .int i_29, .int i_30, .int i_31, .int i_32, .int i_33, .ref a_46, .ref a_47, .ref a_48, .ref a_49, .ref a_50, .ref a_51, .ref a_52, .ref a_53, .ref a_54, .ref a_55])), (a_46, .inl (cy 1, 9, .inl f_26)), (a_47, .inl (cy 1, 9, .inl f_27)), (a_48, .inl (cy 1, 3, .inl f_28)), (a_49, .inl (cy 1, 210, .inl f_29)), (a_50, .inl (cy 1, 6, .inl f_30)), (a_51, .inl (cy 1, 48, .inl f_31)), (a_52, .inl (cy 1, 30, .inl f_32)), (a_53, .inl (cy 1, 30, .inl f_33)), (a_54, .inl (cy 1, 30, .inl f_34)), (a_55, .inl (cy 1, 30, .inl f_35)), (a_35, .inr (0, [.int i_34, .int i_35, .int i_36, .int i_37, .int i_38, .int i_39, .int i_40, .int i_41, .ref a_56, .ref a_57, .ref a_58, .ref a_59, .ref a_60, .ref a_61, .ref a_62, .ref a_63, .ref a_64, .ref a_65])), (a_56, .inl (cy 1, 9, .inl f_36)), (a_57, .inl (cy 1, 9, .inl f_37)), (a_58, .inl (cy 1, 3, .inl f_38)), (a_59, .inl (cy 1, 210, .inl f_39)), (a_60, .inl (cy 1, 6, .inl f_40)), (a_61, .inl (cy 1, 48, .inl f_41)), (a_62, .inl (cy 1, 30, .inl f_42)), (a_63, .inl (cy 1, 30, .inl f_43)), (a_64, .inl (cy 1, 30, .inl f_44)), (a_65, .inl (cy 1, 30, .inl f_45)), (a_5, .inl (cy 3, 3, .inl f_46))]) (fun (r : Int32) (u : Int32 × Int32 × Int32 × Int32 × Int32 × Int32 × Int32 × Int32 × (Nat → Int32) × (Nat → Int32) × (Nat → Int32) × (Nat → Int32) × (Nat → Int32) × (Nat → Int32) × (Nat → Int32) × (Nat → Int32) × (Nat → Int32) × (Nat → Int32) × Int32 × Int32 × Int32 × (Nat → Int32) × (Nat → Int32) × Int32 × Int32 × Int32 × (Nat → Int32) × (Nat → Int32) × Int32 × Int32 × Int32 × (Nat → Int32) × (Nat → Int32)) => mm_rg u.2.1 0 10 ∧ mm_rg u.2.2.1 0 99 ∧ mm_rg u.2.2.2.1 0 99 ∧ mm_rg u.2.2.2.2.1 0 9 ∧ mm_rg u.2.2.2.2.2.1 0 3 ∧ mm_rg u.2.2.2.2.2.2.1 0 6 ∧ mm_rg u.2.2.2.2.2.2.2.1 0 30 ∧ mm_ar u.2.2.2.2.2.2.2.2.1 (-1) 4 ∧ mm_ar u.2.2.2.2.2.2.2.2.2.1 0 99 ∧ mm_ar u.2.2.2.2.2.2.2.2.2.2.1 0 7 ∧ mm_ar u.2.2.2.2.2.2.2.2.2.2.2.1 0 9 ∧ mm_ar u.2.2.2.2.2.2.2.2.2.2.2.2.1 0 8 ∧ mm_ar u.2.2.2.2.2.2.2.2.2.2.2.2.2.1 0 9 ∧ mm_ar u.2.2.2.2.2.2.2.2.2.2.2.2.2.2.1 0 9 ∧ mm_ar u.2.2.2.2.2.2.2.2.2.2.2.2.2.2.2.1 (-1) 2 ∧ mm_ar u.2.2.2.2.2.2.2.2.2.2.2.2.2.2.2.2.1 0 99 ∧ mm_ar u.2.2.2.2.2.2.2.2.2.2.2.2.2.2.2.2.2.1 0 9 ∧ mm_rg u.2.2.2.2.2.2.2.2.2.2.2.2.2.2.2.2.2.2.1 1 10 ∧ mm_rg u.2.2.2.2.2.2.2.2.2.2.2.2.2.2.2.2.2.2.2.2.1 (-2147483648) 210 ∧ mm_ar u.2.2.2.2.2.2.2.2.2.2.2.2.2.2.2.2.2.2.2.2.2.1 0 9 ∧ mm_ar u.2.2.2.2.2.2.2.2.2.2.2.2.2.2.2.2.2.2.2.2.2.2.1 0 9 ∧ mm_rg u.2.2.2.2.2.2.2.2.2.2.2.2.2.2.2.2.2.2.2.2.2.2.2.1 1 10 ∧ mm_rg u.2.2.2.2.2.2.2.2.2.2.2.2.2.2.2.2.2.2.2.2.2.2.2.2.2.1 (-2147483648) 210 ∧ mm_ar u.2.2.2.2.2.2.2.2.2.2.2.2.2.2.2.2.2.2.2.2.2.2.2.2.2.2.1 0 9 ∧ mm_ar u.2.2.2.2.2.2.2.2.2.2.2.2.2.2.2.2.2.2.2.2.2.2.2.2.2.2.2.1 0 9 ∧ mm_rg u.2.2.2.2.2.2.2.2.2.2.2.2.2.2.2.2.2.2.2.2.2.2.2.2.2.2.2.2.1 1 10 ∧ mm_rg u.2.2.2.2.2.2.2.2.2.2.2.2.2.2.2.2.2.2.2.2.2.2.2.2.2.2.2.2.2.2.1 (-2147483648) 210 ∧ mm_ar u.2.2.2.2.2.2.2.2.2.2.2.2.2.2.2.2.2.2.2.2.2.2.2.2.2.2.2.2.2.2.2.1 0 9 ∧ mm_ar u.2.2.2.2.2.2.2.2.2.2.2.2.2.2.2.2.2.2.2.2.2.2.2.2.2.2.2.2.2.2.2.2 0 9 ∧ mm_act u.2.2.2.2.2.2.2.2.2.2.2.2.2.2.2.1 u.2.2.2.2.2.2.2.2.2.2.2.2.2.2.2.2.1 ∧ mm_rg r (-6) 0) 0 0 := by
  refine mm_begin (lv := [(0, .ref a_0), (1, .int i_0)]) (by decide) (Nat.le_of_ble_eq_true rfl) rfl ?_
  intro p e s m below meth c A ls R args Q H locs hRe hQ hAe hx hb hr hlocks hml hown hnm hts hsz hA hS hP hK hD hZ hl
  have hRf : R.frames = 5 := by rw [hRe]
  have hRl : R.locals = 128 := by rw [hRe]
  have hRc : R.cells = 0 := by rw [hRe]
  have hRs : R.slots = 0 := by rw [hRe]
  refine lv_iload_n hx hb dX11_back_0 rfl (lv_at hl 1 rfl) ?_
  refine lv_if_lt (tgt := 9) hx hb dX11_back_1 (by decide) (fun c1 => ?_) (fun c1 => ?_)
  · have q2 := mm_ltL (h := (-1)) (mm_lt c1) (mm_top i_0) mm_k0 (by decide)
    refine lv_bipush (v := (-2)) hx hb dX11_back_9 (by decide) ?_
    subst hAe
    rw [hQ]
    exact W.iret (v := (-2)) hx hb hr (fun t ht hW => ⟨⟨(-2), (i_1, i_2, i_3, i_4, i_5, i_6, i_7, i_8, f_0, f_1, f_2, f_3, f_4, f_5, f_6, f_7, f_8, f_9, i_9, i_10, i_11, f_10, f_11, i_12, i_13, i_14, f_12, f_13, i_15, i_16, i_17, f_14, f_15), rfl, ⟨h0, h1, h2, h3, h4, h5, h6, h7, h8, h9, h10, h11, h12, h13, h14, h15, h16, h17, h18, h19, h20, h21, h22, h23, h24, h25, h26, h27, h28, h81, (mm_wk mm_km2 (by decide))⟩, by rw [ht]; exact hP, hK.warm hW, hD⟩, hS.F ht⟩) hS.2.2 dX11_back_11
  · have q3 := mm_leR (mm_nlt c1) mm_k0 (mm_top i_0)
    refine lv_iload_n hx hb dX11_back_4 rfl (lv_at hl 1 rfl) ?_
    refine lv_iconst (v := 3) hx hb dX11_back_5 (by decide) ?_
    refine lv_icmp_lt (tgt := 12) hx hb dX11_back_6 (by decide) (fun c4 => ?_) (fun c4 => ?_)
    · have q5 := mm_ltL (h := 2) (mm_lt c4) q3 mm_k3 (by decide)
      refine lv_aload_n hx hb dX11_back_12 rfl (lv_at hl 0 rfl) ?_
      refine va_get (D := G) (ci := 11) (v := .ref a_5) (C := RX11) (T := TX11) (N := 11) hx hb hts (mm_i inlX11) hown hK.1 hP 0 rfl rfl 4 (by decide) (mm_h hts mm_w30) (fun _ h9 => h9) rfl dX11_back_13 ?_
      refine lv_iload_n hx hb dX11_back_16 rfl (lv_at hl 1 rfl) ?_
      refine va_zald hx hb hK.1 hP 57 3 rfl rfl (mm_in q5 (by decide)) dX11_back_17 ?_
      refine lv_topi (fun v6 ev6 => ?_)
      have rv6 : mm_rg v6 0 1 := mm_eqv ev6 (h80 _)
      refine lv_if_ne (tgt := 24) hx hb dX11_back_18 (by decide) (fun c7 => ?_) (fun c7 => ?_)
      · have q8 := mm_neL (lo := 1) (mm_ne c7) rv6 mm_k0 (by decide) (by decide)
        refine lv_aload_n hx hb dX11_back_24 rfl (lv_at hl 0 rfl) ?_
        refine va_get (D := G) (ci := 11) (v := .ref a_3) (C := RX11) (T := TX11) (N := 11) hx hb hts (mm_i inlX11) hown hK.1 hP 0 rfl rfl 2 (by decide) (mm_h hts mm_w24) (fun _ h9 => h9) rfl dX11_back_25 ?_
        refine lv_aload_n hx hb dX11_back_28 rfl (lv_at hl 0 rfl) ?_
        refine va_get (D := G) (ci := 11) (v := .ref a_4) (C := RX11) (T := TX11) (N := 11) hx hb hts (mm_i inlX11) hown hK.1 hP 0 rfl rfl 3 (by decide) (mm_h hts mm_w26) (fun _ h9 => h9) rfl dX11_back_29 ?_
        refine lv_iload_n hx hb dX11_back_32 rfl (lv_at hl 1 rfl) ?_
        refine va_aldq hx hb hK.1 hP 23 4 rfl rfl (mm_in q5 (by decide)) dX11_back_33 ?_
        have c9 := mm_cases3 q5
        rcases c9 with rfl | rfl | rfl
        · refine W.eq (g2 := F0 m 34 ls [.ref a_33, .ref a_3]) rfl ?_
          refine mm_finv (va_runV (As := [.ref a_33]) (rest := []) ⟨hx, hb, hml, hown, hts⟩ (K534_X10_turnTo l G cy H.size a_3 a_33 a_12 a_13 i_1 i_2 i_3 i_4 i_5 i_6 i_7 i_8 a_14 a_15 a_16 a_17 a_18 a_19 a_20 a_21 a_22 a_23 f_0 f_1 f_2 f_3 f_4 f_5 f_6 f_7 f_8 f_9 a_24 a_25 a_26 a_27 a_28 i_9 i_10 i_11 f_10 f_11 a_29 a_30 i_12 i_13 i_14 f_12 f_13 a_31 a_32 i_15 i_16 i_17 f_14 f_15 i_18 i_19 i_20 i_21 i_22 i_23 i_24 i_25 a_36 a_37 a_38 a_39 a_40 a_41 a_42 a_43 a_44 a_45 f_16 f_17 f_18 f_19 f_20 f_21 f_22 f_23 f_24 f_25 h0 h1 h2 h3 h4 h5 h6 h7 h8 h9 h10 h11 h12 h13 h14 h15 h16 h17 h18 h19 h20 h21 h22 h23 h24 h25 h26 h27 h28 h29 h30 h31 h32 h33 h34 h35 h36 h37 h38 h39 h40 h41 h42 h43 h44 h45 h81 h82) (cwV 1 hts (mm_gV mm_w372 mm_w373 mm_w374 mm_w23 mm_w375) rfl rfl rfl hd_X10_turnTo ⟨by rw [hRf]; exact Nat.le_of_ble_eq_true rfl, by rw [hRl]; exact Nat.le_of_ble_eq_true rfl⟩) (mm_preV hK hZ hS hA hP hD [1, 2, 3, 4, 5, 6, 7, 8, 9, 10, 11, 12, 13, 14, 15, 16, 17, 18, 19, 20, 21, 22, 24, 25, 26, 27, 28, 29, 30, 31, 32, 33, 34] rfl rfl 1 rfl rfl rfl) rfl rfl hl.1 rfl (lv_room (Nat.le_of_ble_eq_true rfl)) dX11_back_34 ⟨by rw [hRc]; exact Nat.le_of_ble_eq_true rfl, by rw [hRs]; exact Nat.le_of_ble_eq_true rfl⟩) hP hD hS hA (fun u : Int32 × Int32 × Int32 × (Nat → Int32) × (Nat → Int32) × Int32 × Int32 × Int32 × (Nat → Int32) × (Nat → Int32) × Int32 × Int32 × Int32 × (Nat → Int32) × (Nat → Int32) => [(a_0, .inr (11, [.ref a_1, .ref a_2, .ref a_3, .ref a_4, .ref a_5, .ref a_6, .ref a_7, .ref a_8, .ref a_9, .ref a_10, .ref a_11])), (a_3, .inr (10, [.ref a_12, .ref a_13])), (a_12, .inr (0, [.int i_18, .int i_19, .int i_20, .int i_21, .int i_22, .int i_23, .int i_24, .int i_25, .ref a_14, .ref a_15, .ref a_16, .ref a_17, .ref a_18, .ref a_19, .ref a_20, .ref a_21, .ref a_22, .ref a_23])), (a_14, .inl (cy 1, 9, .inl f_16)), (a_15, .inl (cy 1, 9, .inl f_17)), (a_16, .inl (cy 1, 3, .inl f_18)), (a_17, .inl (cy 1, 210, .inl f_19)), (a_18, .inl (cy 1, 6, .inl f_20)), (a_19, .inl (cy 1, 48, .inl f_21)), (a_20, .inl (cy 1, 30, .inl f_22)), (a_21, .inl (cy 1, 30, .inl f_23)), (a_22, .inl (cy 1, 30, .inl f_24)), (a_23, .inl (cy 1, 30, .inl f_25)), (a_13, .inl (cy 5, 3, .inr (.inr (.inr (.inr (va_up (va_up (va_up (fun _ => none) 0 (some a_24)) 1 (some a_25)) 2 (some a_26))))))), (a_24, .inr (1, [.ref a_27, .ref a_28, .int u.1, .int u.2.1, .int u.2.2.1])), (a_27, .inl (cy 1, 2100, .inl u.2.2.2.1)), (a_28, .inl (cy 1, 10, .inl u.2.2.2.2.1)), (a_25, .inr (1, [.ref a_29, .ref a_30, .int u.2.2.2.2.2.1, .int u.2.2.2.2.2.2.1, .int u.2.2.2.2.2.2.2.1])), (a_29, .inl (cy 1, 2100, .inl u.2.2.2.2.2.2.2.2.1)), (a_30, .inl (cy 1, 10, .inl u.2.2.2.2.2.2.2.2.2.1)), (a_26, .inr (1, [.ref a_31, .ref a_32, .int u.2.2.2.2.2.2.2.2.2.2.1, .int u.2.2.2.2.2.2.2.2.2.2.2.1, .int u.2.2.2.2.2.2.2.2.2.2.2.2.1])), (a_31, .inl (cy 1, 2100, .inl u.2.2.2.2.2.2.2.2.2.2.2.2.2.1)), (a_32, .inl (cy 1, 10, .inl u.2.2.2.2.2.2.2.2.2.2.2.2.2.2)), (a_4, .inl (cy 4, 3, .inr (.inr (.inr (.inr (va_up (va_up (va_up (fun _ => none) 0 (some a_33)) 1 (some a_34)) 2 (some a_35))))))), (a_33, .inr (0, [.int i_18, .int i_19, .int i_20, .int i_21, .int i_22, .int i_23, .int i_24, .int i_25, .ref a_36, .ref a_37, .ref a_38, .ref a_39, .ref a_40, .ref a_41, .ref a_42, .ref a_43, .ref a_44, .ref a_45])), (a_36, .inl (cy 1, 9, .inl f_16)), (a_37, .inl (cy 1, 9, .inl f_17)), (a_38, .inl (cy 1, 3, .inl f_18)), (a_39, .inl (cy 1, 210, .inl f_19)), (a_40, .inl (cy 1, 6, .inl f_20)), (a_41, .inl (cy 1, 48, .inl f_21)), (a_42, .inl (cy 1, 30, .inl f_22)), (a_43, .inl (cy 1, 30, .inl f_23)), (a_44, .inl (cy 1, 30, .inl f_24)), (a_45, .inl (cy 1, 30, .inl f_25)), (a_34, .inr (0, [.int i_26, .int i_27, .int i_28, .int i_29, .int i_30, .int i_31, .int i_32, .int i_33, .ref a_46, .ref a_47, .ref a_48, .ref a_49, .ref a_50, .ref a_51, .ref a_52, .ref a_53, .ref a_54, .ref a_55])), (a_46, .inl (cy 1, 9, .inl f_26)), (a_47, .inl (cy 1, 9, .inl f_27)), (a_48, .inl (cy 1, 3, .inl f_28)), (a_49, .inl (cy 1, 210, .inl f_29)), (a_50, .inl (cy 1, 6, .inl f_30)), (a_51, .inl (cy 1, 48, .inl f_31)), (a_52, .inl (cy 1, 30, .inl f_32)), (a_53, .inl (cy 1, 30, .inl f_33)), (a_54, .inl (cy 1, 30, .inl f_34)), (a_55, .inl (cy 1, 30, .inl f_35)), (a_35, .inr (0, [.int i_34, .int i_35, .int i_36, .int i_37, .int i_38, .int i_39, .int i_40, .int i_41, .ref a_56, .ref a_57, .ref a_58, .ref a_59, .ref a_60, .ref a_61, .ref a_62, .ref a_63, .ref a_64, .ref a_65])), (a_56, .inl (cy 1, 9, .inl f_36)), (a_57, .inl (cy 1, 9, .inl f_37)), (a_58, .inl (cy 1, 3, .inl f_38)), (a_59, .inl (cy 1, 210, .inl f_39)), (a_60, .inl (cy 1, 6, .inl f_40)), (a_61, .inl (cy 1, 48, .inl f_41)), (a_62, .inl (cy 1, 30, .inl f_42)), (a_63, .inl (cy 1, 30, .inl f_43)), (a_64, .inl (cy 1, 30, .inl f_44)), (a_65, .inl (cy 1, 30, .inl f_45)), (a_5, .inl (cy 3, 3, .inl f_46))]) [1, 2, 3, 4, 5, 6, 7, 8, 9, 10, 11, 12, 13, 14, 15, 16, 17, 18, 19, 20, 21, 22, 24, 25, 26, 27, 28, 29, 30, 31, 32, 33, 34] [0, 23, 35, 36, 37, 38, 39, 40, 41, 42, 43, 44, 45, 46, 47, 48, 49, 50, 51, 52, 53, 54, 55, 56, 57] (n := 58) (fun _ => rfl) (by decide +kernel) (by decide +kernel) rfl (fun _ => rfl) (wr := [(a_0, .inr (11, [.ref a_1, .ref a_2, .ref a_3, .ref a_4, .ref a_5, .ref a_6, .ref a_7, .ref a_8, .ref a_9, .ref a_10, .ref a_11])), (a_4, .inl (cy 4, 3, .inr (.inr (.inr (.inr (va_up (va_up (va_up (fun _ => none) 0 (some a_33)) 1 (some a_34)) 2 (some a_35))))))), (a_34, .inr (0, [.int i_26, .int i_27, .int i_28, .int i_29, .int i_30, .int i_31, .int i_32, .int i_33, .ref a_46, .ref a_47, .ref a_48, .ref a_49, .ref a_50, .ref a_51, .ref a_52, .ref a_53, .ref a_54, .ref a_55])), (a_46, .inl (cy 1, 9, .inl f_26)), (a_47, .inl (cy 1, 9, .inl f_27)), (a_48, .inl (cy 1, 3, .inl f_28)), (a_49, .inl (cy 1, 210, .inl f_29)), (a_50, .inl (cy 1, 6, .inl f_30)), (a_51, .inl (cy 1, 48, .inl f_31)), (a_52, .inl (cy 1, 30, .inl f_32)), (a_53, .inl (cy 1, 30, .inl f_33)), (a_54, .inl (cy 1, 30, .inl f_34)), (a_55, .inl (cy 1, 30, .inl f_35)), (a_35, .inr (0, [.int i_34, .int i_35, .int i_36, .int i_37, .int i_38, .int i_39, .int i_40, .int i_41, .ref a_56, .ref a_57, .ref a_58, .ref a_59, .ref a_60, .ref a_61, .ref a_62, .ref a_63, .ref a_64, .ref a_65])), (a_56, .inl (cy 1, 9, .inl f_36)), (a_57, .inl (cy 1, 9, .inl f_37)), (a_58, .inl (cy 1, 3, .inl f_38)), (a_59, .inl (cy 1, 210, .inl f_39)), (a_60, .inl (cy 1, 6, .inl f_40)), (a_61, .inl (cy 1, 48, .inl f_41)), (a_62, .inl (cy 1, 30, .inl f_42)), (a_63, .inl (cy 1, 30, .inl f_43)), (a_64, .inl (cy 1, 30, .inl f_44)), (a_65, .inl (cy 1, 30, .inl f_45)), (a_5, .inl (cy 3, 3, .inl f_46))]) rfl (fun _ => rfl) (fun _ => rfl) ?_
          clear hP hD hS
          clear H locs
          intro u
          obtain ⟨n10, n11, n12, n13, n14, n15, n16, n17, n18, n19, n20, n21, n22, n23, n24⟩ := u
          intro H locs hw (hP : va_P G vwCl [(a_0, .inr (11, [.ref a_1, .ref a_2, .ref a_3, .ref a_4, .ref a_5, .ref a_6, .ref a_7, .ref a_8, .ref a_9, .ref a_10, .ref a_11])), (a_3, .inr (10, [.ref a_12, .ref a_13])), (a_12, .inr (0, [.int i_18, .int i_19, .int i_20, .int i_21, .int i_22, .int i_23, .int i_24, .int i_25, .ref a_14, .ref a_15, .ref a_16, .ref a_17, .ref a_18, .ref a_19, .ref a_20, .ref a_21, .ref a_22, .ref a_23])), (a_14, .inl (cy 1, 9, .inl f_16)), (a_15, .inl (cy 1, 9, .inl f_17)), (a_16, .inl (cy 1, 3, .inl f_18)), (a_17, .inl (cy 1, 210, .inl f_19)), (a_18, .inl (cy 1, 6, .inl f_20)), (a_19, .inl (cy 1, 48, .inl f_21)), (a_20, .inl (cy 1, 30, .inl f_22)), (a_21, .inl (cy 1, 30, .inl f_23)), (a_22, .inl (cy 1, 30, .inl f_24)), (a_23, .inl (cy 1, 30, .inl f_25)), (a_13, .inl (cy 5, 3, .inr (.inr (.inr (.inr (va_up (va_up (va_up (fun _ => none) 0 (some a_24)) 1 (some a_25)) 2 (some a_26))))))), (a_24, .inr (1, [.ref a_27, .ref a_28, .int n10, .int n11, .int n12])), (a_27, .inl (cy 1, 2100, .inl n13)), (a_28, .inl (cy 1, 10, .inl n14)), (a_25, .inr (1, [.ref a_29, .ref a_30, .int n15, .int n16, .int n17])), (a_29, .inl (cy 1, 2100, .inl n18)), (a_30, .inl (cy 1, 10, .inl n19)), (a_26, .inr (1, [.ref a_31, .ref a_32, .int n20, .int n21, .int n22])), (a_31, .inl (cy 1, 2100, .inl n23)), (a_32, .inl (cy 1, 10, .inl n24)), (a_4, .inl (cy 4, 3, .inr (.inr (.inr (.inr (va_up (va_up (va_up (fun _ => none) 0 (some a_33)) 1 (some a_34)) 2 (some a_35))))))), (a_33, .inr (0, [.int i_18, .int i_19, .int i_20, .int i_21, .int i_22, .int i_23, .int i_24, .int i_25, .ref a_36, .ref a_37, .ref a_38, .ref a_39, .ref a_40, .ref a_41, .ref a_42, .ref a_43, .ref a_44, .ref a_45])), (a_36, .inl (cy 1, 9, .inl f_16)), (a_37, .inl (cy 1, 9, .inl f_17)), (a_38, .inl (cy 1, 3, .inl f_18)), (a_39, .inl (cy 1, 210, .inl f_19)), (a_40, .inl (cy 1, 6, .inl f_20)), (a_41, .inl (cy 1, 48, .inl f_21)), (a_42, .inl (cy 1, 30, .inl f_22)), (a_43, .inl (cy 1, 30, .inl f_23)), (a_44, .inl (cy 1, 30, .inl f_24)), (a_45, .inl (cy 1, 30, .inl f_25)), (a_34, .inr (0, [.int i_26, .int i_27, .int i_28, .int i_29, .int i_30, .int i_31, .int i_32, .int i_33, .ref a_46, .ref a_47, .ref a_48, .ref a_49, .ref a_50, .ref a_51, .ref a_52, .ref a_53, .ref a_54, .ref a_55])), (a_46, .inl (cy 1, 9, .inl f_26)), (a_47, .inl (cy 1, 9, .inl f_27)), (a_48, .inl (cy 1, 3, .inl f_28)), (a_49, .inl (cy 1, 210, .inl f_29)), (a_50, .inl (cy 1, 6, .inl f_30)), (a_51, .inl (cy 1, 48, .inl f_31)), (a_52, .inl (cy 1, 30, .inl f_32)), (a_53, .inl (cy 1, 30, .inl f_33)), (a_54, .inl (cy 1, 30, .inl f_34)), (a_55, .inl (cy 1, 30, .inl f_35)), (a_35, .inr (0, [.int i_34, .int i_35, .int i_36, .int i_37, .int i_38, .int i_39, .int i_40, .int i_41, .ref a_56, .ref a_57, .ref a_58, .ref a_59, .ref a_60, .ref a_61, .ref a_62, .ref a_63, .ref a_64, .ref a_65])), (a_56, .inl (cy 1, 9, .inl f_36)), (a_57, .inl (cy 1, 9, .inl f_37)), (a_58, .inl (cy 1, 3, .inl f_38)), (a_59, .inl (cy 1, 210, .inl f_39)), (a_60, .inl (cy 1, 6, .inl f_40)), (a_61, .inl (cy 1, 48, .inl f_41)), (a_62, .inl (cy 1, 30, .inl f_42)), (a_63, .inl (cy 1, 30, .inl f_43)), (a_64, .inl (cy 1, 30, .inl f_44)), (a_65, .inl (cy 1, 30, .inl f_45)), (a_5, .inl (cy 3, 3, .inl f_46))] H) (hD : va_D A [(a_0, .inr (11, [.ref a_1, .ref a_2, .ref a_3, .ref a_4, .ref a_5, .ref a_6, .ref a_7, .ref a_8, .ref a_9, .ref a_10, .ref a_11])), (a_3, .inr (10, [.ref a_12, .ref a_13])), (a_12, .inr (0, [.int i_18, .int i_19, .int i_20, .int i_21, .int i_22, .int i_23, .int i_24, .int i_25, .ref a_14, .ref a_15, .ref a_16, .ref a_17, .ref a_18, .ref a_19, .ref a_20, .ref a_21, .ref a_22, .ref a_23])), (a_14, .inl (cy 1, 9, .inl f_16)), (a_15, .inl (cy 1, 9, .inl f_17)), (a_16, .inl (cy 1, 3, .inl f_18)), (a_17, .inl (cy 1, 210, .inl f_19)), (a_18, .inl (cy 1, 6, .inl f_20)), (a_19, .inl (cy 1, 48, .inl f_21)), (a_20, .inl (cy 1, 30, .inl f_22)), (a_21, .inl (cy 1, 30, .inl f_23)), (a_22, .inl (cy 1, 30, .inl f_24)), (a_23, .inl (cy 1, 30, .inl f_25)), (a_13, .inl (cy 5, 3, .inr (.inr (.inr (.inr (va_up (va_up (va_up (fun _ => none) 0 (some a_24)) 1 (some a_25)) 2 (some a_26))))))), (a_24, .inr (1, [.ref a_27, .ref a_28, .int n10, .int n11, .int n12])), (a_27, .inl (cy 1, 2100, .inl n13)), (a_28, .inl (cy 1, 10, .inl n14)), (a_25, .inr (1, [.ref a_29, .ref a_30, .int n15, .int n16, .int n17])), (a_29, .inl (cy 1, 2100, .inl n18)), (a_30, .inl (cy 1, 10, .inl n19)), (a_26, .inr (1, [.ref a_31, .ref a_32, .int n20, .int n21, .int n22])), (a_31, .inl (cy 1, 2100, .inl n23)), (a_32, .inl (cy 1, 10, .inl n24)), (a_4, .inl (cy 4, 3, .inr (.inr (.inr (.inr (va_up (va_up (va_up (fun _ => none) 0 (some a_33)) 1 (some a_34)) 2 (some a_35))))))), (a_33, .inr (0, [.int i_18, .int i_19, .int i_20, .int i_21, .int i_22, .int i_23, .int i_24, .int i_25, .ref a_36, .ref a_37, .ref a_38, .ref a_39, .ref a_40, .ref a_41, .ref a_42, .ref a_43, .ref a_44, .ref a_45])), (a_36, .inl (cy 1, 9, .inl f_16)), (a_37, .inl (cy 1, 9, .inl f_17)), (a_38, .inl (cy 1, 3, .inl f_18)), (a_39, .inl (cy 1, 210, .inl f_19)), (a_40, .inl (cy 1, 6, .inl f_20)), (a_41, .inl (cy 1, 48, .inl f_21)), (a_42, .inl (cy 1, 30, .inl f_22)), (a_43, .inl (cy 1, 30, .inl f_23)), (a_44, .inl (cy 1, 30, .inl f_24)), (a_45, .inl (cy 1, 30, .inl f_25)), (a_34, .inr (0, [.int i_26, .int i_27, .int i_28, .int i_29, .int i_30, .int i_31, .int i_32, .int i_33, .ref a_46, .ref a_47, .ref a_48, .ref a_49, .ref a_50, .ref a_51, .ref a_52, .ref a_53, .ref a_54, .ref a_55])), (a_46, .inl (cy 1, 9, .inl f_26)), (a_47, .inl (cy 1, 9, .inl f_27)), (a_48, .inl (cy 1, 3, .inl f_28)), (a_49, .inl (cy 1, 210, .inl f_29)), (a_50, .inl (cy 1, 6, .inl f_30)), (a_51, .inl (cy 1, 48, .inl f_31)), (a_52, .inl (cy 1, 30, .inl f_32)), (a_53, .inl (cy 1, 30, .inl f_33)), (a_54, .inl (cy 1, 30, .inl f_34)), (a_55, .inl (cy 1, 30, .inl f_35)), (a_35, .inr (0, [.int i_34, .int i_35, .int i_36, .int i_37, .int i_38, .int i_39, .int i_40, .int i_41, .ref a_56, .ref a_57, .ref a_58, .ref a_59, .ref a_60, .ref a_61, .ref a_62, .ref a_63, .ref a_64, .ref a_65])), (a_56, .inl (cy 1, 9, .inl f_36)), (a_57, .inl (cy 1, 9, .inl f_37)), (a_58, .inl (cy 1, 3, .inl f_38)), (a_59, .inl (cy 1, 210, .inl f_39)), (a_60, .inl (cy 1, 6, .inl f_40)), (a_61, .inl (cy 1, 48, .inl f_41)), (a_62, .inl (cy 1, 30, .inl f_42)), (a_63, .inl (cy 1, 30, .inl f_43)), (a_64, .inl (cy 1, 30, .inl f_44)), (a_65, .inl (cy 1, 30, .inl f_45)), (a_5, .inl (cy 3, 3, .inl f_46))]) hS
          obtain ⟨w25, w26, w27, w28, w29, w30, w31, w32, w33, w34, w35, w36⟩ := hw
          refine lv_iconst (v := 0) hx hb dX11_back_37 (by decide) ?_
          subst hAe
          rw [hQ]
          exact W.iret (v := 0) hx hb hr (fun t ht hW => ⟨⟨0, (i_18, i_19, i_20, i_21, i_22, i_23, i_24, i_25, f_16, f_17, f_18, f_19, f_20, f_21, f_22, f_23, f_24, f_25, n10, n11, n12, n13, n14, n15, n16, n17, n18, n19, n20, n21, n22, n23, n24), rfl, ⟨h29, h30, h31, h32, h33, h34, h35, h36, h37, h38, h39, h40, h41, h42, h43, h44, h45, w25, w26, w27, w28, w29, w30, w31, w32, w33, w34, w35, w36, h82, (mm_wk mm_k0 (by decide))⟩, by rw [ht]; exact hP, hK.warm hW, hD⟩, hS.F ht⟩) hS.2.2 dX11_back_38
        · refine W.eq (g2 := F0 m 34 ls [.ref a_34, .ref a_3]) rfl ?_
          refine mm_finv (va_runV (As := [.ref a_34]) (rest := []) ⟨hx, hb, hml, hown, hts⟩ (K534_X10_turnTo l G cy H.size a_3 a_34 a_12 a_13 i_1 i_2 i_3 i_4 i_5 i_6 i_7 i_8 a_14 a_15 a_16 a_17 a_18 a_19 a_20 a_21 a_22 a_23 f_0 f_1 f_2 f_3 f_4 f_5 f_6 f_7 f_8 f_9 a_24 a_25 a_26 a_27 a_28 i_9 i_10 i_11 f_10 f_11 a_29 a_30 i_12 i_13 i_14 f_12 f_13 a_31 a_32 i_15 i_16 i_17 f_14 f_15 i_26 i_27 i_28 i_29 i_30 i_31 i_32 i_33 a_46 a_47 a_48 a_49 a_50 a_51 a_52 a_53 a_54 a_55 f_26 f_27 f_28 f_29 f_30 f_31 f_32 f_33 f_34 f_35 h0 h1 h2 h3 h4 h5 h6 h7 h8 h9 h10 h11 h12 h13 h14 h15 h16 h17 h18 h19 h20 h21 h22 h23 h24 h25 h26 h27 h28 h46 h47 h48 h49 h50 h51 h52 h53 h54 h55 h56 h57 h58 h59 h60 h61 h62 h81 h83) (cwV 1 hts (mm_gV mm_w372 mm_w373 mm_w374 mm_w23 mm_w375) rfl rfl rfl hd_X10_turnTo ⟨by rw [hRf]; exact Nat.le_of_ble_eq_true rfl, by rw [hRl]; exact Nat.le_of_ble_eq_true rfl⟩) (mm_preV hK hZ hS hA hP hD [1, 2, 3, 4, 5, 6, 7, 8, 9, 10, 11, 12, 13, 14, 15, 16, 17, 18, 19, 20, 21, 22, 35, 36, 37, 38, 39, 40, 41, 42, 43, 44, 45] rfl rfl 1 rfl rfl rfl) rfl rfl hl.1 rfl (lv_room (Nat.le_of_ble_eq_true rfl)) dX11_back_34 ⟨by rw [hRc]; exact Nat.le_of_ble_eq_true rfl, by rw [hRs]; exact Nat.le_of_ble_eq_true rfl⟩) hP hD hS hA (fun u : Int32 × Int32 × Int32 × (Nat → Int32) × (Nat → Int32) × Int32 × Int32 × Int32 × (Nat → Int32) × (Nat → Int32) × Int32 × Int32 × Int32 × (Nat → Int32) × (Nat → Int32) => [(a_0, .inr (11, [.ref a_1, .ref a_2, .ref a_3, .ref a_4, .ref a_5, .ref a_6, .ref a_7, .ref a_8, .ref a_9, .ref a_10, .ref a_11])), (a_3, .inr (10, [.ref a_12, .ref a_13])), (a_12, .inr (0, [.int i_26, .int i_27, .int i_28, .int i_29, .int i_30, .int i_31, .int i_32, .int i_33, .ref a_14, .ref a_15, .ref a_16, .ref a_17, .ref a_18, .ref a_19, .ref a_20, .ref a_21, .ref a_22, .ref a_23])), (a_14, .inl (cy 1, 9, .inl f_26)), (a_15, .inl (cy 1, 9, .inl f_27)), (a_16, .inl (cy 1, 3, .inl f_28)), (a_17, .inl (cy 1, 210, .inl f_29)), (a_18, .inl (cy 1, 6, .inl f_30)), (a_19, .inl (cy 1, 48, .inl f_31)), (a_20, .inl (cy 1, 30, .inl f_32)), (a_21, .inl (cy 1, 30, .inl f_33)), (a_22, .inl (cy 1, 30, .inl f_34)), (a_23, .inl (cy 1, 30, .inl f_35)), (a_13, .inl (cy 5, 3, .inr (.inr (.inr (.inr (va_up (va_up (va_up (fun _ => none) 0 (some a_24)) 1 (some a_25)) 2 (some a_26))))))), (a_24, .inr (1, [.ref a_27, .ref a_28, .int u.1, .int u.2.1, .int u.2.2.1])), (a_27, .inl (cy 1, 2100, .inl u.2.2.2.1)), (a_28, .inl (cy 1, 10, .inl u.2.2.2.2.1)), (a_25, .inr (1, [.ref a_29, .ref a_30, .int u.2.2.2.2.2.1, .int u.2.2.2.2.2.2.1, .int u.2.2.2.2.2.2.2.1])), (a_29, .inl (cy 1, 2100, .inl u.2.2.2.2.2.2.2.2.1)), (a_30, .inl (cy 1, 10, .inl u.2.2.2.2.2.2.2.2.2.1)), (a_26, .inr (1, [.ref a_31, .ref a_32, .int u.2.2.2.2.2.2.2.2.2.2.1, .int u.2.2.2.2.2.2.2.2.2.2.2.1, .int u.2.2.2.2.2.2.2.2.2.2.2.2.1])), (a_31, .inl (cy 1, 2100, .inl u.2.2.2.2.2.2.2.2.2.2.2.2.2.1)), (a_32, .inl (cy 1, 10, .inl u.2.2.2.2.2.2.2.2.2.2.2.2.2.2)), (a_4, .inl (cy 4, 3, .inr (.inr (.inr (.inr (va_up (va_up (va_up (fun _ => none) 0 (some a_33)) 1 (some a_34)) 2 (some a_35))))))), (a_33, .inr (0, [.int i_18, .int i_19, .int i_20, .int i_21, .int i_22, .int i_23, .int i_24, .int i_25, .ref a_36, .ref a_37, .ref a_38, .ref a_39, .ref a_40, .ref a_41, .ref a_42, .ref a_43, .ref a_44, .ref a_45])), (a_36, .inl (cy 1, 9, .inl f_16)), (a_37, .inl (cy 1, 9, .inl f_17)), (a_38, .inl (cy 1, 3, .inl f_18)), (a_39, .inl (cy 1, 210, .inl f_19)), (a_40, .inl (cy 1, 6, .inl f_20)), (a_41, .inl (cy 1, 48, .inl f_21)), (a_42, .inl (cy 1, 30, .inl f_22)), (a_43, .inl (cy 1, 30, .inl f_23)), (a_44, .inl (cy 1, 30, .inl f_24)), (a_45, .inl (cy 1, 30, .inl f_25)), (a_34, .inr (0, [.int i_26, .int i_27, .int i_28, .int i_29, .int i_30, .int i_31, .int i_32, .int i_33, .ref a_46, .ref a_47, .ref a_48, .ref a_49, .ref a_50, .ref a_51, .ref a_52, .ref a_53, .ref a_54, .ref a_55])), (a_46, .inl (cy 1, 9, .inl f_26)), (a_47, .inl (cy 1, 9, .inl f_27)), (a_48, .inl (cy 1, 3, .inl f_28)), (a_49, .inl (cy 1, 210, .inl f_29)), (a_50, .inl (cy 1, 6, .inl f_30)), (a_51, .inl (cy 1, 48, .inl f_31)), (a_52, .inl (cy 1, 30, .inl f_32)), (a_53, .inl (cy 1, 30, .inl f_33)), (a_54, .inl (cy 1, 30, .inl f_34)), (a_55, .inl (cy 1, 30, .inl f_35)), (a_35, .inr (0, [.int i_34, .int i_35, .int i_36, .int i_37, .int i_38, .int i_39, .int i_40, .int i_41, .ref a_56, .ref a_57, .ref a_58, .ref a_59, .ref a_60, .ref a_61, .ref a_62, .ref a_63, .ref a_64, .ref a_65])), (a_56, .inl (cy 1, 9, .inl f_36)), (a_57, .inl (cy 1, 9, .inl f_37)), (a_58, .inl (cy 1, 3, .inl f_38)), (a_59, .inl (cy 1, 210, .inl f_39)), (a_60, .inl (cy 1, 6, .inl f_40)), (a_61, .inl (cy 1, 48, .inl f_41)), (a_62, .inl (cy 1, 30, .inl f_42)), (a_63, .inl (cy 1, 30, .inl f_43)), (a_64, .inl (cy 1, 30, .inl f_44)), (a_65, .inl (cy 1, 30, .inl f_45)), (a_5, .inl (cy 3, 3, .inl f_46))]) [1, 2, 3, 4, 5, 6, 7, 8, 9, 10, 11, 12, 13, 14, 15, 16, 17, 18, 19, 20, 21, 22, 35, 36, 37, 38, 39, 40, 41, 42, 43, 44, 45] [0, 23, 24, 25, 26, 27, 28, 29, 30, 31, 32, 33, 34, 46, 47, 48, 49, 50, 51, 52, 53, 54, 55, 56, 57] (n := 58) (fun _ => rfl) (by decide +kernel) (by decide +kernel) rfl (fun _ => rfl) (wr := [(a_0, .inr (11, [.ref a_1, .ref a_2, .ref a_3, .ref a_4, .ref a_5, .ref a_6, .ref a_7, .ref a_8, .ref a_9, .ref a_10, .ref a_11])), (a_4, .inl (cy 4, 3, .inr (.inr (.inr (.inr (va_up (va_up (va_up (fun _ => none) 0 (some a_33)) 1 (some a_34)) 2 (some a_35))))))), (a_33, .inr (0, [.int i_18, .int i_19, .int i_20, .int i_21, .int i_22, .int i_23, .int i_24, .int i_25, .ref a_36, .ref a_37, .ref a_38, .ref a_39, .ref a_40, .ref a_41, .ref a_42, .ref a_43, .ref a_44, .ref a_45])), (a_36, .inl (cy 1, 9, .inl f_16)), (a_37, .inl (cy 1, 9, .inl f_17)), (a_38, .inl (cy 1, 3, .inl f_18)), (a_39, .inl (cy 1, 210, .inl f_19)), (a_40, .inl (cy 1, 6, .inl f_20)), (a_41, .inl (cy 1, 48, .inl f_21)), (a_42, .inl (cy 1, 30, .inl f_22)), (a_43, .inl (cy 1, 30, .inl f_23)), (a_44, .inl (cy 1, 30, .inl f_24)), (a_45, .inl (cy 1, 30, .inl f_25)), (a_35, .inr (0, [.int i_34, .int i_35, .int i_36, .int i_37, .int i_38, .int i_39, .int i_40, .int i_41, .ref a_56, .ref a_57, .ref a_58, .ref a_59, .ref a_60, .ref a_61, .ref a_62, .ref a_63, .ref a_64, .ref a_65])), (a_56, .inl (cy 1, 9, .inl f_36)), (a_57, .inl (cy 1, 9, .inl f_37)), (a_58, .inl (cy 1, 3, .inl f_38)), (a_59, .inl (cy 1, 210, .inl f_39)), (a_60, .inl (cy 1, 6, .inl f_40)), (a_61, .inl (cy 1, 48, .inl f_41)), (a_62, .inl (cy 1, 30, .inl f_42)), (a_63, .inl (cy 1, 30, .inl f_43)), (a_64, .inl (cy 1, 30, .inl f_44)), (a_65, .inl (cy 1, 30, .inl f_45)), (a_5, .inl (cy 3, 3, .inl f_46))]) rfl (fun _ => rfl) (fun _ => rfl) ?_
          clear hP hD hS
          clear H locs
          intro u
          obtain ⟨n37, n38, n39, n40, n41, n42, n43, n44, n45, n46, n47, n48, n49, n50, n51⟩ := u
          intro H locs hw (hP : va_P G vwCl [(a_0, .inr (11, [.ref a_1, .ref a_2, .ref a_3, .ref a_4, .ref a_5, .ref a_6, .ref a_7, .ref a_8, .ref a_9, .ref a_10, .ref a_11])), (a_3, .inr (10, [.ref a_12, .ref a_13])), (a_12, .inr (0, [.int i_26, .int i_27, .int i_28, .int i_29, .int i_30, .int i_31, .int i_32, .int i_33, .ref a_14, .ref a_15, .ref a_16, .ref a_17, .ref a_18, .ref a_19, .ref a_20, .ref a_21, .ref a_22, .ref a_23])), (a_14, .inl (cy 1, 9, .inl f_26)), (a_15, .inl (cy 1, 9, .inl f_27)), (a_16, .inl (cy 1, 3, .inl f_28)), (a_17, .inl (cy 1, 210, .inl f_29)), (a_18, .inl (cy 1, 6, .inl f_30)), (a_19, .inl (cy 1, 48, .inl f_31)), (a_20, .inl (cy 1, 30, .inl f_32)), (a_21, .inl (cy 1, 30, .inl f_33)), (a_22, .inl (cy 1, 30, .inl f_34)), (a_23, .inl (cy 1, 30, .inl f_35)), (a_13, .inl (cy 5, 3, .inr (.inr (.inr (.inr (va_up (va_up (va_up (fun _ => none) 0 (some a_24)) 1 (some a_25)) 2 (some a_26))))))), (a_24, .inr (1, [.ref a_27, .ref a_28, .int n37, .int n38, .int n39])), (a_27, .inl (cy 1, 2100, .inl n40)), (a_28, .inl (cy 1, 10, .inl n41)), (a_25, .inr (1, [.ref a_29, .ref a_30, .int n42, .int n43, .int n44])), (a_29, .inl (cy 1, 2100, .inl n45)), (a_30, .inl (cy 1, 10, .inl n46)), (a_26, .inr (1, [.ref a_31, .ref a_32, .int n47, .int n48, .int n49])), (a_31, .inl (cy 1, 2100, .inl n50)), (a_32, .inl (cy 1, 10, .inl n51)), (a_4, .inl (cy 4, 3, .inr (.inr (.inr (.inr (va_up (va_up (va_up (fun _ => none) 0 (some a_33)) 1 (some a_34)) 2 (some a_35))))))), (a_33, .inr (0, [.int i_18, .int i_19, .int i_20, .int i_21, .int i_22, .int i_23, .int i_24, .int i_25, .ref a_36, .ref a_37, .ref a_38, .ref a_39, .ref a_40, .ref a_41, .ref a_42, .ref a_43, .ref a_44, .ref a_45])), (a_36, .inl (cy 1, 9, .inl f_16)), (a_37, .inl (cy 1, 9, .inl f_17)), (a_38, .inl (cy 1, 3, .inl f_18)), (a_39, .inl (cy 1, 210, .inl f_19)), (a_40, .inl (cy 1, 6, .inl f_20)), (a_41, .inl (cy 1, 48, .inl f_21)), (a_42, .inl (cy 1, 30, .inl f_22)), (a_43, .inl (cy 1, 30, .inl f_23)), (a_44, .inl (cy 1, 30, .inl f_24)), (a_45, .inl (cy 1, 30, .inl f_25)), (a_34, .inr (0, [.int i_26, .int i_27, .int i_28, .int i_29, .int i_30, .int i_31, .int i_32, .int i_33, .ref a_46, .ref a_47, .ref a_48, .ref a_49, .ref a_50, .ref a_51, .ref a_52, .ref a_53, .ref a_54, .ref a_55])), (a_46, .inl (cy 1, 9, .inl f_26)), (a_47, .inl (cy 1, 9, .inl f_27)), (a_48, .inl (cy 1, 3, .inl f_28)), (a_49, .inl (cy 1, 210, .inl f_29)), (a_50, .inl (cy 1, 6, .inl f_30)), (a_51, .inl (cy 1, 48, .inl f_31)), (a_52, .inl (cy 1, 30, .inl f_32)), (a_53, .inl (cy 1, 30, .inl f_33)), (a_54, .inl (cy 1, 30, .inl f_34)), (a_55, .inl (cy 1, 30, .inl f_35)), (a_35, .inr (0, [.int i_34, .int i_35, .int i_36, .int i_37, .int i_38, .int i_39, .int i_40, .int i_41, .ref a_56, .ref a_57, .ref a_58, .ref a_59, .ref a_60, .ref a_61, .ref a_62, .ref a_63, .ref a_64, .ref a_65])), (a_56, .inl (cy 1, 9, .inl f_36)), (a_57, .inl (cy 1, 9, .inl f_37)), (a_58, .inl (cy 1, 3, .inl f_38)), (a_59, .inl (cy 1, 210, .inl f_39)), (a_60, .inl (cy 1, 6, .inl f_40)), (a_61, .inl (cy 1, 48, .inl f_41)), (a_62, .inl (cy 1, 30, .inl f_42)), (a_63, .inl (cy 1, 30, .inl f_43)), (a_64, .inl (cy 1, 30, .inl f_44)), (a_65, .inl (cy 1, 30, .inl f_45)), (a_5, .inl (cy 3, 3, .inl f_46))] H) (hD : va_D A [(a_0, .inr (11, [.ref a_1, .ref a_2, .ref a_3, .ref a_4, .ref a_5, .ref a_6, .ref a_7, .ref a_8, .ref a_9, .ref a_10, .ref a_11])), (a_3, .inr (10, [.ref a_12, .ref a_13])), (a_12, .inr (0, [.int i_26, .int i_27, .int i_28, .int i_29, .int i_30, .int i_31, .int i_32, .int i_33, .ref a_14, .ref a_15, .ref a_16, .ref a_17, .ref a_18, .ref a_19, .ref a_20, .ref a_21, .ref a_22, .ref a_23])), (a_14, .inl (cy 1, 9, .inl f_26)), (a_15, .inl (cy 1, 9, .inl f_27)), (a_16, .inl (cy 1, 3, .inl f_28)), (a_17, .inl (cy 1, 210, .inl f_29)), (a_18, .inl (cy 1, 6, .inl f_30)), (a_19, .inl (cy 1, 48, .inl f_31)), (a_20, .inl (cy 1, 30, .inl f_32)), (a_21, .inl (cy 1, 30, .inl f_33)), (a_22, .inl (cy 1, 30, .inl f_34)), (a_23, .inl (cy 1, 30, .inl f_35)), (a_13, .inl (cy 5, 3, .inr (.inr (.inr (.inr (va_up (va_up (va_up (fun _ => none) 0 (some a_24)) 1 (some a_25)) 2 (some a_26))))))), (a_24, .inr (1, [.ref a_27, .ref a_28, .int n37, .int n38, .int n39])), (a_27, .inl (cy 1, 2100, .inl n40)), (a_28, .inl (cy 1, 10, .inl n41)), (a_25, .inr (1, [.ref a_29, .ref a_30, .int n42, .int n43, .int n44])), (a_29, .inl (cy 1, 2100, .inl n45)), (a_30, .inl (cy 1, 10, .inl n46)), (a_26, .inr (1, [.ref a_31, .ref a_32, .int n47, .int n48, .int n49])), (a_31, .inl (cy 1, 2100, .inl n50)), (a_32, .inl (cy 1, 10, .inl n51)), (a_4, .inl (cy 4, 3, .inr (.inr (.inr (.inr (va_up (va_up (va_up (fun _ => none) 0 (some a_33)) 1 (some a_34)) 2 (some a_35))))))), (a_33, .inr (0, [.int i_18, .int i_19, .int i_20, .int i_21, .int i_22, .int i_23, .int i_24, .int i_25, .ref a_36, .ref a_37, .ref a_38, .ref a_39, .ref a_40, .ref a_41, .ref a_42, .ref a_43, .ref a_44, .ref a_45])), (a_36, .inl (cy 1, 9, .inl f_16)), (a_37, .inl (cy 1, 9, .inl f_17)), (a_38, .inl (cy 1, 3, .inl f_18)), (a_39, .inl (cy 1, 210, .inl f_19)), (a_40, .inl (cy 1, 6, .inl f_20)), (a_41, .inl (cy 1, 48, .inl f_21)), (a_42, .inl (cy 1, 30, .inl f_22)), (a_43, .inl (cy 1, 30, .inl f_23)), (a_44, .inl (cy 1, 30, .inl f_24)), (a_45, .inl (cy 1, 30, .inl f_25)), (a_34, .inr (0, [.int i_26, .int i_27, .int i_28, .int i_29, .int i_30, .int i_31, .int i_32, .int i_33, .ref a_46, .ref a_47, .ref a_48, .ref a_49, .ref a_50, .ref a_51, .ref a_52, .ref a_53, .ref a_54, .ref a_55])), (a_46, .inl (cy 1, 9, .inl f_26)), (a_47, .inl (cy 1, 9, .inl f_27)), (a_48, .inl (cy 1, 3, .inl f_28)), (a_49, .inl (cy 1, 210, .inl f_29)), (a_50, .inl (cy 1, 6, .inl f_30)), (a_51, .inl (cy 1, 48, .inl f_31)), (a_52, .inl (cy 1, 30, .inl f_32)), (a_53, .inl (cy 1, 30, .inl f_33)), (a_54, .inl (cy 1, 30, .inl f_34)), (a_55, .inl (cy 1, 30, .inl f_35)), (a_35, .inr (0, [.int i_34, .int i_35, .int i_36, .int i_37, .int i_38, .int i_39, .int i_40, .int i_41, .ref a_56, .ref a_57, .ref a_58, .ref a_59, .ref a_60, .ref a_61, .ref a_62, .ref a_63, .ref a_64, .ref a_65])), (a_56, .inl (cy 1, 9, .inl f_36)), (a_57, .inl (cy 1, 9, .inl f_37)), (a_58, .inl (cy 1, 3, .inl f_38)), (a_59, .inl (cy 1, 210, .inl f_39)), (a_60, .inl (cy 1, 6, .inl f_40)), (a_61, .inl (cy 1, 48, .inl f_41)), (a_62, .inl (cy 1, 30, .inl f_42)), (a_63, .inl (cy 1, 30, .inl f_43)), (a_64, .inl (cy 1, 30, .inl f_44)), (a_65, .inl (cy 1, 30, .inl f_45)), (a_5, .inl (cy 3, 3, .inl f_46))]) hS
          obtain ⟨w52, w53, w54, w55, w56, w57, w58, w59, w60, w61, w62, w63⟩ := hw
          refine lv_iconst (v := 0) hx hb dX11_back_37 (by decide) ?_
          subst hAe
          rw [hQ]
          exact W.iret (v := 0) hx hb hr (fun t ht hW => ⟨⟨0, (i_26, i_27, i_28, i_29, i_30, i_31, i_32, i_33, f_26, f_27, f_28, f_29, f_30, f_31, f_32, f_33, f_34, f_35, n37, n38, n39, n40, n41, n42, n43, n44, n45, n46, n47, n48, n49, n50, n51), rfl, ⟨h46, h47, h48, h49, h50, h51, h52, h53, h54, h55, h56, h57, h58, h59, h60, h61, h62, w52, w53, w54, w55, w56, w57, w58, w59, w60, w61, w62, w63, h83, (mm_wk mm_k0 (by decide))⟩, by rw [ht]; exact hP, hK.warm hW, hD⟩, hS.F ht⟩) hS.2.2 dX11_back_38
        · refine W.eq (g2 := F0 m 34 ls [.ref a_35, .ref a_3]) rfl ?_
          refine mm_finv (va_runV (As := [.ref a_35]) (rest := []) ⟨hx, hb, hml, hown, hts⟩ (K534_X10_turnTo l G cy H.size a_3 a_35 a_12 a_13 i_1 i_2 i_3 i_4 i_5 i_6 i_7 i_8 a_14 a_15 a_16 a_17 a_18 a_19 a_20 a_21 a_22 a_23 f_0 f_1 f_2 f_3 f_4 f_5 f_6 f_7 f_8 f_9 a_24 a_25 a_26 a_27 a_28 i_9 i_10 i_11 f_10 f_11 a_29 a_30 i_12 i_13 i_14 f_12 f_13 a_31 a_32 i_15 i_16 i_17 f_14 f_15 i_34 i_35 i_36 i_37 i_38 i_39 i_40 i_41 a_56 a_57 a_58 a_59 a_60 a_61 a_62 a_63 a_64 a_65 f_36 f_37 f_38 f_39 f_40 f_41 f_42 f_43 f_44 f_45 h0 h1 h2 h3 h4 h5 h6 h7 h8 h9 h10 h11 h12 h13 h14 h15 h16 h17 h18 h19 h20 h21 h22 h23 h24 h25 h26 h27 h28 h63 h64 h65 h66 h67 h68 h69 h70 h71 h72 h73 h74 h75 h76 h77 h78 h79 h81 h84) (cwV 1 hts (mm_gV mm_w372 mm_w373 mm_w374 mm_w23 mm_w375) rfl rfl rfl hd_X10_turnTo ⟨by rw [hRf]; exact Nat.le_of_ble_eq_true rfl, by rw [hRl]; exact Nat.le_of_ble_eq_true rfl⟩) (mm_preV hK hZ hS hA hP hD [1, 2, 3, 4, 5, 6, 7, 8, 9, 10, 11, 12, 13, 14, 15, 16, 17, 18, 19, 20, 21, 22, 46, 47, 48, 49, 50, 51, 52, 53, 54, 55, 56] rfl rfl 1 rfl rfl rfl) rfl rfl hl.1 rfl (lv_room (Nat.le_of_ble_eq_true rfl)) dX11_back_34 ⟨by rw [hRc]; exact Nat.le_of_ble_eq_true rfl, by rw [hRs]; exact Nat.le_of_ble_eq_true rfl⟩) hP hD hS hA (fun u : Int32 × Int32 × Int32 × (Nat → Int32) × (Nat → Int32) × Int32 × Int32 × Int32 × (Nat → Int32) × (Nat → Int32) × Int32 × Int32 × Int32 × (Nat → Int32) × (Nat → Int32) => [(a_0, .inr (11, [.ref a_1, .ref a_2, .ref a_3, .ref a_4, .ref a_5, .ref a_6, .ref a_7, .ref a_8, .ref a_9, .ref a_10, .ref a_11])), (a_3, .inr (10, [.ref a_12, .ref a_13])), (a_12, .inr (0, [.int i_34, .int i_35, .int i_36, .int i_37, .int i_38, .int i_39, .int i_40, .int i_41, .ref a_14, .ref a_15, .ref a_16, .ref a_17, .ref a_18, .ref a_19, .ref a_20, .ref a_21, .ref a_22, .ref a_23])), (a_14, .inl (cy 1, 9, .inl f_36)), (a_15, .inl (cy 1, 9, .inl f_37)), (a_16, .inl (cy 1, 3, .inl f_38)), (a_17, .inl (cy 1, 210, .inl f_39)), (a_18, .inl (cy 1, 6, .inl f_40)), (a_19, .inl (cy 1, 48, .inl f_41)), (a_20, .inl (cy 1, 30, .inl f_42)), (a_21, .inl (cy 1, 30, .inl f_43)), (a_22, .inl (cy 1, 30, .inl f_44)), (a_23, .inl (cy 1, 30, .inl f_45)), (a_13, .inl (cy 5, 3, .inr (.inr (.inr (.inr (va_up (va_up (va_up (fun _ => none) 0 (some a_24)) 1 (some a_25)) 2 (some a_26))))))), (a_24, .inr (1, [.ref a_27, .ref a_28, .int u.1, .int u.2.1, .int u.2.2.1])), (a_27, .inl (cy 1, 2100, .inl u.2.2.2.1)), (a_28, .inl (cy 1, 10, .inl u.2.2.2.2.1)), (a_25, .inr (1, [.ref a_29, .ref a_30, .int u.2.2.2.2.2.1, .int u.2.2.2.2.2.2.1, .int u.2.2.2.2.2.2.2.1])), (a_29, .inl (cy 1, 2100, .inl u.2.2.2.2.2.2.2.2.1)), (a_30, .inl (cy 1, 10, .inl u.2.2.2.2.2.2.2.2.2.1)), (a_26, .inr (1, [.ref a_31, .ref a_32, .int u.2.2.2.2.2.2.2.2.2.2.1, .int u.2.2.2.2.2.2.2.2.2.2.2.1, .int u.2.2.2.2.2.2.2.2.2.2.2.2.1])), (a_31, .inl (cy 1, 2100, .inl u.2.2.2.2.2.2.2.2.2.2.2.2.2.1)), (a_32, .inl (cy 1, 10, .inl u.2.2.2.2.2.2.2.2.2.2.2.2.2.2)), (a_4, .inl (cy 4, 3, .inr (.inr (.inr (.inr (va_up (va_up (va_up (fun _ => none) 0 (some a_33)) 1 (some a_34)) 2 (some a_35))))))), (a_33, .inr (0, [.int i_18, .int i_19, .int i_20, .int i_21, .int i_22, .int i_23, .int i_24, .int i_25, .ref a_36, .ref a_37, .ref a_38, .ref a_39, .ref a_40, .ref a_41, .ref a_42, .ref a_43, .ref a_44, .ref a_45])), (a_36, .inl (cy 1, 9, .inl f_16)), (a_37, .inl (cy 1, 9, .inl f_17)), (a_38, .inl (cy 1, 3, .inl f_18)), (a_39, .inl (cy 1, 210, .inl f_19)), (a_40, .inl (cy 1, 6, .inl f_20)), (a_41, .inl (cy 1, 48, .inl f_21)), (a_42, .inl (cy 1, 30, .inl f_22)), (a_43, .inl (cy 1, 30, .inl f_23)), (a_44, .inl (cy 1, 30, .inl f_24)), (a_45, .inl (cy 1, 30, .inl f_25)), (a_34, .inr (0, [.int i_26, .int i_27, .int i_28, .int i_29, .int i_30, .int i_31, .int i_32, .int i_33, .ref a_46, .ref a_47, .ref a_48, .ref a_49, .ref a_50, .ref a_51, .ref a_52, .ref a_53, .ref a_54, .ref a_55])), (a_46, .inl (cy 1, 9, .inl f_26)), (a_47, .inl (cy 1, 9, .inl f_27)), (a_48, .inl (cy 1, 3, .inl f_28)), (a_49, .inl (cy 1, 210, .inl f_29)), (a_50, .inl (cy 1, 6, .inl f_30)), (a_51, .inl (cy 1, 48, .inl f_31)), (a_52, .inl (cy 1, 30, .inl f_32)), (a_53, .inl (cy 1, 30, .inl f_33)), (a_54, .inl (cy 1, 30, .inl f_34)), (a_55, .inl (cy 1, 30, .inl f_35)), (a_35, .inr (0, [.int i_34, .int i_35, .int i_36, .int i_37, .int i_38, .int i_39, .int i_40, .int i_41, .ref a_56, .ref a_57, .ref a_58, .ref a_59, .ref a_60, .ref a_61, .ref a_62, .ref a_63, .ref a_64, .ref a_65])), (a_56, .inl (cy 1, 9, .inl f_36)), (a_57, .inl (cy 1, 9, .inl f_37)), (a_58, .inl (cy 1, 3, .inl f_38)), (a_59, .inl (cy 1, 210, .inl f_39)), (a_60, .inl (cy 1, 6, .inl f_40)), (a_61, .inl (cy 1, 48, .inl f_41)), (a_62, .inl (cy 1, 30, .inl f_42)), (a_63, .inl (cy 1, 30, .inl f_43)), (a_64, .inl (cy 1, 30, .inl f_44)), (a_65, .inl (cy 1, 30, .inl f_45)), (a_5, .inl (cy 3, 3, .inl f_46))]) [1, 2, 3, 4, 5, 6, 7, 8, 9, 10, 11, 12, 13, 14, 15, 16, 17, 18, 19, 20, 21, 22, 46, 47, 48, 49, 50, 51, 52, 53, 54, 55, 56] [0, 23, 24, 25, 26, 27, 28, 29, 30, 31, 32, 33, 34, 35, 36, 37, 38, 39, 40, 41, 42, 43, 44, 45, 57] (n := 58) (fun _ => rfl) (by decide +kernel) (by decide +kernel) rfl (fun _ => rfl) (wr := [(a_0, .inr (11, [.ref a_1, .ref a_2, .ref a_3, .ref a_4, .ref a_5, .ref a_6, .ref a_7, .ref a_8, .ref a_9, .ref a_10, .ref a_11])), (a_4, .inl (cy 4, 3, .inr (.inr (.inr (.inr (va_up (va_up (va_up (fun _ => none) 0 (some a_33)) 1 (some a_34)) 2 (some a_35))))))), (a_33, .inr (0, [.int i_18, .int i_19, .int i_20, .int i_21, .int i_22, .int i_23, .int i_24, .int i_25, .ref a_36, .ref a_37, .ref a_38, .ref a_39, .ref a_40, .ref a_41, .ref a_42, .ref a_43, .ref a_44, .ref a_45])), (a_36, .inl (cy 1, 9, .inl f_16)), (a_37, .inl (cy 1, 9, .inl f_17)), (a_38, .inl (cy 1, 3, .inl f_18)), (a_39, .inl (cy 1, 210, .inl f_19)), (a_40, .inl (cy 1, 6, .inl f_20)), (a_41, .inl (cy 1, 48, .inl f_21)), (a_42, .inl (cy 1, 30, .inl f_22)), (a_43, .inl (cy 1, 30, .inl f_23)), (a_44, .inl (cy 1, 30, .inl f_24)), (a_45, .inl (cy 1, 30, .inl f_25)), (a_34, .inr (0, [.int i_26, .int i_27, .int i_28, .int i_29, .int i_30, .int i_31, .int i_32, .int i_33, .ref a_46, .ref a_47, .ref a_48, .ref a_49, .ref a_50, .ref a_51, .ref a_52, .ref a_53, .ref a_54, .ref a_55])), (a_46, .inl (cy 1, 9, .inl f_26)), (a_47, .inl (cy 1, 9, .inl f_27)), (a_48, .inl (cy 1, 3, .inl f_28)), (a_49, .inl (cy 1, 210, .inl f_29)), (a_50, .inl (cy 1, 6, .inl f_30)), (a_51, .inl (cy 1, 48, .inl f_31)), (a_52, .inl (cy 1, 30, .inl f_32)), (a_53, .inl (cy 1, 30, .inl f_33)), (a_54, .inl (cy 1, 30, .inl f_34)), (a_55, .inl (cy 1, 30, .inl f_35)), (a_5, .inl (cy 3, 3, .inl f_46))]) rfl (fun _ => rfl) (fun _ => rfl) ?_
          clear hP hD hS
          clear H locs
          intro u
          obtain ⟨n64, n65, n66, n67, n68, n69, n70, n71, n72, n73, n74, n75, n76, n77, n78⟩ := u
          intro H locs hw (hP : va_P G vwCl [(a_0, .inr (11, [.ref a_1, .ref a_2, .ref a_3, .ref a_4, .ref a_5, .ref a_6, .ref a_7, .ref a_8, .ref a_9, .ref a_10, .ref a_11])), (a_3, .inr (10, [.ref a_12, .ref a_13])), (a_12, .inr (0, [.int i_34, .int i_35, .int i_36, .int i_37, .int i_38, .int i_39, .int i_40, .int i_41, .ref a_14, .ref a_15, .ref a_16, .ref a_17, .ref a_18, .ref a_19, .ref a_20, .ref a_21, .ref a_22, .ref a_23])), (a_14, .inl (cy 1, 9, .inl f_36)), (a_15, .inl (cy 1, 9, .inl f_37)), (a_16, .inl (cy 1, 3, .inl f_38)), (a_17, .inl (cy 1, 210, .inl f_39)), (a_18, .inl (cy 1, 6, .inl f_40)), (a_19, .inl (cy 1, 48, .inl f_41)), (a_20, .inl (cy 1, 30, .inl f_42)), (a_21, .inl (cy 1, 30, .inl f_43)), (a_22, .inl (cy 1, 30, .inl f_44)), (a_23, .inl (cy 1, 30, .inl f_45)), (a_13, .inl (cy 5, 3, .inr (.inr (.inr (.inr (va_up (va_up (va_up (fun _ => none) 0 (some a_24)) 1 (some a_25)) 2 (some a_26))))))), (a_24, .inr (1, [.ref a_27, .ref a_28, .int n64, .int n65, .int n66])), (a_27, .inl (cy 1, 2100, .inl n67)), (a_28, .inl (cy 1, 10, .inl n68)), (a_25, .inr (1, [.ref a_29, .ref a_30, .int n69, .int n70, .int n71])), (a_29, .inl (cy 1, 2100, .inl n72)), (a_30, .inl (cy 1, 10, .inl n73)), (a_26, .inr (1, [.ref a_31, .ref a_32, .int n74, .int n75, .int n76])), (a_31, .inl (cy 1, 2100, .inl n77)), (a_32, .inl (cy 1, 10, .inl n78)), (a_4, .inl (cy 4, 3, .inr (.inr (.inr (.inr (va_up (va_up (va_up (fun _ => none) 0 (some a_33)) 1 (some a_34)) 2 (some a_35))))))), (a_33, .inr (0, [.int i_18, .int i_19, .int i_20, .int i_21, .int i_22, .int i_23, .int i_24, .int i_25, .ref a_36, .ref a_37, .ref a_38, .ref a_39, .ref a_40, .ref a_41, .ref a_42, .ref a_43, .ref a_44, .ref a_45])), (a_36, .inl (cy 1, 9, .inl f_16)), (a_37, .inl (cy 1, 9, .inl f_17)), (a_38, .inl (cy 1, 3, .inl f_18)), (a_39, .inl (cy 1, 210, .inl f_19)), (a_40, .inl (cy 1, 6, .inl f_20)), (a_41, .inl (cy 1, 48, .inl f_21)), (a_42, .inl (cy 1, 30, .inl f_22)), (a_43, .inl (cy 1, 30, .inl f_23)), (a_44, .inl (cy 1, 30, .inl f_24)), (a_45, .inl (cy 1, 30, .inl f_25)), (a_34, .inr (0, [.int i_26, .int i_27, .int i_28, .int i_29, .int i_30, .int i_31, .int i_32, .int i_33, .ref a_46, .ref a_47, .ref a_48, .ref a_49, .ref a_50, .ref a_51, .ref a_52, .ref a_53, .ref a_54, .ref a_55])), (a_46, .inl (cy 1, 9, .inl f_26)), (a_47, .inl (cy 1, 9, .inl f_27)), (a_48, .inl (cy 1, 3, .inl f_28)), (a_49, .inl (cy 1, 210, .inl f_29)), (a_50, .inl (cy 1, 6, .inl f_30)), (a_51, .inl (cy 1, 48, .inl f_31)), (a_52, .inl (cy 1, 30, .inl f_32)), (a_53, .inl (cy 1, 30, .inl f_33)), (a_54, .inl (cy 1, 30, .inl f_34)), (a_55, .inl (cy 1, 30, .inl f_35)), (a_35, .inr (0, [.int i_34, .int i_35, .int i_36, .int i_37, .int i_38, .int i_39, .int i_40, .int i_41, .ref a_56, .ref a_57, .ref a_58, .ref a_59, .ref a_60, .ref a_61, .ref a_62, .ref a_63, .ref a_64, .ref a_65])), (a_56, .inl (cy 1, 9, .inl f_36)), (a_57, .inl (cy 1, 9, .inl f_37)), (a_58, .inl (cy 1, 3, .inl f_38)), (a_59, .inl (cy 1, 210, .inl f_39)), (a_60, .inl (cy 1, 6, .inl f_40)), (a_61, .inl (cy 1, 48, .inl f_41)), (a_62, .inl (cy 1, 30, .inl f_42)), (a_63, .inl (cy 1, 30, .inl f_43)), (a_64, .inl (cy 1, 30, .inl f_44)), (a_65, .inl (cy 1, 30, .inl f_45)), (a_5, .inl (cy 3, 3, .inl f_46))] H) (hD : va_D A [(a_0, .inr (11, [.ref a_1, .ref a_2, .ref a_3, .ref a_4, .ref a_5, .ref a_6, .ref a_7, .ref a_8, .ref a_9, .ref a_10, .ref a_11])), (a_3, .inr (10, [.ref a_12, .ref a_13])), (a_12, .inr (0, [.int i_34, .int i_35, .int i_36, .int i_37, .int i_38, .int i_39, .int i_40, .int i_41, .ref a_14, .ref a_15, .ref a_16, .ref a_17, .ref a_18, .ref a_19, .ref a_20, .ref a_21, .ref a_22, .ref a_23])), (a_14, .inl (cy 1, 9, .inl f_36)), (a_15, .inl (cy 1, 9, .inl f_37)), (a_16, .inl (cy 1, 3, .inl f_38)), (a_17, .inl (cy 1, 210, .inl f_39)), (a_18, .inl (cy 1, 6, .inl f_40)), (a_19, .inl (cy 1, 48, .inl f_41)), (a_20, .inl (cy 1, 30, .inl f_42)), (a_21, .inl (cy 1, 30, .inl f_43)), (a_22, .inl (cy 1, 30, .inl f_44)), (a_23, .inl (cy 1, 30, .inl f_45)), (a_13, .inl (cy 5, 3, .inr (.inr (.inr (.inr (va_up (va_up (va_up (fun _ => none) 0 (some a_24)) 1 (some a_25)) 2 (some a_26))))))), (a_24, .inr (1, [.ref a_27, .ref a_28, .int n64, .int n65, .int n66])), (a_27, .inl (cy 1, 2100, .inl n67)), (a_28, .inl (cy 1, 10, .inl n68)), (a_25, .inr (1, [.ref a_29, .ref a_30, .int n69, .int n70, .int n71])), (a_29, .inl (cy 1, 2100, .inl n72)), (a_30, .inl (cy 1, 10, .inl n73)), (a_26, .inr (1, [.ref a_31, .ref a_32, .int n74, .int n75, .int n76])), (a_31, .inl (cy 1, 2100, .inl n77)), (a_32, .inl (cy 1, 10, .inl n78)), (a_4, .inl (cy 4, 3, .inr (.inr (.inr (.inr (va_up (va_up (va_up (fun _ => none) 0 (some a_33)) 1 (some a_34)) 2 (some a_35))))))), (a_33, .inr (0, [.int i_18, .int i_19, .int i_20, .int i_21, .int i_22, .int i_23, .int i_24, .int i_25, .ref a_36, .ref a_37, .ref a_38, .ref a_39, .ref a_40, .ref a_41, .ref a_42, .ref a_43, .ref a_44, .ref a_45])), (a_36, .inl (cy 1, 9, .inl f_16)), (a_37, .inl (cy 1, 9, .inl f_17)), (a_38, .inl (cy 1, 3, .inl f_18)), (a_39, .inl (cy 1, 210, .inl f_19)), (a_40, .inl (cy 1, 6, .inl f_20)), (a_41, .inl (cy 1, 48, .inl f_21)), (a_42, .inl (cy 1, 30, .inl f_22)), (a_43, .inl (cy 1, 30, .inl f_23)), (a_44, .inl (cy 1, 30, .inl f_24)), (a_45, .inl (cy 1, 30, .inl f_25)), (a_34, .inr (0, [.int i_26, .int i_27, .int i_28, .int i_29, .int i_30, .int i_31, .int i_32, .int i_33, .ref a_46, .ref a_47, .ref a_48, .ref a_49, .ref a_50, .ref a_51, .ref a_52, .ref a_53, .ref a_54, .ref a_55])), (a_46, .inl (cy 1, 9, .inl f_26)), (a_47, .inl (cy 1, 9, .inl f_27)), (a_48, .inl (cy 1, 3, .inl f_28)), (a_49, .inl (cy 1, 210, .inl f_29)), (a_50, .inl (cy 1, 6, .inl f_30)), (a_51, .inl (cy 1, 48, .inl f_31)), (a_52, .inl (cy 1, 30, .inl f_32)), (a_53, .inl (cy 1, 30, .inl f_33)), (a_54, .inl (cy 1, 30, .inl f_34)), (a_55, .inl (cy 1, 30, .inl f_35)), (a_35, .inr (0, [.int i_34, .int i_35, .int i_36, .int i_37, .int i_38, .int i_39, .int i_40, .int i_41, .ref a_56, .ref a_57, .ref a_58, .ref a_59, .ref a_60, .ref a_61, .ref a_62, .ref a_63, .ref a_64, .ref a_65])), (a_56, .inl (cy 1, 9, .inl f_36)), (a_57, .inl (cy 1, 9, .inl f_37)), (a_58, .inl (cy 1, 3, .inl f_38)), (a_59, .inl (cy 1, 210, .inl f_39)), (a_60, .inl (cy 1, 6, .inl f_40)), (a_61, .inl (cy 1, 48, .inl f_41)), (a_62, .inl (cy 1, 30, .inl f_42)), (a_63, .inl (cy 1, 30, .inl f_43)), (a_64, .inl (cy 1, 30, .inl f_44)), (a_65, .inl (cy 1, 30, .inl f_45)), (a_5, .inl (cy 3, 3, .inl f_46))]) hS
          obtain ⟨w79, w80, w81, w82, w83, w84, w85, w86, w87, w88, w89, w90⟩ := hw
          refine lv_iconst (v := 0) hx hb dX11_back_37 (by decide) ?_
          subst hAe
          rw [hQ]
          exact W.iret (v := 0) hx hb hr (fun t ht hW => ⟨⟨0, (i_34, i_35, i_36, i_37, i_38, i_39, i_40, i_41, f_36, f_37, f_38, f_39, f_40, f_41, f_42, f_43, f_44, f_45, n64, n65, n66, n67, n68, n69, n70, n71, n72, n73, n74, n75, n76, n77, n78), rfl, ⟨h63, h64, h65, h66, h67, h68, h69, h70, h71, h72, h73, h74, h75, h76, h77, h78, h79, w79, w80, w81, w82, w83, w84, w85, w86, w87, w88, w89, w90, h84, (mm_wk mm_k0 (by decide))⟩, by rw [ht]; exact hP, hK.warm hW, hD⟩, hS.F ht⟩) hS.2.2 dX11_back_38
      · have q91 := mm_eqI (lo := 0) (hi := 0) c7 rv6 mm_k0 (by decide)
        refine lv_bipush (v := (-6)) hx hb dX11_back_21 (by decide) ?_
        subst hAe
        rw [hQ]
        exact W.iret (v := (-6)) hx hb hr (fun t ht hW => ⟨⟨(-6), (i_1, i_2, i_3, i_4, i_5, i_6, i_7, i_8, f_0, f_1, f_2, f_3, f_4, f_5, f_6, f_7, f_8, f_9, i_9, i_10, i_11, f_10, f_11, i_12, i_13, i_14, f_12, f_13, i_15, i_16, i_17, f_14, f_15), rfl, ⟨h0, h1, h2, h3, h4, h5, h6, h7, h8, h9, h10, h11, h12, h13, h14, h15, h16, h17, h18, h19, h20, h21, h22, h23, h24, h25, h26, h27, h28, h81, (mm_wk mm_km6 (by decide))⟩, by rw [ht]; exact hP, hK.warm hW, hD⟩, hS.F ht⟩) hS.2.2 dX11_back_23
    · have q92 := mm_leR (mm_nlt c4) mm_k3 q3
      refine lv_bipush (v := (-2)) hx hb dX11_back_9 (by decide) ?_
      subst hAe
      rw [hQ]
      exact W.iret (v := (-2)) hx hb hr (fun t ht hW => ⟨⟨(-2), (i_1, i_2, i_3, i_4, i_5, i_6, i_7, i_8, f_0, f_1, f_2, f_3, f_4, f_5, f_6, f_7, f_8, f_9, i_9, i_10, i_11, f_10, f_11, i_12, i_13, i_14, f_12, f_13, i_15, i_16, i_17, f_14, f_15), rfl, ⟨h0, h1, h2, h3, h4, h5, h6, h7, h8, h9, h10, h11, h12, h13, h14, h15, h16, h17, h18, h19, h20, h21, h22, h23, h24, h25, h26, h27, h28, h81, (mm_wk mm_km2 (by decide))⟩, by rw [ht]; exact hP, hK.warm hW, hD⟩, hS.F ht⟩) hS.2.2 dX11_back_11

set_option maxHeartbeats 4000000 in
set_option maxRecDepth 100000 in
theorem K536_J7_fill_d0a16 (l : Launch) (G : va_G) (cy : Nat → ClassId) (sz : Nat) (a_0 : Nat) (f_0 : Nat → Int64)   : mm_CV l yJ7_fill_d0a16 (mm_ws yJ7_fill_d0a16 cJ7_fill_d0a16 5 (none)) ({ frames := 0, cells := 0, slots := 0, locals := 0 } : Room) G cy sz [(a_0, .inl (cy 2, 60, .inr (.inl f_0)))] [.ref a_0, .long 0] (fun u : (Nat → Int64) => [(a_0, .inl (cy 2, 60, .inr (.inl u)))]) (fun u : (Nat → Int64) => True) 0 0 := by
  refine mm_begin (lv := [(0, .ref a_0), (1, .long 0)]) (by decide) (Nat.le_of_ble_eq_true rfl) rfl ?_
  intro p e s m below meth c A ls R args Q H locs hRe hQ hAe hx hb hr hlocks hml hown hnm hts hsz hA hS hP hK hD hZ hl
  have hRf : R.frames = 0 := by rw [hRe]
  have hRl : R.locals = 0 := by rw [hRe]
  have hRc : R.cells = 0 := by rw [hRe]
  have hRs : R.slots = 0 := by rw [hRe]
  refine lv_iconst (v := 0) hx hb dJ7_fill_d0a16_0 (by decide) ?_
  refine lv_istore_n (lv' := [(3, .int 0), (0, .ref a_0), (1, .long 0)]) hx hb dJ7_fill_d0a16_1 rfl hl (by decide) rfl ?_
  clear hl
  clear ls
  intro ls hl
  refine lv_aload_n hx hb dJ7_fill_d0a16_2 rfl (lv_at hl 1 rfl) ?_
  refine va_alen (v := 60) hx hb hK.1 hP 0 2 rfl rfl rfl dJ7_fill_d0a16_3 ?_
  refine lv_istore (lv' := [(4, .int 60), (3, .int 0), (0, .ref a_0), (1, .long 0)]) hx hb dJ7_fill_d0a16_4 hl (by decide) rfl ?_
  clear hl
  clear ls
  intro ls hl
  have L6_59 : ∀ (n : Nat) (x6_3_58 : Int32) (z6_0_59 : Nat → Int64), mm_rg x6_3_58 0 60 → (60 - x6_3_58.toInt).toNat < n → ∀ (H : Heap) (locs : List Loc), va_P G vwCl [(a_0, .inl (cy 2, 60, .inr (.inl z6_0_59)))] H → va_D A [(a_0, .inl (cy 2, 60, .inr (.inl z6_0_59)))] → va_S A s.heap H locs → ∀ (ls : Array Slot), lv_has ls 5 [(4, .int 60), (3, .int x6_3_58), (0, .ref a_0), (1, .long 0)] → W p l e R s m args below meth c H locs 0 0 Q (F0 m 6 ls []) := by
    intro n
    induction n with
    | zero => intro x6_3_58 z6_0_59 rx6_3_58 hm; exact absurd hm (Nat.not_lt_zero _)
    | succ n ih6 =>
      intro x6_3_58 z6_0_59 rx6_3_58 hm6 H locs hP hD hS ls hl
      refine lv_iload_n hx hb dJ7_fill_d0a16_6 rfl (lv_at hl 1 rfl) ?_
      refine lv_iload hx hb dJ7_fill_d0a16_7 (lv_at hl 0 rfl) ?_
      refine lv_icmp_ge (tgt := 22) hx hb dJ7_fill_d0a16_9 (by decide) (fun c61 => ?_) (fun c61 => ?_)
      · have q62 := mm_leR (mm_le c61) mm_k60 rx6_3_58
        subst hAe
        rw [hQ]
        exact W.vret hx hb hr (fun t ht hW => ⟨⟨z6_0_59, rfl, trivial, by rw [ht]; exact hP, hK.warm hW, hD⟩, hS.F ht⟩) hS.2.2 dJ7_fill_d0a16_22
      · have q63 := mm_ltL (h := 59) (mm_nle c61) rx6_3_58 mm_k60 (by decide)
        refine lv_aload_n hx hb dJ7_fill_d0a16_12 rfl (lv_at hl 2 rfl) ?_
        refine lv_iload_n hx hb dJ7_fill_d0a16_13 rfl (lv_at hl 1 rfl) ?_
        refine lv_lload_n hx hb dJ7_fill_d0a16_14 rfl (lv_at hl 3 rfl) ?_
        refine va_last hx hb hK.1 hP hD hS 0 2 rfl rfl (mm_in q63 (by decide)) dJ7_fill_d0a16_15 ?_
        clear hP hD hS
        clear H locs
        obtain ⟨g64, eg64⟩ : ∃ z : Nat → Int64, z = vp_updL z6_0_59 x6_3_58.toNatClampNeg 0 := ⟨_, rfl⟩
        rw [← eg64]
        intro H locs (hP : va_P G vwCl [(a_0, .inl (cy 2, 60, .inr (.inl g64)))] H) (hD : va_D A [(a_0, .inl (cy 2, 60, .inr (.inl g64)))]) hS
        obtain ⟨v65, ev65⟩ : ∃ y : Int32, y = x6_3_58 + 1 := ⟨_, rfl⟩
        refine lv_iinc (v := v65) (lv' := [(3, .int v65), (4, .int 60), (0, .ref a_0), (1, .long 0)]) hx hb dJ7_fill_d0a16_16 hl (k := 1) rfl (by rw [ev65]; rfl) (by decide) rfl ?_
        clear hl
        clear ls
        intro ls hl
        have rv65 : mm_rg v65 1 60 := mm_add ev65 q63 mm_k1 (by decide) (by decide)
        have tv65 := mm_addEc ev65 q63 mm_k1 (by decide) (k := 1) (by decide)
        refine lv_goto (tgt := 6) hx hb dJ7_fill_d0a16_19 (by decide) ?_
        exact ih6 v65 g64 (mm_wk rv65 (by decide)) (mm_mu hm6 tv65 (by decide) (rv65).2 (by decide)) H locs hP hD hS ls (lv_sub hl [1, 0, 2, 3] rfl)
  exact L6_59 _ 0 f_0 (mm_wk mm_k0 (by decide)) (Nat.lt_succ_self _) H locs hP hD hS ls (lv_sub hl [0, 1, 2, 3] rfl)

set_option maxHeartbeats 4000000 in
set_option maxRecDepth 100000 in
theorem K537_X6_begin (l : Launch) (G : va_G) (cy : Nat → ClassId) (sz : Nat) (a_0 : Nat) (i_0 : Int32) (i_1 : Int32) (i_2 : Int32) (i_3 : Int32) (i_4 : Int32) (a_1 : Nat) (f_0 : Nat → Int64) (h0 : mm_rg i_0 0 3) (h1 : mm_rg i_1 0 60) (h2 : mm_rg i_2 0 1) (h3 : mm_rg i_3 0 3) (h4 : mm_rg i_4 0 60)  : mm_CV l yX6_begin (mm_ws yX6_begin cX6_begin 3 (none)) ({ frames := 1, cells := 0, slots := 0, locals := 40 } : Room) G cy sz [(a_0, .inr (6, [.int i_2, .int i_3, .int i_4, .ref a_1])), (a_1, .inl (cy 2, 60, .inr (.inl f_0)))] [.ref a_0, .int i_0, .int i_1] (fun u : Int32 × (Nat → Int64) => [(a_0, .inr (6, [.int 1, .int i_0, .int u.1, .ref a_1])), (a_1, .inl (cy 2, 60, .inr (.inl u.2)))]) (fun u : Int32 × (Nat → Int64) => mm_rg u.1 0 60) 0 0 := by
  refine mm_begin (lv := [(0, .ref a_0), (1, .int i_0), (2, .int i_1)]) (by decide) (Nat.le_of_ble_eq_true rfl) rfl ?_
  intro p e s m below meth c A ls R args Q H locs hRe hQ hAe hx hb hr hlocks hml hown hnm hts hsz hA hS hP hK hD hZ hl
  have hRf : R.frames = 1 := by rw [hRe]
  have hRl : R.locals = 40 := by rw [hRe]
  have hRc : R.cells = 0 := by rw [hRe]
  have hRs : R.slots = 0 := by rw [hRe]
  refine lv_aload_n hx hb dX6_begin_0 rfl (lv_at hl 0 rfl) ?_
  refine lv_iconst (v := 1) hx hb dX6_begin_1 (by decide) ?_
  refine va_put (D := G) (ci := 6) (v := .int 1) (ty := tyX6 0) (C := RX6) (T := TX6) (N := 4) hx hb hts (mm_i inlX6) tyX6 tyX6_ok nmX6 hown hK.1 hP hD hS 0 rfl rfl 0 (by decide) (mm_h hts mm_w1681) (fun _ h9 => h9) rfl (tyX6_ok 0 (by decide)) rfl rfl (Nat.le_of_ble_eq_true rfl) dX6_begin_2 ?_
  clear hP hD hS
  clear H locs
  intro H locs (hP : va_P G vwCl [(a_0, .inr (6, [.int 1, .int i_3, .int i_4, .ref a_1])), (a_1, .inl (cy 2, 60, .inr (.inl f_0)))] H) (hD : va_D A [(a_0, .inr (6, [.int 1, .int i_3, .int i_4, .ref a_1])), (a_1, .inl (cy 2, 60, .inr (.inl f_0)))]) hS
  refine lv_aload_n hx hb dX6_begin_5 rfl (lv_at hl 0 rfl) ?_
  refine lv_iload_n hx hb dX6_begin_6 rfl (lv_at hl 1 rfl) ?_
  refine va_put (D := G) (ci := 6) (v := .int i_0) (ty := tyX6 1) (C := RX6) (T := TX6) (N := 4) hx hb hts (mm_i inlX6) tyX6 tyX6_ok nmX6 hown hK.1 hP hD hS 0 rfl rfl 1 (by decide) (mm_h hts mm_w1682) (fun _ h9 => h9) rfl (tyX6_ok 1 (by decide)) rfl rfl (Nat.le_of_ble_eq_true rfl) dX6_begin_7 ?_
  clear hP hD hS
  clear H locs
  intro H locs (hP : va_P G vwCl [(a_0, .inr (6, [.int 1, .int i_0, .int i_4, .ref a_1])), (a_1, .inl (cy 2, 60, .inr (.inl f_0)))] H) (hD : va_D A [(a_0, .inr (6, [.int 1, .int i_0, .int i_4, .ref a_1])), (a_1, .inl (cy 2, 60, .inr (.inl f_0)))]) hS
  refine lv_aload_n hx hb dX6_begin_10 rfl (lv_at hl 0 rfl) ?_
  refine lv_iload_n hx hb dX6_begin_11 rfl (lv_at hl 2 rfl) ?_
  refine lv_bipush (v := 60) hx hb dX6_begin_12 (by decide) ?_
  refine va_mmin hx hb (by rw [hml]; exact hl.1.symm) hown (mm_h hts mm_w1683) (mm_h hts mm_w385) (mm_h hts mm_w346) (mm_h hts mm_w386) (by rw [hRf]; exact Nat.le_of_ble_eq_true rfl) (by rw [hRl]; exact Nat.le_of_ble_eq_true rfl) (by rw [hRc]; exact Nat.le_of_ble_eq_true rfl) (by rw [hRs]; exact Nat.le_of_ble_eq_true rfl) dX6_begin_14 ?_
  refine lv_topi (fun v1 ev1 => ?_)
  have rv1 : mm_rg v1 0 60 := mm_min ev1 h1 mm_k60 (by decide)
  refine va_put (D := G) (ci := 6) (v := .int v1) (ty := tyX6 2) (C := RX6) (T := TX6) (N := 4) hx hb hts (mm_i inlX6) tyX6 tyX6_ok nmX6 hown hK.1 hP hD hS 0 rfl rfl 2 (by decide) (mm_h hts mm_w1684) (fun _ h9 => h9) rfl (tyX6_ok 2 (by decide)) rfl rfl (Nat.le_of_ble_eq_true rfl) dX6_begin_17 ?_
  clear hP hD hS
  clear H locs
  intro H locs (hP : va_P G vwCl [(a_0, .inr (6, [.int 1, .int i_0, .int v1, .ref a_1])), (a_1, .inl (cy 2, 60, .inr (.inl f_0)))] H) (hD : va_D A [(a_0, .inr (6, [.int 1, .int i_0, .int v1, .ref a_1])), (a_1, .inl (cy 2, 60, .inr (.inl f_0)))]) hS
  refine lv_aload_n hx hb dX6_begin_20 rfl (lv_at hl 0 rfl) ?_
  refine va_get (D := G) (ci := 6) (v := .ref a_1) (C := RX6) (T := TX6) (N := 4) hx hb hts (mm_i inlX6) hown hK.1 hP 0 rfl rfl 3 (by decide) (mm_h hts mm_w104) (fun _ h9 => h9) rfl dX6_begin_21 ?_
  refine lv_lconst (v := 0) hx hb dX6_begin_24 (by decide) ?_
  refine mm_finv (va_runS (As := [.ref a_1, .long 0]) (rest := []) ⟨hx, hb, hml, hown, hts⟩ (K536_J7_fill_d0a16 l G cy H.size a_1 f_0 ) (va_cwS 2 hts (mm_gS mm_w1685 mm_w1505 mm_w225 mm_w1506) rfl rfl rfl hs_J7_fill_d0a16 ⟨by rw [hRf]; exact Nat.le_of_ble_eq_true rfl, by rw [hRl]; exact Nat.le_of_ble_eq_true rfl⟩) (mm_preS hK hZ hS hA hP hD [1] rfl rfl) rfl rfl hl.1 rfl (lv_room (Nat.le_of_ble_eq_true rfl)) dX6_begin_25 ⟨by rw [hRc]; exact Nat.le_of_ble_eq_true rfl, by rw [hRs]; exact Nat.le_of_ble_eq_true rfl⟩) hP hD hS hA (fun u : (Nat → Int64) => [(a_0, .inr (6, [.int 1, .int i_0, .int v1, .ref a_1])), (a_1, .inl (cy 2, 60, .inr (.inl u)))]) [1] [0] (n := 2) (fun _ => rfl) (by decide +kernel) (by decide +kernel) rfl (fun _ => rfl) (wr := [(a_0, .inr (6, [.int 1, .int i_0, .int v1, .ref a_1]))]) rfl (fun _ => rfl) (fun _ => rfl) ?_
  clear hP hD hS
  clear H locs
  intro n2 H locs hw (hP : va_P G vwCl [(a_0, .inr (6, [.int 1, .int i_0, .int v1, .ref a_1])), (a_1, .inl (cy 2, 60, .inr (.inl n2)))] H) (hD : va_D A [(a_0, .inr (6, [.int 1, .int i_0, .int v1, .ref a_1])), (a_1, .inl (cy 2, 60, .inr (.inl n2)))]) hS
  subst hAe
  rw [hQ]
  exact W.vret hx hb hr (fun t ht hW => ⟨⟨(v1, n2), rfl, rv1, by rw [ht]; exact hP, hK.warm hW, hD⟩, hS.F ht⟩) hS.2.2 dX6_begin_28

set_option maxHeartbeats 4000000 in
set_option maxRecDepth 100000 in
theorem K538_X11_row (l : Launch) (G : va_G) (cy : Nat → ClassId) (sz : Nat) (a_0 : Nat) (i_0 : Int32) (i_1 : Int32) (i_2 : Int32) (a_1 : Nat) (a_2 : Nat) (a_3 : Nat) (a_4 : Nat) (a_5 : Nat) (a_6 : Nat) (a_7 : Nat) (a_8 : Nat) (a_9 : Nat) (a_10 : Nat) (a_11 : Nat) (a_12 : Nat) (a_13 : Nat) (a_14 : Nat) (a_15 : Nat) (i_3 : Int32) (i_4 : Int32) (i_5 : Int32) (a_16 : Nat) (f_0 : Nat → Int64) (i_6 : Int32) (i_7 : Int32) (i_8 : Int32) (a_17 : Nat) (f_1 : Nat → Int64) (i_9 : Int32) (i_10 : Int32) (i_11 : Int32) (a_18 : Nat) (f_2 : Nat → Int64) (i_12 : Int32) (i_13 : Int32) (i_14 : Int32) (a_19 : Nat) (f_3 : Nat → Int64) (h0 : mm_rg i_3 0 1) (h1 : mm_rg i_4 0 3) (h2 : mm_rg i_5 0 60) (h3 : mm_rg i_6 0 1) (h4 : mm_rg i_7 0 3) (h5 : mm_rg i_8 0 60) (h6 : mm_rg i_9 0 1) (h7 : mm_rg i_10 0 3) (h8 : mm_rg i_11 0 60) (h9 : mm_rg i_12 0 1) (h10 : mm_rg i_13 0 3) (h11 : mm_rg i_14 0 60)  : mm_CI l yX11_row (mm_ws yX11_row cX11_row 4 (some .int)) ({ frames := 2, cells := 0, slots := 0, locals := 62 } : Room) G cy sz [(a_0, .inr (11, [.ref a_1, .ref a_2, .ref a_3, .ref a_4, .ref a_5, .ref a_6, .ref a_7, .ref a_8, .ref a_9, .ref a_10, .ref a_11])), (a_6, .inl (cy 6, 4, .inr (.inr (.inr (.inr (va_up (va_up (va_up (va_up (fun _ => none) 0 (some a_12)) 1 (some a_13)) 2 (some a_14)) 3 (some a_15))))))), (a_12, .inr (6, [.int i_3, .int i_4, .int i_5, .ref a_16])), (a_16, .inl (cy 2, 60, .inr (.inl f_0))), (a_13, .inr (6, [.int i_6, .int i_7, .int i_8, .ref a_17])), (a_17, .inl (cy 2, 60, .inr (.inl f_1))), (a_14, .inr (6, [.int i_9, .int i_10, .int i_11, .ref a_18])), (a_18, .inl (cy 2, 60, .inr (.inl f_2))), (a_15, .inr (6, [.int i_12, .int i_13, .int i_14, .ref a_19])), (a_19, .inl (cy 2, 60, .inr (.inl f_3)))] [.ref a_0, .int i_0, .int i_1, .int i_2] (fun u : Int32 × Int32 × Int32 × (Nat → Int64) × Int32 × Int32 × Int32 × (Nat → Int64) × Int32 × Int32 × Int32 × (Nat → Int64) × Int32 × Int32 × Int32 × (Nat → Int64) => [(a_0, .inr (11, [.ref a_1, .ref a_2, .ref a_3, .ref a_4, .ref a_5, .ref a_6, .ref a_7, .ref a_8, .ref a_9, .ref a_10, .ref a_11])), (a_6, .inl (cy 6, 4, .inr (.inr (.inr (.inr (va_up (va_up (va_up (va_up (fun _ => none) 0 (some a_12)) 1 (some a_13)) 2 (some a_14)) 3 (some a_15))))))), (a_12, .inr (6, [.int u.1, .int u.2.1, .int u.2.2.1, .ref a_16])), (a_16, .inl (cy 2, 60, .inr (.inl u.2.2.2.1))), (a_13, .inr (6, [.int u.2.2.2.2.1, .int u.2.2.2.2.2.1, .int u.2.2.2.2.2.2.1, .ref a_17])), (a_17, .inl (cy 2, 60, .inr (.inl u.2.2.2.2.2.2.2.1))), (a_14, .inr (6, [.int u.2.2.2.2.2.2.2.2.1, .int u.2.2.2.2.2.2.2.2.2.1, .int u.2.2.2.2.2.2.2.2.2.2.1, .ref a_18])), (a_18, .inl (cy 2, 60, .inr (.inl u.2.2.2.2.2.2.2.2.2.2.2.1))), (a_15, .inr (6, [.int u.2.2.2.2.2.2.2.2.2.2.2.2.1, .int u.2.2.2.2.2.2.2.2.2.2.2.2.2.1, .int u.2.2.2.2.2.2.2.2.2.2.2.2.2.2.1, .ref a_19])), (a_19, .inl (cy 2, 60, .inr (.inl u.2.2.2.2.2.2.2.2.2.2.2.2.2.2.2)))]) (fun (r : Int32) (u : Int32 × Int32 × Int32 × (Nat → Int64) × Int32 × Int32 × Int32 × (Nat → Int64) × Int32 × Int32 × Int32 × (Nat → Int64) × Int32 × Int32 × Int32 × (Nat → Int64)) => mm_rg u.1 0 1 ∧ mm_rg u.2.1 0 3 ∧ mm_rg u.2.2.1 0 60 ∧ mm_rg u.2.2.2.2.1 0 1 ∧ mm_rg u.2.2.2.2.2.1 0 3 ∧ mm_rg u.2.2.2.2.2.2.1 0 60 ∧ mm_rg u.2.2.2.2.2.2.2.2.1 0 1 ∧ mm_rg u.2.2.2.2.2.2.2.2.2.1 0 3 ∧ mm_rg u.2.2.2.2.2.2.2.2.2.2.1 0 60 ∧ mm_rg u.2.2.2.2.2.2.2.2.2.2.2.2.1 0 1 ∧ mm_rg u.2.2.2.2.2.2.2.2.2.2.2.2.2.1 0 3 ∧ mm_rg u.2.2.2.2.2.2.2.2.2.2.2.2.2.2.1 0 60 ∧ mm_rg r (-3) 0) 0 0 := by
  refine mm_begin (lv := [(0, .ref a_0), (1, .int i_0), (2, .int i_1), (3, .int i_2)]) (by decide) (Nat.le_of_ble_eq_true rfl) rfl ?_
  intro p e s m below meth c A ls R args Q H locs hRe hQ hAe hx hb hr hlocks hml hown hnm hts hsz hA hS hP hK hD hZ hl
  have hRf : R.frames = 2 := by rw [hRe]
  have hRl : R.locals = 62 := by rw [hRe]
  have hRc : R.cells = 0 := by rw [hRe]
  have hRs : R.slots = 0 := by rw [hRe]
  refine lv_iload_n hx hb dX11_row_0 rfl (lv_at hl 1 rfl) ?_
  refine mm_finir (va_runS (As := [.int i_0]) (rest := []) ⟨hx, hb, hml, hown, hts⟩ (K437_X11_isSlot l G cy H.size i_0 ) (va_cwS 1 hts (mm_gS mm_w1232 mm_w1233 mm_w2 mm_w1234) rfl rfl rfl hs_X11_isSlot ⟨by rw [hRf]; exact Nat.le_of_ble_eq_true rfl, by rw [hRl]; exact Nat.le_of_ble_eq_true rfl⟩) (mm_preS hK hZ hS hA hP hD [] rfl rfl) rfl rfl hl.1 rfl (lv_room (Nat.le_of_ble_eq_true rfl)) dX11_row_1 ⟨by rw [hRc]; exact Nat.le_of_ble_eq_true rfl, by rw [hRs]; exact Nat.le_of_ble_eq_true rfl⟩) hP hD hS hA [] rfl (fun _ => rfl) ?_
  clear hP hD hS
  clear H locs
  intro v1 _u H locs hw hP hD hS
  rcases hw with ⟨rfl, w2⟩ | ⟨rfl, w3⟩
  · refine lv_if_eq (tgt := 22) hx hb dX11_row_4 (by decide) (fun c4 => ?_) (fun c4 => ?_)
    · refine lv_bipush (v := (-2)) hx hb dX11_row_22 (by decide) ?_
      subst hAe
      rw [hQ]
      exact W.iret (v := (-2)) hx hb hr (fun t ht hW => ⟨⟨(-2), (i_3, i_4, i_5, f_0, i_6, i_7, i_8, f_1, i_9, i_10, i_11, f_2, i_12, i_13, i_14, f_3), rfl, ⟨h0, h1, h2, h3, h4, h5, h6, h7, h8, h9, h10, h11, (mm_wk mm_km2 (by decide))⟩, by rw [ht]; exact hP, hK.warm hW, hD⟩, hS.F ht⟩) hS.2.2 dX11_row_24
    · have q5 := mm_neL (lo := 1) (mm_ne c4) mm_k0 mm_k0 (by decide) (by decide)
      exact mm_no q5 (by decide)
  · refine lv_if_eq (tgt := 22) hx hb dX11_row_4 (by decide) (fun c6 => ?_) (fun c6 => ?_)
    · exact mm_eqN c6.symm mm_k0 mm_k1 (by decide)
    · refine lv_iload_n hx hb dX11_row_7 rfl (lv_at hl 2 rfl) ?_
      refine lv_if_lt (tgt := 22) hx hb dX11_row_8 (by decide) (fun c7 => ?_) (fun c7 => ?_)
      · have q8 := mm_ltL (h := (-1)) (mm_lt c7) (mm_top i_1) mm_k0 (by decide)
        refine lv_bipush (v := (-2)) hx hb dX11_row_22 (by decide) ?_
        subst hAe
        rw [hQ]
        exact W.iret (v := (-2)) hx hb hr (fun t ht hW => ⟨⟨(-2), (i_3, i_4, i_5, f_0, i_6, i_7, i_8, f_1, i_9, i_10, i_11, f_2, i_12, i_13, i_14, f_3), rfl, ⟨h0, h1, h2, h3, h4, h5, h6, h7, h8, h9, h10, h11, (mm_wk mm_km2 (by decide))⟩, by rw [ht]; exact hP, hK.warm hW, hD⟩, hS.F ht⟩) hS.2.2 dX11_row_24
      · have q9 := mm_leR (mm_nlt c7) mm_k0 (mm_top i_1)
        refine lv_iload_n hx hb dX11_row_11 rfl (lv_at hl 2 rfl) ?_
        refine lv_iconst (v := 3) hx hb dX11_row_12 (by decide) ?_
        refine lv_icmp_gt (tgt := 22) hx hb dX11_row_13 (by decide) (fun c10 => ?_) (fun c10 => ?_)
        · have q11 := mm_ltR (lo := 4) (mm_lt c10) mm_k3 q9 (by decide)
          refine lv_bipush (v := (-2)) hx hb dX11_row_22 (by decide) ?_
          subst hAe
          rw [hQ]
          exact W.iret (v := (-2)) hx hb hr (fun t ht hW => ⟨⟨(-2), (i_3, i_4, i_5, f_0, i_6, i_7, i_8, f_1, i_9, i_10, i_11, f_2, i_12, i_13, i_14, f_3), rfl, ⟨h0, h1, h2, h3, h4, h5, h6, h7, h8, h9, h10, h11, (mm_wk mm_km2 (by decide))⟩, by rw [ht]; exact hP, hK.warm hW, hD⟩, hS.F ht⟩) hS.2.2 dX11_row_24
        · have q12 := mm_leL (mm_nlt c10) q9 mm_k3
          refine lv_iload_n hx hb dX11_row_16 rfl (lv_at hl 3 rfl) ?_
          refine lv_bipush (v := 60) hx hb dX11_row_17 (by decide) ?_
          refine lv_icmp_le (tgt := 25) hx hb dX11_row_19 (by decide) (fun c13 => ?_) (fun c13 => ?_)
          · have q14 := mm_leL (mm_le c13) (mm_top i_2) mm_k60
            refine lv_iload_n hx hb dX11_row_25 rfl (lv_at hl 3 rfl) ?_
            refine lv_if_ge (tgt := 32) hx hb dX11_row_26 (by decide) (fun c15 => ?_) (fun c15 => ?_)
            · have q16 := mm_leR (mm_le c15) mm_k0 q14
              refine lv_aload_n hx hb dX11_row_32 rfl (lv_at hl 0 rfl) ?_
              refine va_get (D := G) (ci := 11) (v := .ref a_6) (C := RX11) (T := TX11) (N := 11) hx hb hts (mm_i inlX11) hown hK.1 hP 0 rfl rfl 5 (by decide) (mm_h hts mm_w32) (fun _ h9 => h9) rfl dX11_row_33 ?_
              refine lv_iload_n hx hb dX11_row_36 rfl (lv_at hl 1 rfl) ?_
              refine va_aldq hx hb hK.1 hP 1 6 rfl rfl (mm_in w3 (by decide)) dX11_row_37 ?_
              have c17 := mm_cases4 w3
              rcases c17 with rfl | rfl | rfl | rfl
              · refine W.eq (g2 := F0 m 38 ls [.ref a_12]) rfl ?_
                refine lv_iload_n hx hb dX11_row_38 rfl (lv_at hl 2 rfl) ?_
                refine lv_iload_n hx hb dX11_row_39 rfl (lv_at hl 3 rfl) ?_
                refine mm_finv (va_runV (As := [.int i_1, .int i_2]) (rest := []) ⟨hx, hb, hml, hown, hts⟩ (K537_X6_begin l G cy H.size a_12 i_1 i_2 i_3 i_4 i_5 a_16 f_0 q12 q16 h0 h1 h2) (cwV 2 hts (mm_gV mm_w1677 mm_w1678 mm_w1679 mm_w34 mm_w1680) rfl rfl rfl hd_X6_begin ⟨by rw [hRf]; exact Nat.le_of_ble_eq_true rfl, by rw [hRl]; exact Nat.le_of_ble_eq_true rfl⟩) (mm_preV hK hZ hS hA hP hD [2, 3] rfl rfl 2 rfl rfl rfl) rfl rfl hl.1 rfl (lv_room (Nat.le_of_ble_eq_true rfl)) dX11_row_40 ⟨by rw [hRc]; exact Nat.le_of_ble_eq_true rfl, by rw [hRs]; exact Nat.le_of_ble_eq_true rfl⟩) hP hD hS hA (fun u : Int32 × (Nat → Int64) => [(a_0, .inr (11, [.ref a_1, .ref a_2, .ref a_3, .ref a_4, .ref a_5, .ref a_6, .ref a_7, .ref a_8, .ref a_9, .ref a_10, .ref a_11])), (a_6, .inl (cy 6, 4, .inr (.inr (.inr (.inr (va_up (va_up (va_up (va_up (fun _ => none) 0 (some a_12)) 1 (some a_13)) 2 (some a_14)) 3 (some a_15))))))), (a_12, .inr (6, [.int 1, .int i_1, .int u.1, .ref a_16])), (a_16, .inl (cy 2, 60, .inr (.inl u.2))), (a_13, .inr (6, [.int i_6, .int i_7, .int i_8, .ref a_17])), (a_17, .inl (cy 2, 60, .inr (.inl f_1))), (a_14, .inr (6, [.int i_9, .int i_10, .int i_11, .ref a_18])), (a_18, .inl (cy 2, 60, .inr (.inl f_2))), (a_15, .inr (6, [.int i_12, .int i_13, .int i_14, .ref a_19])), (a_19, .inl (cy 2, 60, .inr (.inl f_3)))]) [2, 3] [0, 1, 4, 5, 6, 7, 8, 9] (n := 10) (fun _ => rfl) (by decide +kernel) (by decide +kernel) rfl (fun _ => rfl) (wr := [(a_0, .inr (11, [.ref a_1, .ref a_2, .ref a_3, .ref a_4, .ref a_5, .ref a_6, .ref a_7, .ref a_8, .ref a_9, .ref a_10, .ref a_11])), (a_6, .inl (cy 6, 4, .inr (.inr (.inr (.inr (va_up (va_up (va_up (va_up (fun _ => none) 0 (some a_12)) 1 (some a_13)) 2 (some a_14)) 3 (some a_15))))))), (a_13, .inr (6, [.int i_6, .int i_7, .int i_8, .ref a_17])), (a_17, .inl (cy 2, 60, .inr (.inl f_1))), (a_14, .inr (6, [.int i_9, .int i_10, .int i_11, .ref a_18])), (a_18, .inl (cy 2, 60, .inr (.inl f_2))), (a_15, .inr (6, [.int i_12, .int i_13, .int i_14, .ref a_19])), (a_19, .inl (cy 2, 60, .inr (.inl f_3)))]) rfl (fun _ => rfl) (fun _ => rfl) ?_
                clear hP hD hS
                clear H locs
                intro u
                obtain ⟨n18, n19⟩ := u
                intro H locs hw (hP : va_P G vwCl [(a_0, .inr (11, [.ref a_1, .ref a_2, .ref a_3, .ref a_4, .ref a_5, .ref a_6, .ref a_7, .ref a_8, .ref a_9, .ref a_10, .ref a_11])), (a_6, .inl (cy 6, 4, .inr (.inr (.inr (.inr (va_up (va_up (va_up (va_up (fun _ => none) 0 (some a_12)) 1 (some a_13)) 2 (some a_14)) 3 (some a_15))))))), (a_12, .inr (6, [.int 1, .int i_1, .int n18, .ref a_16])), (a_16, .inl (cy 2, 60, .inr (.inl n19))), (a_13, .inr (6, [.int i_6, .int i_7, .int i_8, .ref a_17])), (a_17, .inl (cy 2, 60, .inr (.inl f_1))), (a_14, .inr (6, [.int i_9, .int i_10, .int i_11, .ref a_18])), (a_18, .inl (cy 2, 60, .inr (.inl f_2))), (a_15, .inr (6, [.int i_12, .int i_13, .int i_14, .ref a_19])), (a_19, .inl (cy 2, 60, .inr (.inl f_3)))] H) (hD : va_D A [(a_0, .inr (11, [.ref a_1, .ref a_2, .ref a_3, .ref a_4, .ref a_5, .ref a_6, .ref a_7, .ref a_8, .ref a_9, .ref a_10, .ref a_11])), (a_6, .inl (cy 6, 4, .inr (.inr (.inr (.inr (va_up (va_up (va_up (va_up (fun _ => none) 0 (some a_12)) 1 (some a_13)) 2 (some a_14)) 3 (some a_15))))))), (a_12, .inr (6, [.int 1, .int i_1, .int n18, .ref a_16])), (a_16, .inl (cy 2, 60, .inr (.inl n19))), (a_13, .inr (6, [.int i_6, .int i_7, .int i_8, .ref a_17])), (a_17, .inl (cy 2, 60, .inr (.inl f_1))), (a_14, .inr (6, [.int i_9, .int i_10, .int i_11, .ref a_18])), (a_18, .inl (cy 2, 60, .inr (.inl f_2))), (a_15, .inr (6, [.int i_12, .int i_13, .int i_14, .ref a_19])), (a_19, .inl (cy 2, 60, .inr (.inl f_3)))]) hS
                have w20 := hw
                refine lv_iconst (v := 0) hx hb dX11_row_43 (by decide) ?_
                subst hAe
                rw [hQ]
                exact W.iret (v := 0) hx hb hr (fun t ht hW => ⟨⟨0, (1, i_1, n18, n19, i_6, i_7, i_8, f_1, i_9, i_10, i_11, f_2, i_12, i_13, i_14, f_3), rfl, ⟨(mm_wk mm_k1 (by decide)), q12, w20, h3, h4, h5, h6, h7, h8, h9, h10, h11, (mm_wk mm_k0 (by decide))⟩, by rw [ht]; exact hP, hK.warm hW, hD⟩, hS.F ht⟩) hS.2.2 dX11_row_44
              · refine W.eq (g2 := F0 m 38 ls [.ref a_13]) rfl ?_
                refine lv_iload_n hx hb dX11_row_38 rfl (lv_at hl 2 rfl) ?_
                refine lv_iload_n hx hb dX11_row_39 rfl (lv_at hl 3 rfl) ?_
                refine mm_finv (va_runV (As := [.int i_1, .int i_2]) (rest := []) ⟨hx, hb, hml, hown, hts⟩ (K537_X6_begin l G cy H.size a_13 i_1 i_2 i_6 i_7 i_8 a_17 f_1 q12 q16 h3 h4 h5) (cwV 2 hts (mm_gV mm_w1677 mm_w1678 mm_w1679 mm_w34 mm_w1680) rfl rfl rfl hd_X6_begin ⟨by rw [hRf]; exact Nat.le_of_ble_eq_true rfl, by rw [hRl]; exact Nat.le_of_ble_eq_true rfl⟩) (mm_preV hK hZ hS hA hP hD [4, 5] rfl rfl 4 rfl rfl rfl) rfl rfl hl.1 rfl (lv_room (Nat.le_of_ble_eq_true rfl)) dX11_row_40 ⟨by rw [hRc]; exact Nat.le_of_ble_eq_true rfl, by rw [hRs]; exact Nat.le_of_ble_eq_true rfl⟩) hP hD hS hA (fun u : Int32 × (Nat → Int64) => [(a_0, .inr (11, [.ref a_1, .ref a_2, .ref a_3, .ref a_4, .ref a_5, .ref a_6, .ref a_7, .ref a_8, .ref a_9, .ref a_10, .ref a_11])), (a_6, .inl (cy 6, 4, .inr (.inr (.inr (.inr (va_up (va_up (va_up (va_up (fun _ => none) 0 (some a_12)) 1 (some a_13)) 2 (some a_14)) 3 (some a_15))))))), (a_12, .inr (6, [.int i_3, .int i_4, .int i_5, .ref a_16])), (a_16, .inl (cy 2, 60, .inr (.inl f_0))), (a_13, .inr (6, [.int 1, .int i_1, .int u.1, .ref a_17])), (a_17, .inl (cy 2, 60, .inr (.inl u.2))), (a_14, .inr (6, [.int i_9, .int i_10, .int i_11, .ref a_18])), (a_18, .inl (cy 2, 60, .inr (.inl f_2))), (a_15, .inr (6, [.int i_12, .int i_13, .int i_14, .ref a_19])), (a_19, .inl (cy 2, 60, .inr (.inl f_3)))]) [4, 5] [0, 1, 2, 3, 6, 7, 8, 9] (n := 10) (fun _ => rfl) (by decide +kernel) (by decide +kernel) rfl (fun _ => rfl) (wr := [(a_0, .inr (11, [.ref a_1, .ref a_2, .ref a_3, .ref a_4, .ref a_5, .ref a_6, .ref a_7, .ref a_8, .ref a_9, .ref a_10, .ref a_11])), (a_6, .inl (cy 6, 4, .inr (.inr (.inr (.inr (va_up (va_up (va_up (va_up (fun _ => none) 0 (some a_12)) 1 (some a_13)) 2 (some a_14)) 3 (some a_15))))))), (a_12, .inr (6, [.int i_3, .int i_4, .int i_5, .ref a_16])), (a_16, .inl (cy 2, 60, .inr (.inl f_0))), (a_14, .inr (6, [.int i_9, .int i_10, .int i_11, .ref a_18])), (a_18, .inl (cy 2, 60, .inr (.inl f_2))), (a_15, .inr (6, [.int i_12, .int i_13, .int i_14, .ref a_19])), (a_19, .inl (cy 2, 60, .inr (.inl f_3)))]) rfl (fun _ => rfl) (fun _ => rfl) ?_
                clear hP hD hS
                clear H locs
                intro u
                obtain ⟨n21, n22⟩ := u
                intro H locs hw (hP : va_P G vwCl [(a_0, .inr (11, [.ref a_1, .ref a_2, .ref a_3, .ref a_4, .ref a_5, .ref a_6, .ref a_7, .ref a_8, .ref a_9, .ref a_10, .ref a_11])), (a_6, .inl (cy 6, 4, .inr (.inr (.inr (.inr (va_up (va_up (va_up (va_up (fun _ => none) 0 (some a_12)) 1 (some a_13)) 2 (some a_14)) 3 (some a_15))))))), (a_12, .inr (6, [.int i_3, .int i_4, .int i_5, .ref a_16])), (a_16, .inl (cy 2, 60, .inr (.inl f_0))), (a_13, .inr (6, [.int 1, .int i_1, .int n21, .ref a_17])), (a_17, .inl (cy 2, 60, .inr (.inl n22))), (a_14, .inr (6, [.int i_9, .int i_10, .int i_11, .ref a_18])), (a_18, .inl (cy 2, 60, .inr (.inl f_2))), (a_15, .inr (6, [.int i_12, .int i_13, .int i_14, .ref a_19])), (a_19, .inl (cy 2, 60, .inr (.inl f_3)))] H) (hD : va_D A [(a_0, .inr (11, [.ref a_1, .ref a_2, .ref a_3, .ref a_4, .ref a_5, .ref a_6, .ref a_7, .ref a_8, .ref a_9, .ref a_10, .ref a_11])), (a_6, .inl (cy 6, 4, .inr (.inr (.inr (.inr (va_up (va_up (va_up (va_up (fun _ => none) 0 (some a_12)) 1 (some a_13)) 2 (some a_14)) 3 (some a_15))))))), (a_12, .inr (6, [.int i_3, .int i_4, .int i_5, .ref a_16])), (a_16, .inl (cy 2, 60, .inr (.inl f_0))), (a_13, .inr (6, [.int 1, .int i_1, .int n21, .ref a_17])), (a_17, .inl (cy 2, 60, .inr (.inl n22))), (a_14, .inr (6, [.int i_9, .int i_10, .int i_11, .ref a_18])), (a_18, .inl (cy 2, 60, .inr (.inl f_2))), (a_15, .inr (6, [.int i_12, .int i_13, .int i_14, .ref a_19])), (a_19, .inl (cy 2, 60, .inr (.inl f_3)))]) hS
                have w23 := hw
                refine lv_iconst (v := 0) hx hb dX11_row_43 (by decide) ?_
                subst hAe
                rw [hQ]
                exact W.iret (v := 0) hx hb hr (fun t ht hW => ⟨⟨0, (i_3, i_4, i_5, f_0, 1, i_1, n21, n22, i_9, i_10, i_11, f_2, i_12, i_13, i_14, f_3), rfl, ⟨h0, h1, h2, (mm_wk mm_k1 (by decide)), q12, w23, h6, h7, h8, h9, h10, h11, (mm_wk mm_k0 (by decide))⟩, by rw [ht]; exact hP, hK.warm hW, hD⟩, hS.F ht⟩) hS.2.2 dX11_row_44
              · refine W.eq (g2 := F0 m 38 ls [.ref a_14]) rfl ?_
                refine lv_iload_n hx hb dX11_row_38 rfl (lv_at hl 2 rfl) ?_
                refine lv_iload_n hx hb dX11_row_39 rfl (lv_at hl 3 rfl) ?_
                refine mm_finv (va_runV (As := [.int i_1, .int i_2]) (rest := []) ⟨hx, hb, hml, hown, hts⟩ (K537_X6_begin l G cy H.size a_14 i_1 i_2 i_9 i_10 i_11 a_18 f_2 q12 q16 h6 h7 h8) (cwV 2 hts (mm_gV mm_w1677 mm_w1678 mm_w1679 mm_w34 mm_w1680) rfl rfl rfl hd_X6_begin ⟨by rw [hRf]; exact Nat.le_of_ble_eq_true rfl, by rw [hRl]; exact Nat.le_of_ble_eq_true rfl⟩) (mm_preV hK hZ hS hA hP hD [6, 7] rfl rfl 6 rfl rfl rfl) rfl rfl hl.1 rfl (lv_room (Nat.le_of_ble_eq_true rfl)) dX11_row_40 ⟨by rw [hRc]; exact Nat.le_of_ble_eq_true rfl, by rw [hRs]; exact Nat.le_of_ble_eq_true rfl⟩) hP hD hS hA (fun u : Int32 × (Nat → Int64) => [(a_0, .inr (11, [.ref a_1, .ref a_2, .ref a_3, .ref a_4, .ref a_5, .ref a_6, .ref a_7, .ref a_8, .ref a_9, .ref a_10, .ref a_11])), (a_6, .inl (cy 6, 4, .inr (.inr (.inr (.inr (va_up (va_up (va_up (va_up (fun _ => none) 0 (some a_12)) 1 (some a_13)) 2 (some a_14)) 3 (some a_15))))))), (a_12, .inr (6, [.int i_3, .int i_4, .int i_5, .ref a_16])), (a_16, .inl (cy 2, 60, .inr (.inl f_0))), (a_13, .inr (6, [.int i_6, .int i_7, .int i_8, .ref a_17])), (a_17, .inl (cy 2, 60, .inr (.inl f_1))), (a_14, .inr (6, [.int 1, .int i_1, .int u.1, .ref a_18])), (a_18, .inl (cy 2, 60, .inr (.inl u.2))), (a_15, .inr (6, [.int i_12, .int i_13, .int i_14, .ref a_19])), (a_19, .inl (cy 2, 60, .inr (.inl f_3)))]) [6, 7] [0, 1, 2, 3, 4, 5, 8, 9] (n := 10) (fun _ => rfl) (by decide +kernel) (by decide +kernel) rfl (fun _ => rfl) (wr := [(a_0, .inr (11, [.ref a_1, .ref a_2, .ref a_3, .ref a_4, .ref a_5, .ref a_6, .ref a_7, .ref a_8, .ref a_9, .ref a_10, .ref a_11])), (a_6, .inl (cy 6, 4, .inr (.inr (.inr (.inr (va_up (va_up (va_up (va_up (fun _ => none) 0 (some a_12)) 1 (some a_13)) 2 (some a_14)) 3 (some a_15))))))), (a_12, .inr (6, [.int i_3, .int i_4, .int i_5, .ref a_16])), (a_16, .inl (cy 2, 60, .inr (.inl f_0))), (a_13, .inr (6, [.int i_6, .int i_7, .int i_8, .ref a_17])), (a_17, .inl (cy 2, 60, .inr (.inl f_1))), (a_15, .inr (6, [.int i_12, .int i_13, .int i_14, .ref a_19])), (a_19, .inl (cy 2, 60, .inr (.inl f_3)))]) rfl (fun _ => rfl) (fun _ => rfl) ?_
                clear hP hD hS
                clear H locs
                intro u
                obtain ⟨n24, n25⟩ := u
                intro H locs hw (hP : va_P G vwCl [(a_0, .inr (11, [.ref a_1, .ref a_2, .ref a_3, .ref a_4, .ref a_5, .ref a_6, .ref a_7, .ref a_8, .ref a_9, .ref a_10, .ref a_11])), (a_6, .inl (cy 6, 4, .inr (.inr (.inr (.inr (va_up (va_up (va_up (va_up (fun _ => none) 0 (some a_12)) 1 (some a_13)) 2 (some a_14)) 3 (some a_15))))))), (a_12, .inr (6, [.int i_3, .int i_4, .int i_5, .ref a_16])), (a_16, .inl (cy 2, 60, .inr (.inl f_0))), (a_13, .inr (6, [.int i_6, .int i_7, .int i_8, .ref a_17])), (a_17, .inl (cy 2, 60, .inr (.inl f_1))), (a_14, .inr (6, [.int 1, .int i_1, .int n24, .ref a_18])), (a_18, .inl (cy 2, 60, .inr (.inl n25))), (a_15, .inr (6, [.int i_12, .int i_13, .int i_14, .ref a_19])), (a_19, .inl (cy 2, 60, .inr (.inl f_3)))] H) (hD : va_D A [(a_0, .inr (11, [.ref a_1, .ref a_2, .ref a_3, .ref a_4, .ref a_5, .ref a_6, .ref a_7, .ref a_8, .ref a_9, .ref a_10, .ref a_11])), (a_6, .inl (cy 6, 4, .inr (.inr (.inr (.inr (va_up (va_up (va_up (va_up (fun _ => none) 0 (some a_12)) 1 (some a_13)) 2 (some a_14)) 3 (some a_15))))))), (a_12, .inr (6, [.int i_3, .int i_4, .int i_5, .ref a_16])), (a_16, .inl (cy 2, 60, .inr (.inl f_0))), (a_13, .inr (6, [.int i_6, .int i_7, .int i_8, .ref a_17])), (a_17, .inl (cy 2, 60, .inr (.inl f_1))), (a_14, .inr (6, [.int 1, .int i_1, .int n24, .ref a_18])), (a_18, .inl (cy 2, 60, .inr (.inl n25))), (a_15, .inr (6, [.int i_12, .int i_13, .int i_14, .ref a_19])), (a_19, .inl (cy 2, 60, .inr (.inl f_3)))]) hS
                have w26 := hw
                refine lv_iconst (v := 0) hx hb dX11_row_43 (by decide) ?_
                subst hAe
                rw [hQ]
                exact W.iret (v := 0) hx hb hr (fun t ht hW => ⟨⟨0, (i_3, i_4, i_5, f_0, i_6, i_7, i_8, f_1, 1, i_1, n24, n25, i_12, i_13, i_14, f_3), rfl, ⟨h0, h1, h2, h3, h4, h5, (mm_wk mm_k1 (by decide)), q12, w26, h9, h10, h11, (mm_wk mm_k0 (by decide))⟩, by rw [ht]; exact hP, hK.warm hW, hD⟩, hS.F ht⟩) hS.2.2 dX11_row_44
              · refine W.eq (g2 := F0 m 38 ls [.ref a_15]) rfl ?_
                refine lv_iload_n hx hb dX11_row_38 rfl (lv_at hl 2 rfl) ?_
                refine lv_iload_n hx hb dX11_row_39 rfl (lv_at hl 3 rfl) ?_
                refine mm_finv (va_runV (As := [.int i_1, .int i_2]) (rest := []) ⟨hx, hb, hml, hown, hts⟩ (K537_X6_begin l G cy H.size a_15 i_1 i_2 i_12 i_13 i_14 a_19 f_3 q12 q16 h9 h10 h11) (cwV 2 hts (mm_gV mm_w1677 mm_w1678 mm_w1679 mm_w34 mm_w1680) rfl rfl rfl hd_X6_begin ⟨by rw [hRf]; exact Nat.le_of_ble_eq_true rfl, by rw [hRl]; exact Nat.le_of_ble_eq_true rfl⟩) (mm_preV hK hZ hS hA hP hD [8, 9] rfl rfl 8 rfl rfl rfl) rfl rfl hl.1 rfl (lv_room (Nat.le_of_ble_eq_true rfl)) dX11_row_40 ⟨by rw [hRc]; exact Nat.le_of_ble_eq_true rfl, by rw [hRs]; exact Nat.le_of_ble_eq_true rfl⟩) hP hD hS hA (fun u : Int32 × (Nat → Int64) => [(a_0, .inr (11, [.ref a_1, .ref a_2, .ref a_3, .ref a_4, .ref a_5, .ref a_6, .ref a_7, .ref a_8, .ref a_9, .ref a_10, .ref a_11])), (a_6, .inl (cy 6, 4, .inr (.inr (.inr (.inr (va_up (va_up (va_up (va_up (fun _ => none) 0 (some a_12)) 1 (some a_13)) 2 (some a_14)) 3 (some a_15))))))), (a_12, .inr (6, [.int i_3, .int i_4, .int i_5, .ref a_16])), (a_16, .inl (cy 2, 60, .inr (.inl f_0))), (a_13, .inr (6, [.int i_6, .int i_7, .int i_8, .ref a_17])), (a_17, .inl (cy 2, 60, .inr (.inl f_1))), (a_14, .inr (6, [.int i_9, .int i_10, .int i_11, .ref a_18])), (a_18, .inl (cy 2, 60, .inr (.inl f_2))), (a_15, .inr (6, [.int 1, .int i_1, .int u.1, .ref a_19])), (a_19, .inl (cy 2, 60, .inr (.inl u.2)))]) [8, 9] [0, 1, 2, 3, 4, 5, 6, 7] (n := 10) (fun _ => rfl) (by decide +kernel) (by decide +kernel) rfl (fun _ => rfl) (wr := [(a_0, .inr (11, [.ref a_1, .ref a_2, .ref a_3, .ref a_4, .ref a_5, .ref a_6, .ref a_7, .ref a_8, .ref a_9, .ref a_10, .ref a_11])), (a_6, .inl (cy 6, 4, .inr (.inr (.inr (.inr (va_up (va_up (va_up (va_up (fun _ => none) 0 (some a_12)) 1 (some a_13)) 2 (some a_14)) 3 (some a_15))))))), (a_12, .inr (6, [.int i_3, .int i_4, .int i_5, .ref a_16])), (a_16, .inl (cy 2, 60, .inr (.inl f_0))), (a_13, .inr (6, [.int i_6, .int i_7, .int i_8, .ref a_17])), (a_17, .inl (cy 2, 60, .inr (.inl f_1))), (a_14, .inr (6, [.int i_9, .int i_10, .int i_11, .ref a_18])), (a_18, .inl (cy 2, 60, .inr (.inl f_2)))]) rfl (fun _ => rfl) (fun _ => rfl) ?_
                clear hP hD hS
                clear H locs
                intro u
                obtain ⟨n27, n28⟩ := u
                intro H locs hw (hP : va_P G vwCl [(a_0, .inr (11, [.ref a_1, .ref a_2, .ref a_3, .ref a_4, .ref a_5, .ref a_6, .ref a_7, .ref a_8, .ref a_9, .ref a_10, .ref a_11])), (a_6, .inl (cy 6, 4, .inr (.inr (.inr (.inr (va_up (va_up (va_up (va_up (fun _ => none) 0 (some a_12)) 1 (some a_13)) 2 (some a_14)) 3 (some a_15))))))), (a_12, .inr (6, [.int i_3, .int i_4, .int i_5, .ref a_16])), (a_16, .inl (cy 2, 60, .inr (.inl f_0))), (a_13, .inr (6, [.int i_6, .int i_7, .int i_8, .ref a_17])), (a_17, .inl (cy 2, 60, .inr (.inl f_1))), (a_14, .inr (6, [.int i_9, .int i_10, .int i_11, .ref a_18])), (a_18, .inl (cy 2, 60, .inr (.inl f_2))), (a_15, .inr (6, [.int 1, .int i_1, .int n27, .ref a_19])), (a_19, .inl (cy 2, 60, .inr (.inl n28)))] H) (hD : va_D A [(a_0, .inr (11, [.ref a_1, .ref a_2, .ref a_3, .ref a_4, .ref a_5, .ref a_6, .ref a_7, .ref a_8, .ref a_9, .ref a_10, .ref a_11])), (a_6, .inl (cy 6, 4, .inr (.inr (.inr (.inr (va_up (va_up (va_up (va_up (fun _ => none) 0 (some a_12)) 1 (some a_13)) 2 (some a_14)) 3 (some a_15))))))), (a_12, .inr (6, [.int i_3, .int i_4, .int i_5, .ref a_16])), (a_16, .inl (cy 2, 60, .inr (.inl f_0))), (a_13, .inr (6, [.int i_6, .int i_7, .int i_8, .ref a_17])), (a_17, .inl (cy 2, 60, .inr (.inl f_1))), (a_14, .inr (6, [.int i_9, .int i_10, .int i_11, .ref a_18])), (a_18, .inl (cy 2, 60, .inr (.inl f_2))), (a_15, .inr (6, [.int 1, .int i_1, .int n27, .ref a_19])), (a_19, .inl (cy 2, 60, .inr (.inl n28)))]) hS
                have w29 := hw
                refine lv_iconst (v := 0) hx hb dX11_row_43 (by decide) ?_
                subst hAe
                rw [hQ]
                exact W.iret (v := 0) hx hb hr (fun t ht hW => ⟨⟨0, (i_3, i_4, i_5, f_0, i_6, i_7, i_8, f_1, i_9, i_10, i_11, f_2, 1, i_1, n27, n28), rfl, ⟨h0, h1, h2, h3, h4, h5, h6, h7, h8, (mm_wk mm_k1 (by decide)), q12, w29, (mm_wk mm_k0 (by decide))⟩, by rw [ht]; exact hP, hK.warm hW, hD⟩, hS.F ht⟩) hS.2.2 dX11_row_44
            · have q30 := mm_ltL (h := (-1)) (mm_nle c15) q14 mm_k0 (by decide)
              refine lv_bipush (v := (-3)) hx hb dX11_row_29 (by decide) ?_
              subst hAe
              rw [hQ]
              exact W.iret (v := (-3)) hx hb hr (fun t ht hW => ⟨⟨(-3), (i_3, i_4, i_5, f_0, i_6, i_7, i_8, f_1, i_9, i_10, i_11, f_2, i_12, i_13, i_14, f_3), rfl, ⟨h0, h1, h2, h3, h4, h5, h6, h7, h8, h9, h10, h11, (mm_wk mm_km3 (by decide))⟩, by rw [ht]; exact hP, hK.warm hW, hD⟩, hS.F ht⟩) hS.2.2 dX11_row_31
          · have q31 := mm_ltR (lo := 61) (mm_nle c13) mm_k60 (mm_top i_2) (by decide)
            refine lv_bipush (v := (-2)) hx hb dX11_row_22 (by decide) ?_
            subst hAe
            rw [hQ]
            exact W.iret (v := (-2)) hx hb hr (fun t ht hW => ⟨⟨(-2), (i_3, i_4, i_5, f_0, i_6, i_7, i_8, f_1, i_9, i_10, i_11, f_2, i_12, i_13, i_14, f_3), rfl, ⟨h0, h1, h2, h3, h4, h5, h6, h7, h8, h9, h10, h11, (mm_wk mm_km2 (by decide))⟩, by rw [ht]; exact hP, hK.warm hW, hD⟩, hS.F ht⟩) hS.2.2 dX11_row_24

set_option maxHeartbeats 4000000 in
set_option maxRecDepth 100000 in
theorem K539_X6_put (l : Launch) (G : va_G) (cy : Nat → ClassId) (sz : Nat) (a_0 : Nat) (i_0 : Int32) (j_0 : Int64) (i_1 : Int32) (i_2 : Int32) (i_3 : Int32) (a_1 : Nat) (f_0 : Nat → Int64) (h0 : mm_rg i_0 0 59) (h1 : mm_rg i_2 0 3)  : mm_CV l yX6_put (mm_ws yX6_put cX6_put 4 (none)) ({ frames := 0, cells := 0, slots := 0, locals := 0 } : Room) G cy sz [(a_0, .inr (6, [.int i_1, .int i_2, .int i_3, .ref a_1])), (a_1, .inl (cy 2, 60, .inr (.inl f_0)))] [.ref a_0, .int i_0, .long j_0] (fun u : Int32 × (Nat → Int64) => [(a_0, .inr (6, [.int i_1, .int u.1, .int i_3, .ref a_1])), (a_1, .inl (cy 2, 60, .inr (.inl u.2)))]) (fun u : Int32 × (Nat → Int64) => mm_rg u.1 0 3) 0 0 := by
  refine mm_begin (lv := [(0, .ref a_0), (1, .int i_0), (2, .long j_0)]) (by decide) (Nat.le_of_ble_eq_true rfl) rfl ?_
  intro p e s m below meth c A ls R args Q H locs hRe hQ hAe hx hb hr hlocks hml hown hnm hts hsz hA hS hP hK hD hZ hl
  have hRf : R.frames = 0 := by rw [hRe]
  have hRl : R.locals = 0 := by rw [hRe]
  have hRc : R.cells = 0 := by rw [hRe]
  have hRs : R.slots = 0 := by rw [hRe]
  refine lv_aload_n hx hb dX6_put_0 rfl (lv_at hl 0 rfl) ?_
  refine va_get (D := G) (ci := 6) (v := .int i_2) (C := RX6) (T := TX6) (N := 4) hx hb hts (mm_i inlX6) hown hK.1 hP 0 rfl rfl 1 (by decide) (mm_h hts mm_w1682) (fun _ h9 => h9) rfl dX6_put_1 ?_
  rcases mm_out i_2 0 2 with c1 | c1 | c1
  · exact absurd c1 (by have := (h1).1; omega)
  · have q2 : mm_rg i_2 3 3 := ⟨by omega, (h1).2⟩
    refine lv_tableOut (tgt := 70) hx hb dX6_put_4 (Or.inr c1) (by decide) ?_
    refine lv_aload_n hx hb dX6_put_70 rfl (lv_at hl 0 rfl) ?_
    refine va_get (D := G) (ci := 6) (v := .ref a_1) (C := RX6) (T := TX6) (N := 4) hx hb hts (mm_i inlX6) hown hK.1 hP 0 rfl rfl 3 (by decide) (mm_h hts mm_w104) (fun _ h9 => h9) rfl dX6_put_71 ?_
    refine lv_iload_n hx hb dX6_put_74 rfl (lv_at hl 1 rfl) ?_
    refine lv_lload_n hx hb dX6_put_75 rfl (lv_at hl 2 rfl) ?_
    refine va_last hx hb hK.1 hP hD hS 1 2 rfl rfl (mm_in h0 (by decide)) dX6_put_76 ?_
    clear hP hD hS
    clear H locs
    obtain ⟨g3, eg3⟩ : ∃ z : Nat → Int64, z = vp_updL f_0 i_0.toNatClampNeg j_0 := ⟨_, rfl⟩
    rw [← eg3]
    intro H locs (hP : va_P G vwCl [(a_0, .inr (6, [.int i_1, .int i_2, .int i_3, .ref a_1])), (a_1, .inl (cy 2, 60, .inr (.inl g3)))] H) (hD : va_D A [(a_0, .inr (6, [.int i_1, .int i_2, .int i_3, .ref a_1])), (a_1, .inl (cy 2, 60, .inr (.inl g3)))]) hS
    subst hAe
    rw [hQ]
    exact W.vret hx hb hr (fun t ht hW => ⟨⟨(i_2, g3), rfl, (mm_wk q2 (by decide)), by rw [ht]; exact hP, hK.warm hW, hD⟩, hS.F ht⟩) hS.2.2 dX6_put_77
  · have c4 := mm_cases3 c1
    rcases c4 with rfl | rfl | rfl
    · refine lv_tableIn (tgt := 32) hx hb dX6_put_4 (by decide) (by decide) rfl (by decide) ?_
      refine lv_aload_n hx hb dX6_put_32 rfl (lv_at hl 0 rfl) ?_
      refine va_get (D := G) (ci := 6) (v := .ref a_1) (C := RX6) (T := TX6) (N := 4) hx hb hts (mm_i inlX6) hown hK.1 hP 0 rfl rfl 3 (by decide) (mm_h hts mm_w104) (fun _ h9 => h9) rfl dX6_put_33 ?_
      refine lv_iload_n hx hb dX6_put_36 rfl (lv_at hl 1 rfl) ?_
      refine lv_lload_n hx hb dX6_put_37 rfl (lv_at hl 2 rfl) ?_
      obtain ⟨v5, ev5⟩ : ∃ y : Int32, y = j_0.toInt32 := ⟨_, rfl⟩
      refine lv_l2i hx hb dX6_put_38 ev5.symm ?_
      obtain ⟨v6, ev6⟩ : ∃ y : Int32, y = v5.toInt8.toInt32 := ⟨_, rfl⟩
      refine lv_i2b hx hb dX6_put_39 ev6.symm ?_
      have rv6 : mm_rg v6 (-128) 127 := mm_i2b ev6
      obtain ⟨v7, ev7⟩ : ∃ y : Int64, y = v6.toInt64 := ⟨_, rfl⟩
      refine lv_i2l hx hb dX6_put_40 ev7.symm ?_
      have rv7 : mm_rl v7 (-128) 127 := mm_i2l ev7 rv6
      refine va_last hx hb hK.1 hP hD hS 1 2 rfl rfl (mm_in h0 (by decide)) dX6_put_41 ?_
      clear hP hD hS
      clear H locs
      obtain ⟨g8, eg8⟩ : ∃ z : Nat → Int64, z = vp_updL f_0 i_0.toNatClampNeg v7 := ⟨_, rfl⟩
      rw [← eg8]
      intro H locs (hP : va_P G vwCl [(a_0, .inr (6, [.int i_1, .int 0, .int i_3, .ref a_1])), (a_1, .inl (cy 2, 60, .inr (.inl g8)))] H) (hD : va_D A [(a_0, .inr (6, [.int i_1, .int 0, .int i_3, .ref a_1])), (a_1, .inl (cy 2, 60, .inr (.inl g8)))]) hS
      refine lv_goto (tgt := 77) hx hb dX6_put_42 (by decide) ?_
      subst hAe
      rw [hQ]
      exact W.vret hx hb hr (fun t ht hW => ⟨⟨(0, g8), rfl, (mm_wk mm_k0 (by decide)), by rw [ht]; exact hP, hK.warm hW, hD⟩, hS.F ht⟩) hS.2.2 dX6_put_77
    · refine lv_tableIn (tgt := 45) hx hb dX6_put_4 (by decide) (by decide) rfl (by decide) ?_
      refine lv_aload_n hx hb dX6_put_45 rfl (lv_at hl 0 rfl) ?_
      refine va_get (D := G) (ci := 6) (v := .ref a_1) (C := RX6) (T := TX6) (N := 4) hx hb hts (mm_i inlX6) hown hK.1 hP 0 rfl rfl 3 (by decide) (mm_h hts mm_w104) (fun _ h9 => h9) rfl dX6_put_46 ?_
      refine lv_iload_n hx hb dX6_put_49 rfl (lv_at hl 1 rfl) ?_
      refine lv_lload_n hx hb dX6_put_50 rfl (lv_at hl 2 rfl) ?_
      obtain ⟨v9, ev9⟩ : ∃ y : Int32, y = j_0.toInt32 := ⟨_, rfl⟩
      refine lv_l2i hx hb dX6_put_51 ev9.symm ?_
      obtain ⟨v10, ev10⟩ : ∃ y : Int32, y = v9.toInt16.toInt32 := ⟨_, rfl⟩
      refine lv_i2s hx hb dX6_put_52 ev10.symm ?_
      obtain ⟨v11, ev11⟩ : ∃ y : Int64, y = v10.toInt64 := ⟨_, rfl⟩
      refine lv_i2l hx hb dX6_put_53 ev11.symm ?_
      have rv11 : mm_rl v11 (-2147483648) 2147483647 := mm_i2l ev11 (mm_top v10)
      refine va_last hx hb hK.1 hP hD hS 1 2 rfl rfl (mm_in h0 (by decide)) dX6_put_54 ?_
      clear hP hD hS
      clear H locs
      obtain ⟨g12, eg12⟩ : ∃ z : Nat → Int64, z = vp_updL f_0 i_0.toNatClampNeg v11 := ⟨_, rfl⟩
      rw [← eg12]
      intro H locs (hP : va_P G vwCl [(a_0, .inr (6, [.int i_1, .int 1, .int i_3, .ref a_1])), (a_1, .inl (cy 2, 60, .inr (.inl g12)))] H) (hD : va_D A [(a_0, .inr (6, [.int i_1, .int 1, .int i_3, .ref a_1])), (a_1, .inl (cy 2, 60, .inr (.inl g12)))]) hS
      refine lv_goto (tgt := 77) hx hb dX6_put_55 (by decide) ?_
      subst hAe
      rw [hQ]
      exact W.vret hx hb hr (fun t ht hW => ⟨⟨(1, g12), rfl, (mm_wk mm_k1 (by decide)), by rw [ht]; exact hP, hK.warm hW, hD⟩, hS.F ht⟩) hS.2.2 dX6_put_77
    · refine lv_tableIn (tgt := 58) hx hb dX6_put_4 (by decide) (by decide) rfl (by decide) ?_
      refine lv_aload_n hx hb dX6_put_58 rfl (lv_at hl 0 rfl) ?_
      refine va_get (D := G) (ci := 6) (v := .ref a_1) (C := RX6) (T := TX6) (N := 4) hx hb hts (mm_i inlX6) hown hK.1 hP 0 rfl rfl 3 (by decide) (mm_h hts mm_w104) (fun _ h9 => h9) rfl dX6_put_59 ?_
      refine lv_iload_n hx hb dX6_put_62 rfl (lv_at hl 1 rfl) ?_
      refine lv_lload_n hx hb dX6_put_63 rfl (lv_at hl 2 rfl) ?_
      obtain ⟨v13, ev13⟩ : ∃ y : Int32, y = j_0.toInt32 := ⟨_, rfl⟩
      refine lv_l2i hx hb dX6_put_64 ev13.symm ?_
      obtain ⟨v14, ev14⟩ : ∃ y : Int64, y = v13.toInt64 := ⟨_, rfl⟩
      refine lv_i2l hx hb dX6_put_65 ev14.symm ?_
      have rv14 : mm_rl v14 (-2147483648) 2147483647 := mm_i2l ev14 (mm_top v13)
      refine va_last hx hb hK.1 hP hD hS 1 2 rfl rfl (mm_in h0 (by decide)) dX6_put_66 ?_
      clear hP hD hS
      clear H locs
      obtain ⟨g15, eg15⟩ : ∃ z : Nat → Int64, z = vp_updL f_0 i_0.toNatClampNeg v14 := ⟨_, rfl⟩
      rw [← eg15]
      intro H locs (hP : va_P G vwCl [(a_0, .inr (6, [.int i_1, .int 2, .int i_3, .ref a_1])), (a_1, .inl (cy 2, 60, .inr (.inl g15)))] H) (hD : va_D A [(a_0, .inr (6, [.int i_1, .int 2, .int i_3, .ref a_1])), (a_1, .inl (cy 2, 60, .inr (.inl g15)))]) hS
      refine lv_goto (tgt := 77) hx hb dX6_put_67 (by decide) ?_
      subst hAe
      rw [hQ]
      exact W.vret hx hb hr (fun t ht hW => ⟨⟨(2, g15), rfl, (mm_wk mm_k2 (by decide)), by rw [ht]; exact hP, hK.warm hW, hD⟩, hS.F ht⟩) hS.2.2 dX6_put_77

set_option maxHeartbeats 4000000 in
set_option maxRecDepth 100000 in
theorem K540_X11_write (l : Launch) (G : va_G) (cy : Nat → ClassId) (sz : Nat) (a_0 : Nat) (i_0 : Int32) (i_1 : Int32) (j_0 : Int64) (a_1 : Nat) (a_2 : Nat) (a_3 : Nat) (a_4 : Nat) (a_5 : Nat) (a_6 : Nat) (a_7 : Nat) (a_8 : Nat) (a_9 : Nat) (a_10 : Nat) (a_11 : Nat) (a_12 : Nat) (a_13 : Nat) (a_14 : Nat) (a_15 : Nat) (i_2 : Int32) (i_3 : Int32) (i_4 : Int32) (a_16 : Nat) (f_0 : Nat → Int64) (i_5 : Int32) (i_6 : Int32) (i_7 : Int32) (a_17 : Nat) (f_1 : Nat → Int64) (i_8 : Int32) (i_9 : Int32) (i_10 : Int32) (a_18 : Nat) (f_2 : Nat → Int64) (i_11 : Int32) (i_12 : Int32) (i_13 : Int32) (a_19 : Nat) (f_3 : Nat → Int64) (h0 : mm_rg i_2 0 1) (h1 : mm_rg i_3 0 3) (h2 : mm_rg i_4 0 60) (h3 : mm_rg i_5 0 1) (h4 : mm_rg i_6 0 3) (h5 : mm_rg i_7 0 60) (h6 : mm_rg i_8 0 1) (h7 : mm_rg i_9 0 3) (h8 : mm_rg i_10 0 60) (h9 : mm_rg i_11 0 1) (h10 : mm_rg i_12 0 3) (h11 : mm_rg i_13 0 60)  : mm_CI l yX11_write (mm_ws yX11_write cX11_write 5 (some .int)) ({ frames := 1, cells := 0, slots := 0, locals := 23 } : Room) G cy sz [(a_0, .inr (11, [.ref a_1, .ref a_2, .ref a_3, .ref a_4, .ref a_5, .ref a_6, .ref a_7, .ref a_8, .ref a_9, .ref a_10, .ref a_11])), (a_6, .inl (cy 6, 4, .inr (.inr (.inr (.inr (va_up (va_up (va_up (va_up (fun _ => none) 0 (some a_12)) 1 (some a_13)) 2 (some a_14)) 3 (some a_15))))))), (a_12, .inr (6, [.int i_2, .int i_3, .int i_4, .ref a_16])), (a_16, .inl (cy 2, 60, .inr (.inl f_0))), (a_13, .inr (6, [.int i_5, .int i_6, .int i_7, .ref a_17])), (a_17, .inl (cy 2, 60, .inr (.inl f_1))), (a_14, .inr (6, [.int i_8, .int i_9, .int i_10, .ref a_18])), (a_18, .inl (cy 2, 60, .inr (.inl f_2))), (a_15, .inr (6, [.int i_11, .int i_12, .int i_13, .ref a_19])), (a_19, .inl (cy 2, 60, .inr (.inl f_3)))] [.ref a_0, .int i_0, .int i_1, .long j_0] (fun u : Int32 × (Nat → Int64) × Int32 × (Nat → Int64) × Int32 × (Nat → Int64) × Int32 × (Nat → Int64) => [(a_0, .inr (11, [.ref a_1, .ref a_2, .ref a_3, .ref a_4, .ref a_5, .ref a_6, .ref a_7, .ref a_8, .ref a_9, .ref a_10, .ref a_11])), (a_6, .inl (cy 6, 4, .inr (.inr (.inr (.inr (va_up (va_up (va_up (va_up (fun _ => none) 0 (some a_12)) 1 (some a_13)) 2 (some a_14)) 3 (some a_15))))))), (a_12, .inr (6, [.int i_2, .int u.1, .int i_4, .ref a_16])), (a_16, .inl (cy 2, 60, .inr (.inl u.2.1))), (a_13, .inr (6, [.int i_5, .int u.2.2.1, .int i_7, .ref a_17])), (a_17, .inl (cy 2, 60, .inr (.inl u.2.2.2.1))), (a_14, .inr (6, [.int i_8, .int u.2.2.2.2.1, .int i_10, .ref a_18])), (a_18, .inl (cy 2, 60, .inr (.inl u.2.2.2.2.2.1))), (a_15, .inr (6, [.int i_11, .int u.2.2.2.2.2.2.1, .int i_13, .ref a_19])), (a_19, .inl (cy 2, 60, .inr (.inl u.2.2.2.2.2.2.2)))]) (fun (r : Int32) (u : Int32 × (Nat → Int64) × Int32 × (Nat → Int64) × Int32 × (Nat → Int64) × Int32 × (Nat → Int64)) => mm_rg u.1 0 3 ∧ mm_rg u.2.2.1 0 3 ∧ mm_rg u.2.2.2.2.1 0 3 ∧ mm_rg u.2.2.2.2.2.2.1 0 3 ∧ mm_rg r (-7) 0) 0 0 := by
  refine mm_begin (lv := [(0, .ref a_0), (1, .int i_0), (2, .int i_1), (3, .long j_0)]) (by decide) (Nat.le_of_ble_eq_true rfl) rfl ?_
  intro p e s m below meth c A ls R args Q H locs hRe hQ hAe hx hb hr hlocks hml hown hnm hts hsz hA hS hP hK hD hZ hl
  have hRf : R.frames = 1 := by rw [hRe]
  have hRl : R.locals = 23 := by rw [hRe]
  have hRc : R.cells = 0 := by rw [hRe]
  have hRs : R.slots = 0 := by rw [hRe]
  refine lv_iload_n hx hb dX11_write_0 rfl (lv_at hl 1 rfl) ?_
  refine mm_finir (va_runS (As := [.int i_0]) (rest := []) ⟨hx, hb, hml, hown, hts⟩ (K437_X11_isSlot l G cy H.size i_0 ) (va_cwS 1 hts (mm_gS mm_w1232 mm_w1233 mm_w2 mm_w1234) rfl rfl rfl hs_X11_isSlot ⟨by rw [hRf]; exact Nat.le_of_ble_eq_true rfl, by rw [hRl]; exact Nat.le_of_ble_eq_true rfl⟩) (mm_preS hK hZ hS hA hP hD [] rfl rfl) rfl rfl hl.1 rfl (lv_room (Nat.le_of_ble_eq_true rfl)) dX11_write_1 ⟨by rw [hRc]; exact Nat.le_of_ble_eq_true rfl, by rw [hRs]; exact Nat.le_of_ble_eq_true rfl⟩) hP hD hS hA [] rfl (fun _ => rfl) ?_
  clear hP hD hS
  clear H locs
  intro v1 _u H locs hw hP hD hS
  rcases hw with ⟨rfl, w2⟩ | ⟨rfl, w3⟩
  · refine lv_if_ne (tgt := 10) hx hb dX11_write_4 (by decide) (fun c4 => ?_) (fun c4 => ?_)
    · have q5 := mm_neL (lo := 1) (mm_ne c4) mm_k0 mm_k0 (by decide) (by decide)
      exact mm_no q5 (by decide)
    · refine lv_bipush (v := (-2)) hx hb dX11_write_7 (by decide) ?_
      subst hAe
      rw [hQ]
      exact W.iret (v := (-2)) hx hb hr (fun t ht hW => ⟨⟨(-2), (i_3, f_0, i_6, f_1, i_9, f_2, i_12, f_3), rfl, ⟨h1, h4, h7, h10, (mm_wk mm_km2 (by decide))⟩, by rw [ht]; exact hP, hK.warm hW, hD⟩, hS.F ht⟩) hS.2.2 dX11_write_9
  · refine lv_if_ne (tgt := 10) hx hb dX11_write_4 (by decide) (fun c6 => ?_) (fun c6 => ?_)
    · refine lv_aload_n hx hb dX11_write_10 rfl (lv_at hl 0 rfl) ?_
      refine va_get (D := G) (ci := 11) (v := .ref a_6) (C := RX11) (T := TX11) (N := 11) hx hb hts (mm_i inlX11) hown hK.1 hP 0 rfl rfl 5 (by decide) (mm_h hts mm_w32) (fun _ h9 => h9) rfl dX11_write_11 ?_
      refine lv_iload_n hx hb dX11_write_14 rfl (lv_at hl 1 rfl) ?_
      refine va_aldq hx hb hK.1 hP 1 6 rfl rfl (mm_in w3 (by decide)) dX11_write_15 ?_
      have c7 := mm_cases4 w3
      rcases c7 with rfl | rfl | rfl | rfl
      · refine W.eq (g2 := F0 m 16 ls [.ref a_12]) rfl ?_
        refine va_get (D := G) (ci := 6) (v := .int i_2) (C := RX6) (T := TX6) (N := 4) hx hb hts (mm_i inlX6) hown hK.1 hP 2 rfl rfl 0 (by decide) (mm_h hts mm_w1239) (fun _ h9 => h9) rfl dX11_write_16 ?_
        refine lv_if_ne (tgt := 25) hx hb dX11_write_19 (by decide) (fun c8 => ?_) (fun c8 => ?_)
        · have q9 := mm_neL (lo := 1) (mm_ne c8) h0 mm_k0 (by decide) (by decide)
          refine lv_iload_n hx hb dX11_write_25 rfl (lv_at hl 2 rfl) ?_
          refine lv_if_lt (tgt := 42) hx hb dX11_write_26 (by decide) (fun c10 => ?_) (fun c10 => ?_)
          · have q11 := mm_ltL (h := (-1)) (mm_lt c10) (mm_top i_1) mm_k0 (by decide)
            refine lv_bipush (v := (-7)) hx hb dX11_write_42 (by decide) ?_
            subst hAe
            rw [hQ]
            exact W.iret (v := (-7)) hx hb hr (fun t ht hW => ⟨⟨(-7), (i_3, f_0, i_6, f_1, i_9, f_2, i_12, f_3), rfl, ⟨h1, h4, h7, h10, (mm_wk mm_km7 (by decide))⟩, by rw [ht]; exact hP, hK.warm hW, hD⟩, hS.F ht⟩) hS.2.2 dX11_write_44
          · have q12 := mm_leR (mm_nlt c10) mm_k0 (mm_top i_1)
            refine lv_iload_n hx hb dX11_write_29 rfl (lv_at hl 2 rfl) ?_
            refine lv_aload_n hx hb dX11_write_30 rfl (lv_at hl 0 rfl) ?_
            refine va_get (D := G) (ci := 11) (v := .ref a_6) (C := RX11) (T := TX11) (N := 11) hx hb hts (mm_i inlX11) hown hK.1 hP 0 rfl rfl 5 (by decide) (mm_h hts mm_w32) (fun _ h9 => h9) rfl dX11_write_31 ?_
            refine lv_iload_n hx hb dX11_write_34 rfl (lv_at hl 1 rfl) ?_
            refine va_aldq hx hb hK.1 hP 1 6 rfl rfl (mm_in mm_k0 (by decide)) dX11_write_35 ?_
            refine W.eq (g2 := F0 m 36 ls [.ref a_12, .int i_1]) rfl ?_
            refine va_get (D := G) (ci := 6) (v := .int i_4) (C := RX6) (T := TX6) (N := 4) hx hb hts (mm_i inlX6) hown hK.1 hP 2 rfl rfl 2 (by decide) (mm_h hts mm_w1694) (fun _ h9 => h9) rfl dX11_write_36 ?_
            refine lv_icmp_lt (tgt := 45) hx hb dX11_write_39 (by decide) (fun c13 => ?_) (fun c13 => ?_)
            · have q14 := mm_ltL (h := 59) (mm_lt c13) q12 h2 (by decide)
              have q15 := mm_ltR (lo := 1) (mm_lt c13) q12 h2 (by decide)
              refine lv_aload_n hx hb dX11_write_45 rfl (lv_at hl 0 rfl) ?_
              refine va_get (D := G) (ci := 11) (v := .ref a_6) (C := RX11) (T := TX11) (N := 11) hx hb hts (mm_i inlX11) hown hK.1 hP 0 rfl rfl 5 (by decide) (mm_h hts mm_w32) (fun _ h9 => h9) rfl dX11_write_46 ?_
              refine lv_iload_n hx hb dX11_write_49 rfl (lv_at hl 1 rfl) ?_
              refine va_aldq hx hb hK.1 hP 1 6 rfl rfl (mm_in mm_k0 (by decide)) dX11_write_50 ?_
              refine W.eq (g2 := F0 m 51 ls [.ref a_12]) rfl ?_
              refine lv_iload_n hx hb dX11_write_51 rfl (lv_at hl 2 rfl) ?_
              refine lv_lload_n hx hb dX11_write_52 rfl (lv_at hl 3 rfl) ?_
              refine mm_finv (va_runV (As := [.int i_1, .long j_0]) (rest := []) ⟨hx, hb, hml, hown, hts⟩ (K539_X6_put l G cy H.size a_12 i_1 j_0 i_2 i_3 i_4 a_16 f_0 q14 h1) (cwV 2 hts (mm_gV mm_w1695 mm_w1696 mm_w1697 mm_w34 mm_w1698) rfl rfl rfl hd_X6_put ⟨by rw [hRf]; exact Nat.le_of_ble_eq_true rfl, by rw [hRl]; exact Nat.le_of_ble_eq_true rfl⟩) (mm_preV hK hZ hS hA hP hD [2, 3] rfl rfl 2 rfl rfl rfl) rfl rfl hl.1 rfl (lv_room (Nat.le_of_ble_eq_true rfl)) dX11_write_53 ⟨by rw [hRc]; exact Nat.le_of_ble_eq_true rfl, by rw [hRs]; exact Nat.le_of_ble_eq_true rfl⟩) hP hD hS hA (fun u : Int32 × (Nat → Int64) => [(a_0, .inr (11, [.ref a_1, .ref a_2, .ref a_3, .ref a_4, .ref a_5, .ref a_6, .ref a_7, .ref a_8, .ref a_9, .ref a_10, .ref a_11])), (a_6, .inl (cy 6, 4, .inr (.inr (.inr (.inr (va_up (va_up (va_up (va_up (fun _ => none) 0 (some a_12)) 1 (some a_13)) 2 (some a_14)) 3 (some a_15))))))), (a_12, .inr (6, [.int i_2, .int u.1, .int i_4, .ref a_16])), (a_16, .inl (cy 2, 60, .inr (.inl u.2))), (a_13, .inr (6, [.int i_5, .int i_6, .int i_7, .ref a_17])), (a_17, .inl (cy 2, 60, .inr (.inl f_1))), (a_14, .inr (6, [.int i_8, .int i_9, .int i_10, .ref a_18])), (a_18, .inl (cy 2, 60, .inr (.inl f_2))), (a_15, .inr (6, [.int i_11, .int i_12, .int i_13, .ref a_19])), (a_19, .inl (cy 2, 60, .inr (.inl f_3)))]) [2, 3] [0, 1, 4, 5, 6, 7, 8, 9] (n := 10) (fun _ => rfl) (by decide +kernel) (by decide +kernel) rfl (fun _ => rfl) (wr := [(a_0, .inr (11, [.ref a_1, .ref a_2, .ref a_3, .ref a_4, .ref a_5, .ref a_6, .ref a_7, .ref a_8, .ref a_9, .ref a_10, .ref a_11])), (a_6, .inl (cy 6, 4, .inr (.inr (.inr (.inr (va_up (va_up (va_up (va_up (fun _ => none) 0 (some a_12)) 1 (some a_13)) 2 (some a_14)) 3 (some a_15))))))), (a_13, .inr (6, [.int i_5, .int i_6, .int i_7, .ref a_17])), (a_17, .inl (cy 2, 60, .inr (.inl f_1))), (a_14, .inr (6, [.int i_8, .int i_9, .int i_10, .ref a_18])), (a_18, .inl (cy 2, 60, .inr (.inl f_2))), (a_15, .inr (6, [.int i_11, .int i_12, .int i_13, .ref a_19])), (a_19, .inl (cy 2, 60, .inr (.inl f_3)))]) rfl (fun _ => rfl) (fun _ => rfl) ?_
              clear hP hD hS
              clear H locs
              intro u
              obtain ⟨n16, n17⟩ := u
              intro H locs hw (hP : va_P G vwCl [(a_0, .inr (11, [.ref a_1, .ref a_2, .ref a_3, .ref a_4, .ref a_5, .ref a_6, .ref a_7, .ref a_8, .ref a_9, .ref a_10, .ref a_11])), (a_6, .inl (cy 6, 4, .inr (.inr (.inr (.inr (va_up (va_up (va_up (va_up (fun _ => none) 0 (some a_12)) 1 (some a_13)) 2 (some a_14)) 3 (some a_15))))))), (a_12, .inr (6, [.int i_2, .int n16, .int i_4, .ref a_16])), (a_16, .inl (cy 2, 60, .inr (.inl n17))), (a_13, .inr (6, [.int i_5, .int i_6, .int i_7, .ref a_17])), (a_17, .inl (cy 2, 60, .inr (.inl f_1))), (a_14, .inr (6, [.int i_8, .int i_9, .int i_10, .ref a_18])), (a_18, .inl (cy 2, 60, .inr (.inl f_2))), (a_15, .inr (6, [.int i_11, .int i_12, .int i_13, .ref a_19])), (a_19, .inl (cy 2, 60, .inr (.inl f_3)))] H) (hD : va_D A [(a_0, .inr (11, [.ref a_1, .ref a_2, .ref a_3, .ref a_4, .ref a_5, .ref a_6, .ref a_7, .ref a_8, .ref a_9, .ref a_10, .ref a_11])), (a_6, .inl (cy 6, 4, .inr (.inr (.inr (.inr (va_up (va_up (va_up (va_up (fun _ => none) 0 (some a_12)) 1 (some a_13)) 2 (some a_14)) 3 (some a_15))))))), (a_12, .inr (6, [.int i_2, .int n16, .int i_4, .ref a_16])), (a_16, .inl (cy 2, 60, .inr (.inl n17))), (a_13, .inr (6, [.int i_5, .int i_6, .int i_7, .ref a_17])), (a_17, .inl (cy 2, 60, .inr (.inl f_1))), (a_14, .inr (6, [.int i_8, .int i_9, .int i_10, .ref a_18])), (a_18, .inl (cy 2, 60, .inr (.inl f_2))), (a_15, .inr (6, [.int i_11, .int i_12, .int i_13, .ref a_19])), (a_19, .inl (cy 2, 60, .inr (.inl f_3)))]) hS
              have w18 := hw
              refine lv_iconst (v := 0) hx hb dX11_write_56 (by decide) ?_
              subst hAe
              rw [hQ]
              exact W.iret (v := 0) hx hb hr (fun t ht hW => ⟨⟨0, (n16, n17, i_6, f_1, i_9, f_2, i_12, f_3), rfl, ⟨w18, h4, h7, h10, (mm_wk mm_k0 (by decide))⟩, by rw [ht]; exact hP, hK.warm hW, hD⟩, hS.F ht⟩) hS.2.2 dX11_write_57
            · refine lv_bipush (v := (-7)) hx hb dX11_write_42 (by decide) ?_
              subst hAe
              rw [hQ]
              exact W.iret (v := (-7)) hx hb hr (fun t ht hW => ⟨⟨(-7), (i_3, f_0, i_6, f_1, i_9, f_2, i_12, f_3), rfl, ⟨h1, h4, h7, h10, (mm_wk mm_km7 (by decide))⟩, by rw [ht]; exact hP, hK.warm hW, hD⟩, hS.F ht⟩) hS.2.2 dX11_write_44
        · have q19 := mm_eqI (lo := 0) (hi := 0) c8 h0 mm_k0 (by decide)
          refine lv_bipush (v := (-6)) hx hb dX11_write_22 (by decide) ?_
          subst hAe
          rw [hQ]
          exact W.iret (v := (-6)) hx hb hr (fun t ht hW => ⟨⟨(-6), (i_3, f_0, i_6, f_1, i_9, f_2, i_12, f_3), rfl, ⟨h1, h4, h7, h10, (mm_wk mm_km6 (by decide))⟩, by rw [ht]; exact hP, hK.warm hW, hD⟩, hS.F ht⟩) hS.2.2 dX11_write_24
      · refine W.eq (g2 := F0 m 16 ls [.ref a_13]) rfl ?_
        refine va_get (D := G) (ci := 6) (v := .int i_5) (C := RX6) (T := TX6) (N := 4) hx hb hts (mm_i inlX6) hown hK.1 hP 4 rfl rfl 0 (by decide) (mm_h hts mm_w1239) (fun _ h9 => h9) rfl dX11_write_16 ?_
        refine lv_if_ne (tgt := 25) hx hb dX11_write_19 (by decide) (fun c20 => ?_) (fun c20 => ?_)
        · have q21 := mm_neL (lo := 1) (mm_ne c20) h3 mm_k0 (by decide) (by decide)
          refine lv_iload_n hx hb dX11_write_25 rfl (lv_at hl 2 rfl) ?_
          refine lv_if_lt (tgt := 42) hx hb dX11_write_26 (by decide) (fun c22 => ?_) (fun c22 => ?_)
          · have q23 := mm_ltL (h := (-1)) (mm_lt c22) (mm_top i_1) mm_k0 (by decide)
            refine lv_bipush (v := (-7)) hx hb dX11_write_42 (by decide) ?_
            subst hAe
            rw [hQ]
            exact W.iret (v := (-7)) hx hb hr (fun t ht hW => ⟨⟨(-7), (i_3, f_0, i_6, f_1, i_9, f_2, i_12, f_3), rfl, ⟨h1, h4, h7, h10, (mm_wk mm_km7 (by decide))⟩, by rw [ht]; exact hP, hK.warm hW, hD⟩, hS.F ht⟩) hS.2.2 dX11_write_44
          · have q24 := mm_leR (mm_nlt c22) mm_k0 (mm_top i_1)
            refine lv_iload_n hx hb dX11_write_29 rfl (lv_at hl 2 rfl) ?_
            refine lv_aload_n hx hb dX11_write_30 rfl (lv_at hl 0 rfl) ?_
            refine va_get (D := G) (ci := 11) (v := .ref a_6) (C := RX11) (T := TX11) (N := 11) hx hb hts (mm_i inlX11) hown hK.1 hP 0 rfl rfl 5 (by decide) (mm_h hts mm_w32) (fun _ h9 => h9) rfl dX11_write_31 ?_
            refine lv_iload_n hx hb dX11_write_34 rfl (lv_at hl 1 rfl) ?_
            refine va_aldq hx hb hK.1 hP 1 6 rfl rfl (mm_in mm_k1 (by decide)) dX11_write_35 ?_
            refine W.eq (g2 := F0 m 36 ls [.ref a_13, .int i_1]) rfl ?_
            refine va_get (D := G) (ci := 6) (v := .int i_7) (C := RX6) (T := TX6) (N := 4) hx hb hts (mm_i inlX6) hown hK.1 hP 4 rfl rfl 2 (by decide) (mm_h hts mm_w1694) (fun _ h9 => h9) rfl dX11_write_36 ?_
            refine lv_icmp_lt (tgt := 45) hx hb dX11_write_39 (by decide) (fun c25 => ?_) (fun c25 => ?_)
            · have q26 := mm_ltL (h := 59) (mm_lt c25) q24 h5 (by decide)
              have q27 := mm_ltR (lo := 1) (mm_lt c25) q24 h5 (by decide)
              refine lv_aload_n hx hb dX11_write_45 rfl (lv_at hl 0 rfl) ?_
              refine va_get (D := G) (ci := 11) (v := .ref a_6) (C := RX11) (T := TX11) (N := 11) hx hb hts (mm_i inlX11) hown hK.1 hP 0 rfl rfl 5 (by decide) (mm_h hts mm_w32) (fun _ h9 => h9) rfl dX11_write_46 ?_
              refine lv_iload_n hx hb dX11_write_49 rfl (lv_at hl 1 rfl) ?_
              refine va_aldq hx hb hK.1 hP 1 6 rfl rfl (mm_in mm_k1 (by decide)) dX11_write_50 ?_
              refine W.eq (g2 := F0 m 51 ls [.ref a_13]) rfl ?_
              refine lv_iload_n hx hb dX11_write_51 rfl (lv_at hl 2 rfl) ?_
              refine lv_lload_n hx hb dX11_write_52 rfl (lv_at hl 3 rfl) ?_
              refine mm_finv (va_runV (As := [.int i_1, .long j_0]) (rest := []) ⟨hx, hb, hml, hown, hts⟩ (K539_X6_put l G cy H.size a_13 i_1 j_0 i_5 i_6 i_7 a_17 f_1 q26 h4) (cwV 2 hts (mm_gV mm_w1695 mm_w1696 mm_w1697 mm_w34 mm_w1698) rfl rfl rfl hd_X6_put ⟨by rw [hRf]; exact Nat.le_of_ble_eq_true rfl, by rw [hRl]; exact Nat.le_of_ble_eq_true rfl⟩) (mm_preV hK hZ hS hA hP hD [4, 5] rfl rfl 4 rfl rfl rfl) rfl rfl hl.1 rfl (lv_room (Nat.le_of_ble_eq_true rfl)) dX11_write_53 ⟨by rw [hRc]; exact Nat.le_of_ble_eq_true rfl, by rw [hRs]; exact Nat.le_of_ble_eq_true rfl⟩) hP hD hS hA (fun u : Int32 × (Nat → Int64) => [(a_0, .inr (11, [.ref a_1, .ref a_2, .ref a_3, .ref a_4, .ref a_5, .ref a_6, .ref a_7, .ref a_8, .ref a_9, .ref a_10, .ref a_11])), (a_6, .inl (cy 6, 4, .inr (.inr (.inr (.inr (va_up (va_up (va_up (va_up (fun _ => none) 0 (some a_12)) 1 (some a_13)) 2 (some a_14)) 3 (some a_15))))))), (a_12, .inr (6, [.int i_2, .int i_3, .int i_4, .ref a_16])), (a_16, .inl (cy 2, 60, .inr (.inl f_0))), (a_13, .inr (6, [.int i_5, .int u.1, .int i_7, .ref a_17])), (a_17, .inl (cy 2, 60, .inr (.inl u.2))), (a_14, .inr (6, [.int i_8, .int i_9, .int i_10, .ref a_18])), (a_18, .inl (cy 2, 60, .inr (.inl f_2))), (a_15, .inr (6, [.int i_11, .int i_12, .int i_13, .ref a_19])), (a_19, .inl (cy 2, 60, .inr (.inl f_3)))]) [4, 5] [0, 1, 2, 3, 6, 7, 8, 9] (n := 10) (fun _ => rfl) (by decide +kernel) (by decide +kernel) rfl (fun _ => rfl) (wr := [(a_0, .inr (11, [.ref a_1, .ref a_2, .ref a_3, .ref a_4, .ref a_5, .ref a_6, .ref a_7, .ref a_8, .ref a_9, .ref a_10, .ref a_11])), (a_6, .inl (cy 6, 4, .inr (.inr (.inr (.inr (va_up (va_up (va_up (va_up (fun _ => none) 0 (some a_12)) 1 (some a_13)) 2 (some a_14)) 3 (some a_15))))))), (a_12, .inr (6, [.int i_2, .int i_3, .int i_4, .ref a_16])), (a_16, .inl (cy 2, 60, .inr (.inl f_0))), (a_14, .inr (6, [.int i_8, .int i_9, .int i_10, .ref a_18])), (a_18, .inl (cy 2, 60, .inr (.inl f_2))), (a_15, .inr (6, [.int i_11, .int i_12, .int i_13, .ref a_19])), (a_19, .inl (cy 2, 60, .inr (.inl f_3)))]) rfl (fun _ => rfl) (fun _ => rfl) ?_
              clear hP hD hS
              clear H locs
              intro u
              obtain ⟨n28, n29⟩ := u
              intro H locs hw (hP : va_P G vwCl [(a_0, .inr (11, [.ref a_1, .ref a_2, .ref a_3, .ref a_4, .ref a_5, .ref a_6, .ref a_7, .ref a_8, .ref a_9, .ref a_10, .ref a_11])), (a_6, .inl (cy 6, 4, .inr (.inr (.inr (.inr (va_up (va_up (va_up (va_up (fun _ => none) 0 (some a_12)) 1 (some a_13)) 2 (some a_14)) 3 (some a_15))))))), (a_12, .inr (6, [.int i_2, .int i_3, .int i_4, .ref a_16])), (a_16, .inl (cy 2, 60, .inr (.inl f_0))), (a_13, .inr (6, [.int i_5, .int n28, .int i_7, .ref a_17])), (a_17, .inl (cy 2, 60, .inr (.inl n29))), (a_14, .inr (6, [.int i_8, .int i_9, .int i_10, .ref a_18])), (a_18, .inl (cy 2, 60, .inr (.inl f_2))), (a_15, .inr (6, [.int i_11, .int i_12, .int i_13, .ref a_19])), (a_19, .inl (cy 2, 60, .inr (.inl f_3)))] H) (hD : va_D A [(a_0, .inr (11, [.ref a_1, .ref a_2, .ref a_3, .ref a_4, .ref a_5, .ref a_6, .ref a_7, .ref a_8, .ref a_9, .ref a_10, .ref a_11])), (a_6, .inl (cy 6, 4, .inr (.inr (.inr (.inr (va_up (va_up (va_up (va_up (fun _ => none) 0 (some a_12)) 1 (some a_13)) 2 (some a_14)) 3 (some a_15))))))), (a_12, .inr (6, [.int i_2, .int i_3, .int i_4, .ref a_16])), (a_16, .inl (cy 2, 60, .inr (.inl f_0))), (a_13, .inr (6, [.int i_5, .int n28, .int i_7, .ref a_17])), (a_17, .inl (cy 2, 60, .inr (.inl n29))), (a_14, .inr (6, [.int i_8, .int i_9, .int i_10, .ref a_18])), (a_18, .inl (cy 2, 60, .inr (.inl f_2))), (a_15, .inr (6, [.int i_11, .int i_12, .int i_13, .ref a_19])), (a_19, .inl (cy 2, 60, .inr (.inl f_3)))]) hS
              have w30 := hw
              refine lv_iconst (v := 0) hx hb dX11_write_56 (by decide) ?_
              subst hAe
              rw [hQ]
              exact W.iret (v := 0) hx hb hr (fun t ht hW => ⟨⟨0, (i_3, f_0, n28, n29, i_9, f_2, i_12, f_3), rfl, ⟨h1, w30, h7, h10, (mm_wk mm_k0 (by decide))⟩, by rw [ht]; exact hP, hK.warm hW, hD⟩, hS.F ht⟩) hS.2.2 dX11_write_57
            · refine lv_bipush (v := (-7)) hx hb dX11_write_42 (by decide) ?_
              subst hAe
              rw [hQ]
              exact W.iret (v := (-7)) hx hb hr (fun t ht hW => ⟨⟨(-7), (i_3, f_0, i_6, f_1, i_9, f_2, i_12, f_3), rfl, ⟨h1, h4, h7, h10, (mm_wk mm_km7 (by decide))⟩, by rw [ht]; exact hP, hK.warm hW, hD⟩, hS.F ht⟩) hS.2.2 dX11_write_44
        · have q31 := mm_eqI (lo := 0) (hi := 0) c20 h3 mm_k0 (by decide)
          refine lv_bipush (v := (-6)) hx hb dX11_write_22 (by decide) ?_
          subst hAe
          rw [hQ]
          exact W.iret (v := (-6)) hx hb hr (fun t ht hW => ⟨⟨(-6), (i_3, f_0, i_6, f_1, i_9, f_2, i_12, f_3), rfl, ⟨h1, h4, h7, h10, (mm_wk mm_km6 (by decide))⟩, by rw [ht]; exact hP, hK.warm hW, hD⟩, hS.F ht⟩) hS.2.2 dX11_write_24
      · refine W.eq (g2 := F0 m 16 ls [.ref a_14]) rfl ?_
        refine va_get (D := G) (ci := 6) (v := .int i_8) (C := RX6) (T := TX6) (N := 4) hx hb hts (mm_i inlX6) hown hK.1 hP 6 rfl rfl 0 (by decide) (mm_h hts mm_w1239) (fun _ h9 => h9) rfl dX11_write_16 ?_
        refine lv_if_ne (tgt := 25) hx hb dX11_write_19 (by decide) (fun c32 => ?_) (fun c32 => ?_)
        · have q33 := mm_neL (lo := 1) (mm_ne c32) h6 mm_k0 (by decide) (by decide)
          refine lv_iload_n hx hb dX11_write_25 rfl (lv_at hl 2 rfl) ?_
          refine lv_if_lt (tgt := 42) hx hb dX11_write_26 (by decide) (fun c34 => ?_) (fun c34 => ?_)
          · have q35 := mm_ltL (h := (-1)) (mm_lt c34) (mm_top i_1) mm_k0 (by decide)
            refine lv_bipush (v := (-7)) hx hb dX11_write_42 (by decide) ?_
            subst hAe
            rw [hQ]
            exact W.iret (v := (-7)) hx hb hr (fun t ht hW => ⟨⟨(-7), (i_3, f_0, i_6, f_1, i_9, f_2, i_12, f_3), rfl, ⟨h1, h4, h7, h10, (mm_wk mm_km7 (by decide))⟩, by rw [ht]; exact hP, hK.warm hW, hD⟩, hS.F ht⟩) hS.2.2 dX11_write_44
          · have q36 := mm_leR (mm_nlt c34) mm_k0 (mm_top i_1)
            refine lv_iload_n hx hb dX11_write_29 rfl (lv_at hl 2 rfl) ?_
            refine lv_aload_n hx hb dX11_write_30 rfl (lv_at hl 0 rfl) ?_
            refine va_get (D := G) (ci := 11) (v := .ref a_6) (C := RX11) (T := TX11) (N := 11) hx hb hts (mm_i inlX11) hown hK.1 hP 0 rfl rfl 5 (by decide) (mm_h hts mm_w32) (fun _ h9 => h9) rfl dX11_write_31 ?_
            refine lv_iload_n hx hb dX11_write_34 rfl (lv_at hl 1 rfl) ?_
            refine va_aldq hx hb hK.1 hP 1 6 rfl rfl (mm_in mm_k2 (by decide)) dX11_write_35 ?_
            refine W.eq (g2 := F0 m 36 ls [.ref a_14, .int i_1]) rfl ?_
            refine va_get (D := G) (ci := 6) (v := .int i_10) (C := RX6) (T := TX6) (N := 4) hx hb hts (mm_i inlX6) hown hK.1 hP 6 rfl rfl 2 (by decide) (mm_h hts mm_w1694) (fun _ h9 => h9) rfl dX11_write_36 ?_
            refine lv_icmp_lt (tgt := 45) hx hb dX11_write_39 (by decide) (fun c37 => ?_) (fun c37 => ?_)
            · have q38 := mm_ltL (h := 59) (mm_lt c37) q36 h8 (by decide)
              have q39 := mm_ltR (lo := 1) (mm_lt c37) q36 h8 (by decide)
              refine lv_aload_n hx hb dX11_write_45 rfl (lv_at hl 0 rfl) ?_
              refine va_get (D := G) (ci := 11) (v := .ref a_6) (C := RX11) (T := TX11) (N := 11) hx hb hts (mm_i inlX11) hown hK.1 hP 0 rfl rfl 5 (by decide) (mm_h hts mm_w32) (fun _ h9 => h9) rfl dX11_write_46 ?_
              refine lv_iload_n hx hb dX11_write_49 rfl (lv_at hl 1 rfl) ?_
              refine va_aldq hx hb hK.1 hP 1 6 rfl rfl (mm_in mm_k2 (by decide)) dX11_write_50 ?_
              refine W.eq (g2 := F0 m 51 ls [.ref a_14]) rfl ?_
              refine lv_iload_n hx hb dX11_write_51 rfl (lv_at hl 2 rfl) ?_
              refine lv_lload_n hx hb dX11_write_52 rfl (lv_at hl 3 rfl) ?_
              refine mm_finv (va_runV (As := [.int i_1, .long j_0]) (rest := []) ⟨hx, hb, hml, hown, hts⟩ (K539_X6_put l G cy H.size a_14 i_1 j_0 i_8 i_9 i_10 a_18 f_2 q38 h7) (cwV 2 hts (mm_gV mm_w1695 mm_w1696 mm_w1697 mm_w34 mm_w1698) rfl rfl rfl hd_X6_put ⟨by rw [hRf]; exact Nat.le_of_ble_eq_true rfl, by rw [hRl]; exact Nat.le_of_ble_eq_true rfl⟩) (mm_preV hK hZ hS hA hP hD [6, 7] rfl rfl 6 rfl rfl rfl) rfl rfl hl.1 rfl (lv_room (Nat.le_of_ble_eq_true rfl)) dX11_write_53 ⟨by rw [hRc]; exact Nat.le_of_ble_eq_true rfl, by rw [hRs]; exact Nat.le_of_ble_eq_true rfl⟩) hP hD hS hA (fun u : Int32 × (Nat → Int64) => [(a_0, .inr (11, [.ref a_1, .ref a_2, .ref a_3, .ref a_4, .ref a_5, .ref a_6, .ref a_7, .ref a_8, .ref a_9, .ref a_10, .ref a_11])), (a_6, .inl (cy 6, 4, .inr (.inr (.inr (.inr (va_up (va_up (va_up (va_up (fun _ => none) 0 (some a_12)) 1 (some a_13)) 2 (some a_14)) 3 (some a_15))))))), (a_12, .inr (6, [.int i_2, .int i_3, .int i_4, .ref a_16])), (a_16, .inl (cy 2, 60, .inr (.inl f_0))), (a_13, .inr (6, [.int i_5, .int i_6, .int i_7, .ref a_17])), (a_17, .inl (cy 2, 60, .inr (.inl f_1))), (a_14, .inr (6, [.int i_8, .int u.1, .int i_10, .ref a_18])), (a_18, .inl (cy 2, 60, .inr (.inl u.2))), (a_15, .inr (6, [.int i_11, .int i_12, .int i_13, .ref a_19])), (a_19, .inl (cy 2, 60, .inr (.inl f_3)))]) [6, 7] [0, 1, 2, 3, 4, 5, 8, 9] (n := 10) (fun _ => rfl) (by decide +kernel) (by decide +kernel) rfl (fun _ => rfl) (wr := [(a_0, .inr (11, [.ref a_1, .ref a_2, .ref a_3, .ref a_4, .ref a_5, .ref a_6, .ref a_7, .ref a_8, .ref a_9, .ref a_10, .ref a_11])), (a_6, .inl (cy 6, 4, .inr (.inr (.inr (.inr (va_up (va_up (va_up (va_up (fun _ => none) 0 (some a_12)) 1 (some a_13)) 2 (some a_14)) 3 (some a_15))))))), (a_12, .inr (6, [.int i_2, .int i_3, .int i_4, .ref a_16])), (a_16, .inl (cy 2, 60, .inr (.inl f_0))), (a_13, .inr (6, [.int i_5, .int i_6, .int i_7, .ref a_17])), (a_17, .inl (cy 2, 60, .inr (.inl f_1))), (a_15, .inr (6, [.int i_11, .int i_12, .int i_13, .ref a_19])), (a_19, .inl (cy 2, 60, .inr (.inl f_3)))]) rfl (fun _ => rfl) (fun _ => rfl) ?_
              clear hP hD hS
              clear H locs
              intro u
              obtain ⟨n40, n41⟩ := u
              intro H locs hw (hP : va_P G vwCl [(a_0, .inr (11, [.ref a_1, .ref a_2, .ref a_3, .ref a_4, .ref a_5, .ref a_6, .ref a_7, .ref a_8, .ref a_9, .ref a_10, .ref a_11])), (a_6, .inl (cy 6, 4, .inr (.inr (.inr (.inr (va_up (va_up (va_up (va_up (fun _ => none) 0 (some a_12)) 1 (some a_13)) 2 (some a_14)) 3 (some a_15))))))), (a_12, .inr (6, [.int i_2, .int i_3, .int i_4, .ref a_16])), (a_16, .inl (cy 2, 60, .inr (.inl f_0))), (a_13, .inr (6, [.int i_5, .int i_6, .int i_7, .ref a_17])), (a_17, .inl (cy 2, 60, .inr (.inl f_1))), (a_14, .inr (6, [.int i_8, .int n40, .int i_10, .ref a_18])), (a_18, .inl (cy 2, 60, .inr (.inl n41))), (a_15, .inr (6, [.int i_11, .int i_12, .int i_13, .ref a_19])), (a_19, .inl (cy 2, 60, .inr (.inl f_3)))] H) (hD : va_D A [(a_0, .inr (11, [.ref a_1, .ref a_2, .ref a_3, .ref a_4, .ref a_5, .ref a_6, .ref a_7, .ref a_8, .ref a_9, .ref a_10, .ref a_11])), (a_6, .inl (cy 6, 4, .inr (.inr (.inr (.inr (va_up (va_up (va_up (va_up (fun _ => none) 0 (some a_12)) 1 (some a_13)) 2 (some a_14)) 3 (some a_15))))))), (a_12, .inr (6, [.int i_2, .int i_3, .int i_4, .ref a_16])), (a_16, .inl (cy 2, 60, .inr (.inl f_0))), (a_13, .inr (6, [.int i_5, .int i_6, .int i_7, .ref a_17])), (a_17, .inl (cy 2, 60, .inr (.inl f_1))), (a_14, .inr (6, [.int i_8, .int n40, .int i_10, .ref a_18])), (a_18, .inl (cy 2, 60, .inr (.inl n41))), (a_15, .inr (6, [.int i_11, .int i_12, .int i_13, .ref a_19])), (a_19, .inl (cy 2, 60, .inr (.inl f_3)))]) hS
              have w42 := hw
              refine lv_iconst (v := 0) hx hb dX11_write_56 (by decide) ?_
              subst hAe
              rw [hQ]
              exact W.iret (v := 0) hx hb hr (fun t ht hW => ⟨⟨0, (i_3, f_0, i_6, f_1, n40, n41, i_12, f_3), rfl, ⟨h1, h4, w42, h10, (mm_wk mm_k0 (by decide))⟩, by rw [ht]; exact hP, hK.warm hW, hD⟩, hS.F ht⟩) hS.2.2 dX11_write_57
            · refine lv_bipush (v := (-7)) hx hb dX11_write_42 (by decide) ?_
              subst hAe
              rw [hQ]
              exact W.iret (v := (-7)) hx hb hr (fun t ht hW => ⟨⟨(-7), (i_3, f_0, i_6, f_1, i_9, f_2, i_12, f_3), rfl, ⟨h1, h4, h7, h10, (mm_wk mm_km7 (by decide))⟩, by rw [ht]; exact hP, hK.warm hW, hD⟩, hS.F ht⟩) hS.2.2 dX11_write_44
        · have q43 := mm_eqI (lo := 0) (hi := 0) c32 h6 mm_k0 (by decide)
          refine lv_bipush (v := (-6)) hx hb dX11_write_22 (by decide) ?_
          subst hAe
          rw [hQ]
          exact W.iret (v := (-6)) hx hb hr (fun t ht hW => ⟨⟨(-6), (i_3, f_0, i_6, f_1, i_9, f_2, i_12, f_3), rfl, ⟨h1, h4, h7, h10, (mm_wk mm_km6 (by decide))⟩, by rw [ht]; exact hP, hK.warm hW, hD⟩, hS.F ht⟩) hS.2.2 dX11_write_24
      · refine W.eq (g2 := F0 m 16 ls [.ref a_15]) rfl ?_
        refine va_get (D := G) (ci := 6) (v := .int i_11) (C := RX6) (T := TX6) (N := 4) hx hb hts (mm_i inlX6) hown hK.1 hP 8 rfl rfl 0 (by decide) (mm_h hts mm_w1239) (fun _ h9 => h9) rfl dX11_write_16 ?_
        refine lv_if_ne (tgt := 25) hx hb dX11_write_19 (by decide) (fun c44 => ?_) (fun c44 => ?_)
        · have q45 := mm_neL (lo := 1) (mm_ne c44) h9 mm_k0 (by decide) (by decide)
          refine lv_iload_n hx hb dX11_write_25 rfl (lv_at hl 2 rfl) ?_
          refine lv_if_lt (tgt := 42) hx hb dX11_write_26 (by decide) (fun c46 => ?_) (fun c46 => ?_)
          · have q47 := mm_ltL (h := (-1)) (mm_lt c46) (mm_top i_1) mm_k0 (by decide)
            refine lv_bipush (v := (-7)) hx hb dX11_write_42 (by decide) ?_
            subst hAe
            rw [hQ]
            exact W.iret (v := (-7)) hx hb hr (fun t ht hW => ⟨⟨(-7), (i_3, f_0, i_6, f_1, i_9, f_2, i_12, f_3), rfl, ⟨h1, h4, h7, h10, (mm_wk mm_km7 (by decide))⟩, by rw [ht]; exact hP, hK.warm hW, hD⟩, hS.F ht⟩) hS.2.2 dX11_write_44
          · have q48 := mm_leR (mm_nlt c46) mm_k0 (mm_top i_1)
            refine lv_iload_n hx hb dX11_write_29 rfl (lv_at hl 2 rfl) ?_
            refine lv_aload_n hx hb dX11_write_30 rfl (lv_at hl 0 rfl) ?_
            refine va_get (D := G) (ci := 11) (v := .ref a_6) (C := RX11) (T := TX11) (N := 11) hx hb hts (mm_i inlX11) hown hK.1 hP 0 rfl rfl 5 (by decide) (mm_h hts mm_w32) (fun _ h9 => h9) rfl dX11_write_31 ?_
            refine lv_iload_n hx hb dX11_write_34 rfl (lv_at hl 1 rfl) ?_
            refine va_aldq hx hb hK.1 hP 1 6 rfl rfl (mm_in mm_k3 (by decide)) dX11_write_35 ?_
            refine W.eq (g2 := F0 m 36 ls [.ref a_15, .int i_1]) rfl ?_
            refine va_get (D := G) (ci := 6) (v := .int i_13) (C := RX6) (T := TX6) (N := 4) hx hb hts (mm_i inlX6) hown hK.1 hP 8 rfl rfl 2 (by decide) (mm_h hts mm_w1694) (fun _ h9 => h9) rfl dX11_write_36 ?_
            refine lv_icmp_lt (tgt := 45) hx hb dX11_write_39 (by decide) (fun c49 => ?_) (fun c49 => ?_)
            · have q50 := mm_ltL (h := 59) (mm_lt c49) q48 h11 (by decide)
              have q51 := mm_ltR (lo := 1) (mm_lt c49) q48 h11 (by decide)
              refine lv_aload_n hx hb dX11_write_45 rfl (lv_at hl 0 rfl) ?_
              refine va_get (D := G) (ci := 11) (v := .ref a_6) (C := RX11) (T := TX11) (N := 11) hx hb hts (mm_i inlX11) hown hK.1 hP 0 rfl rfl 5 (by decide) (mm_h hts mm_w32) (fun _ h9 => h9) rfl dX11_write_46 ?_
              refine lv_iload_n hx hb dX11_write_49 rfl (lv_at hl 1 rfl) ?_
              refine va_aldq hx hb hK.1 hP 1 6 rfl rfl (mm_in mm_k3 (by decide)) dX11_write_50 ?_
              refine W.eq (g2 := F0 m 51 ls [.ref a_15]) rfl ?_
              refine lv_iload_n hx hb dX11_write_51 rfl (lv_at hl 2 rfl) ?_
              refine lv_lload_n hx hb dX11_write_52 rfl (lv_at hl 3 rfl) ?_
              refine mm_finv (va_runV (As := [.int i_1, .long j_0]) (rest := []) ⟨hx, hb, hml, hown, hts⟩ (K539_X6_put l G cy H.size a_15 i_1 j_0 i_11 i_12 i_13 a_19 f_3 q50 h10) (cwV 2 hts (mm_gV mm_w1695 mm_w1696 mm_w1697 mm_w34 mm_w1698) rfl rfl rfl hd_X6_put ⟨by rw [hRf]; exact Nat.le_of_ble_eq_true rfl, by rw [hRl]; exact Nat.le_of_ble_eq_true rfl⟩) (mm_preV hK hZ hS hA hP hD [8, 9] rfl rfl 8 rfl rfl rfl) rfl rfl hl.1 rfl (lv_room (Nat.le_of_ble_eq_true rfl)) dX11_write_53 ⟨by rw [hRc]; exact Nat.le_of_ble_eq_true rfl, by rw [hRs]; exact Nat.le_of_ble_eq_true rfl⟩) hP hD hS hA (fun u : Int32 × (Nat → Int64) => [(a_0, .inr (11, [.ref a_1, .ref a_2, .ref a_3, .ref a_4, .ref a_5, .ref a_6, .ref a_7, .ref a_8, .ref a_9, .ref a_10, .ref a_11])), (a_6, .inl (cy 6, 4, .inr (.inr (.inr (.inr (va_up (va_up (va_up (va_up (fun _ => none) 0 (some a_12)) 1 (some a_13)) 2 (some a_14)) 3 (some a_15))))))), (a_12, .inr (6, [.int i_2, .int i_3, .int i_4, .ref a_16])), (a_16, .inl (cy 2, 60, .inr (.inl f_0))), (a_13, .inr (6, [.int i_5, .int i_6, .int i_7, .ref a_17])), (a_17, .inl (cy 2, 60, .inr (.inl f_1))), (a_14, .inr (6, [.int i_8, .int i_9, .int i_10, .ref a_18])), (a_18, .inl (cy 2, 60, .inr (.inl f_2))), (a_15, .inr (6, [.int i_11, .int u.1, .int i_13, .ref a_19])), (a_19, .inl (cy 2, 60, .inr (.inl u.2)))]) [8, 9] [0, 1, 2, 3, 4, 5, 6, 7] (n := 10) (fun _ => rfl) (by decide +kernel) (by decide +kernel) rfl (fun _ => rfl) (wr := [(a_0, .inr (11, [.ref a_1, .ref a_2, .ref a_3, .ref a_4, .ref a_5, .ref a_6, .ref a_7, .ref a_8, .ref a_9, .ref a_10, .ref a_11])), (a_6, .inl (cy 6, 4, .inr (.inr (.inr (.inr (va_up (va_up (va_up (va_up (fun _ => none) 0 (some a_12)) 1 (some a_13)) 2 (some a_14)) 3 (some a_15))))))), (a_12, .inr (6, [.int i_2, .int i_3, .int i_4, .ref a_16])), (a_16, .inl (cy 2, 60, .inr (.inl f_0))), (a_13, .inr (6, [.int i_5, .int i_6, .int i_7, .ref a_17])), (a_17, .inl (cy 2, 60, .inr (.inl f_1))), (a_14, .inr (6, [.int i_8, .int i_9, .int i_10, .ref a_18])), (a_18, .inl (cy 2, 60, .inr (.inl f_2)))]) rfl (fun _ => rfl) (fun _ => rfl) ?_
              clear hP hD hS
              clear H locs
              intro u
              obtain ⟨n52, n53⟩ := u
              intro H locs hw (hP : va_P G vwCl [(a_0, .inr (11, [.ref a_1, .ref a_2, .ref a_3, .ref a_4, .ref a_5, .ref a_6, .ref a_7, .ref a_8, .ref a_9, .ref a_10, .ref a_11])), (a_6, .inl (cy 6, 4, .inr (.inr (.inr (.inr (va_up (va_up (va_up (va_up (fun _ => none) 0 (some a_12)) 1 (some a_13)) 2 (some a_14)) 3 (some a_15))))))), (a_12, .inr (6, [.int i_2, .int i_3, .int i_4, .ref a_16])), (a_16, .inl (cy 2, 60, .inr (.inl f_0))), (a_13, .inr (6, [.int i_5, .int i_6, .int i_7, .ref a_17])), (a_17, .inl (cy 2, 60, .inr (.inl f_1))), (a_14, .inr (6, [.int i_8, .int i_9, .int i_10, .ref a_18])), (a_18, .inl (cy 2, 60, .inr (.inl f_2))), (a_15, .inr (6, [.int i_11, .int n52, .int i_13, .ref a_19])), (a_19, .inl (cy 2, 60, .inr (.inl n53)))] H) (hD : va_D A [(a_0, .inr (11, [.ref a_1, .ref a_2, .ref a_3, .ref a_4, .ref a_5, .ref a_6, .ref a_7, .ref a_8, .ref a_9, .ref a_10, .ref a_11])), (a_6, .inl (cy 6, 4, .inr (.inr (.inr (.inr (va_up (va_up (va_up (va_up (fun _ => none) 0 (some a_12)) 1 (some a_13)) 2 (some a_14)) 3 (some a_15))))))), (a_12, .inr (6, [.int i_2, .int i_3, .int i_4, .ref a_16])), (a_16, .inl (cy 2, 60, .inr (.inl f_0))), (a_13, .inr (6, [.int i_5, .int i_6, .int i_7, .ref a_17])), (a_17, .inl (cy 2, 60, .inr (.inl f_1))), (a_14, .inr (6, [.int i_8, .int i_9, .int i_10, .ref a_18])), (a_18, .inl (cy 2, 60, .inr (.inl f_2))), (a_15, .inr (6, [.int i_11, .int n52, .int i_13, .ref a_19])), (a_19, .inl (cy 2, 60, .inr (.inl n53)))]) hS
              have w54 := hw
              refine lv_iconst (v := 0) hx hb dX11_write_56 (by decide) ?_
              subst hAe
              rw [hQ]
              exact W.iret (v := 0) hx hb hr (fun t ht hW => ⟨⟨0, (i_3, f_0, i_6, f_1, i_9, f_2, n52, n53), rfl, ⟨h1, h4, h7, w54, (mm_wk mm_k0 (by decide))⟩, by rw [ht]; exact hP, hK.warm hW, hD⟩, hS.F ht⟩) hS.2.2 dX11_write_57
            · refine lv_bipush (v := (-7)) hx hb dX11_write_42 (by decide) ?_
              subst hAe
              rw [hQ]
              exact W.iret (v := (-7)) hx hb hr (fun t ht hW => ⟨⟨(-7), (i_3, f_0, i_6, f_1, i_9, f_2, i_12, f_3), rfl, ⟨h1, h4, h7, h10, (mm_wk mm_km7 (by decide))⟩, by rw [ht]; exact hP, hK.warm hW, hD⟩, hS.F ht⟩) hS.2.2 dX11_write_44
        · have q55 := mm_eqI (lo := 0) (hi := 0) c44 h9 mm_k0 (by decide)
          refine lv_bipush (v := (-6)) hx hb dX11_write_22 (by decide) ?_
          subst hAe
          rw [hQ]
          exact W.iret (v := (-6)) hx hb hr (fun t ht hW => ⟨⟨(-6), (i_3, f_0, i_6, f_1, i_9, f_2, i_12, f_3), rfl, ⟨h1, h4, h7, h10, (mm_wk mm_km6 (by decide))⟩, by rw [ht]; exact hP, hK.warm hW, hD⟩, hS.F ht⟩) hS.2.2 dX11_write_24
    · exact mm_eqN c6.symm mm_k0 mm_k1 (by decide)

set_option maxHeartbeats 4000000 in
set_option maxRecDepth 100000 in
theorem K541_X6_reaches (l : Launch) (G : va_G) (cy : Nat → ClassId) (sz : Nat) (a_0 : Nat) (i_0 : Int32) (i_1 : Int32) (i_2 : Int32) (i_3 : Int32) (i_4 : Int32) (a_1 : Nat) (h0 : mm_rg i_4 0 60)  : mm_CI l yX6_reaches (mm_ws yX6_reaches cX6_reaches 3 (some .boolean)) ({ frames := 0, cells := 0, slots := 0, locals := 0 } : Room) G cy sz [(a_0, .inr (6, [.int i_2, .int i_3, .int i_4, .ref a_1]))] [.ref a_0, .int i_0, .int i_1] (fun u : Unit => [(a_0, .inr (6, [.int i_2, .int i_3, .int i_4, .ref a_1]))]) (fun (r : Int32) (u : Unit) => ((0 = r ∧ mm_rg i_0 (-2147483648) 2147483647) ∨ (1 = r ∧ mm_rg i_0 0 60 ∧ mm_rg i_1 0 60 ∧ mm_rch i_0 i_1 i_4))) 0 0 := by
  refine mm_begin (lv := [(0, .ref a_0), (1, .int i_0), (2, .int i_1)]) (by decide) (Nat.le_of_ble_eq_true rfl) rfl ?_
  intro p e s m below meth c A ls R args Q H locs hRe hQ hAe hx hb hr hlocks hml hown hnm hts hsz hA hS hP hK hD hZ hl
  have hRf : R.frames = 0 := by rw [hRe]
  have hRl : R.locals = 0 := by rw [hRe]
  have hRc : R.cells = 0 := by rw [hRe]
  have hRs : R.slots = 0 := by rw [hRe]
  refine lv_iload_n hx hb dX6_reaches_0 rfl (lv_at hl 1 rfl) ?_
  refine lv_if_lt (tgt := 30) hx hb dX6_reaches_1 (by decide) (fun c1 => ?_) (fun c1 => ?_)
  · have q2 := mm_ltL (h := (-1)) (mm_lt c1) (mm_top i_0) mm_k0 (by decide)
    refine lv_iconst (v := 0) hx hb dX6_reaches_30 (by decide) ?_
    subst hAe
    rw [hQ]
    exact W.zret (v := 0) hx hb hr rfl (fun t ht hW => ⟨⟨0, (), rfl, (Or.inl ⟨rfl, (mm_wk q2 (by decide))⟩), by rw [ht]; exact hP, hK.warm hW, hD⟩, hS.F ht⟩) hS.2.2 dX6_reaches_31
  · have q3 := mm_leR (mm_nlt c1) mm_k0 (mm_top i_0)
    refine lv_iload_n hx hb dX6_reaches_4 rfl (lv_at hl 2 rfl) ?_
    refine lv_if_lt (tgt := 30) hx hb dX6_reaches_5 (by decide) (fun c4 => ?_) (fun c4 => ?_)
    · have q5 := mm_ltL (h := (-1)) (mm_lt c4) (mm_top i_1) mm_k0 (by decide)
      refine lv_iconst (v := 0) hx hb dX6_reaches_30 (by decide) ?_
      subst hAe
      rw [hQ]
      exact W.zret (v := 0) hx hb hr rfl (fun t ht hW => ⟨⟨0, (), rfl, (Or.inl ⟨rfl, (mm_wk q3 (by decide))⟩), by rw [ht]; exact hP, hK.warm hW, hD⟩, hS.F ht⟩) hS.2.2 dX6_reaches_31
    · have q6 := mm_leR (mm_nlt c4) mm_k0 (mm_top i_1)
      refine lv_iload_n hx hb dX6_reaches_8 rfl (lv_at hl 2 rfl) ?_
      refine lv_aload_n hx hb dX6_reaches_9 rfl (lv_at hl 0 rfl) ?_
      refine va_get (D := G) (ci := 6) (v := .int i_4) (C := RX6) (T := TX6) (N := 4) hx hb hts (mm_i inlX6) hown hK.1 hP 0 rfl rfl 2 (by decide) (mm_h hts mm_w1684) (fun _ h9 => h9) rfl dX6_reaches_10 ?_
      refine lv_icmp_gt (tgt := 30) hx hb dX6_reaches_13 (by decide) (fun c7 => ?_) (fun c7 => ?_)
      · have q8 := mm_ltR (lo := 1) (mm_lt c7) h0 q6 (by decide)
        refine lv_iconst (v := 0) hx hb dX6_reaches_30 (by decide) ?_
        subst hAe
        rw [hQ]
        exact W.zret (v := 0) hx hb hr rfl (fun t ht hW => ⟨⟨0, (), rfl, (Or.inl ⟨rfl, (mm_wk q3 (by decide))⟩), by rw [ht]; exact hP, hK.warm hW, hD⟩, hS.F ht⟩) hS.2.2 dX6_reaches_31
      · have q9 := mm_leL (mm_nlt c7) q6 h0
        refine lv_iload_n hx hb dX6_reaches_16 rfl (lv_at hl 1 rfl) ?_
        refine lv_aload_n hx hb dX6_reaches_17 rfl (lv_at hl 0 rfl) ?_
        refine va_get (D := G) (ci := 6) (v := .int i_4) (C := RX6) (T := TX6) (N := 4) hx hb hts (mm_i inlX6) hown hK.1 hP 0 rfl rfl 2 (by decide) (mm_h hts mm_w1684) (fun _ h9 => h9) rfl dX6_reaches_18 ?_
        refine lv_iload_n hx hb dX6_reaches_21 rfl (lv_at hl 2 rfl) ?_
        refine lv_isub hx hb dX6_reaches_22 ?_
        refine lv_topi (fun v10 ev10 => ?_)
        have rv10 : mm_rg v10 (-60) 60 := mm_sub ev10 h0 q9 (by decide) (by decide)
        have tv10 := mm_subE ev10 h0 q9 (by decide)
        have q11 : mm_rg v10 0 60 := mm_sub0 ev10 (mm_nlt c7) h0 q9 (by decide)
        refine lv_icmp_gt (tgt := 30) hx hb dX6_reaches_23 (by decide) (fun c12 => ?_) (fun c12 => ?_)
        · have q13 := mm_ltR (lo := 1) (mm_lt c12) q11 q3 (by decide)
          refine lv_iconst (v := 0) hx hb dX6_reaches_30 (by decide) ?_
          subst hAe
          rw [hQ]
          exact W.zret (v := 0) hx hb hr rfl (fun t ht hW => ⟨⟨0, (), rfl, (Or.inl ⟨rfl, (mm_wk q13 (by decide))⟩), by rw [ht]; exact hP, hK.warm hW, hD⟩, hS.F ht⟩) hS.2.2 dX6_reaches_31
        · have q14 := mm_leL (mm_nlt c12) q3 q11
          refine lv_iconst (v := 1) hx hb dX6_reaches_26 (by decide) ?_
          refine lv_goto (tgt := 31) hx hb dX6_reaches_27 (by decide) ?_
          subst hAe
          rw [hQ]
          exact W.zret (v := 1) hx hb hr rfl (fun t ht hW => ⟨⟨1, (), rfl, (Or.inr ⟨rfl, q14, q9, (mm_rch_of (mm_nlt c12) tv10)⟩), by rw [ht]; exact hP, hK.warm hW, hD⟩, hS.F ht⟩) hS.2.2 dX6_reaches_31

set_option maxHeartbeats 4000000 in
set_option maxRecDepth 100000 in
theorem K542_X6_reaches (l : Launch) (G : va_G) (cy : Nat → ClassId) (sz : Nat) (a_0 : Nat) (i_0 : Int32) (i_1 : Int32) (i_2 : Int32) (i_3 : Int32) (i_4 : Int32) (a_1 : Nat) (h0 : mm_rg i_1 0 60) (h1 : mm_rg i_4 0 60)  : mm_CI l yX6_reaches (mm_ws yX6_reaches cX6_reaches 3 (some .boolean)) ({ frames := 0, cells := 0, slots := 0, locals := 0 } : Room) G cy sz [(a_0, .inr (6, [.int i_2, .int i_3, .int i_4, .ref a_1]))] [.ref a_0, .int i_0, .int i_1] (fun u : Unit => [(a_0, .inr (6, [.int i_2, .int i_3, .int i_4, .ref a_1]))]) (fun (r : Int32) (u : Unit) => ((0 = r ∧ mm_rg i_0 (-2147483648) 2147483647) ∨ (1 = r ∧ mm_rg i_0 0 60 ∧ mm_rch i_0 i_1 i_4))) 0 0 := by
  refine mm_begin (lv := [(0, .ref a_0), (1, .int i_0), (2, .int i_1)]) (by decide) (Nat.le_of_ble_eq_true rfl) rfl ?_
  intro p e s m below meth c A ls R args Q H locs hRe hQ hAe hx hb hr hlocks hml hown hnm hts hsz hA hS hP hK hD hZ hl
  have hRf : R.frames = 0 := by rw [hRe]
  have hRl : R.locals = 0 := by rw [hRe]
  have hRc : R.cells = 0 := by rw [hRe]
  have hRs : R.slots = 0 := by rw [hRe]
  refine lv_iload_n hx hb dX6_reaches_0 rfl (lv_at hl 1 rfl) ?_
  refine lv_if_lt (tgt := 30) hx hb dX6_reaches_1 (by decide) (fun c1 => ?_) (fun c1 => ?_)
  · have q2 := mm_ltL (h := (-1)) (mm_lt c1) (mm_top i_0) mm_k0 (by decide)
    refine lv_iconst (v := 0) hx hb dX6_reaches_30 (by decide) ?_
    subst hAe
    rw [hQ]
    exact W.zret (v := 0) hx hb hr rfl (fun t ht hW => ⟨⟨0, (), rfl, (Or.inl ⟨rfl, (mm_wk q2 (by decide))⟩), by rw [ht]; exact hP, hK.warm hW, hD⟩, hS.F ht⟩) hS.2.2 dX6_reaches_31
  · have q3 := mm_leR (mm_nlt c1) mm_k0 (mm_top i_0)
    refine lv_iload_n hx hb dX6_reaches_4 rfl (lv_at hl 2 rfl) ?_
    refine lv_if_lt (tgt := 30) hx hb dX6_reaches_5 (by decide) (fun c4 => ?_) (fun c4 => ?_)
    · have q5 := mm_ltL (h := (-1)) (mm_lt c4) h0 mm_k0 (by decide)
      exact mm_no q5 (by decide)
    · refine lv_iload_n hx hb dX6_reaches_8 rfl (lv_at hl 2 rfl) ?_
      refine lv_aload_n hx hb dX6_reaches_9 rfl (lv_at hl 0 rfl) ?_
      refine va_get (D := G) (ci := 6) (v := .int i_4) (C := RX6) (T := TX6) (N := 4) hx hb hts (mm_i inlX6) hown hK.1 hP 0 rfl rfl 2 (by decide) (mm_h hts mm_w1684) (fun _ h9 => h9) rfl dX6_reaches_10 ?_
      refine lv_icmp_gt (tgt := 30) hx hb dX6_reaches_13 (by decide) (fun c6 => ?_) (fun c6 => ?_)
      · have q7 := mm_ltL (h := 59) (mm_lt c6) h1 h0 (by decide)
        have q8 := mm_ltR (lo := 1) (mm_lt c6) h1 h0 (by decide)
        refine lv_iconst (v := 0) hx hb dX6_reaches_30 (by decide) ?_
        subst hAe
        rw [hQ]
        exact W.zret (v := 0) hx hb hr rfl (fun t ht hW => ⟨⟨0, (), rfl, (Or.inl ⟨rfl, (mm_wk q3 (by decide))⟩), by rw [ht]; exact hP, hK.warm hW, hD⟩, hS.F ht⟩) hS.2.2 dX6_reaches_31
      · refine lv_iload_n hx hb dX6_reaches_16 rfl (lv_at hl 1 rfl) ?_
        refine lv_aload_n hx hb dX6_reaches_17 rfl (lv_at hl 0 rfl) ?_
        refine va_get (D := G) (ci := 6) (v := .int i_4) (C := RX6) (T := TX6) (N := 4) hx hb hts (mm_i inlX6) hown hK.1 hP 0 rfl rfl 2 (by decide) (mm_h hts mm_w1684) (fun _ h9 => h9) rfl dX6_reaches_18 ?_
        refine lv_iload_n hx hb dX6_reaches_21 rfl (lv_at hl 2 rfl) ?_
        refine lv_isub hx hb dX6_reaches_22 ?_
        refine lv_topi (fun v9 ev9 => ?_)
        have rv9 : mm_rg v9 (-60) 60 := mm_sub ev9 h1 h0 (by decide) (by decide)
        have tv9 := mm_subE ev9 h1 h0 (by decide)
        have q10 : mm_rg v9 0 60 := mm_sub0 ev9 (mm_nlt c6) h1 h0 (by decide)
        refine lv_icmp_gt (tgt := 30) hx hb dX6_reaches_23 (by decide) (fun c11 => ?_) (fun c11 => ?_)
        · have q12 := mm_ltR (lo := 1) (mm_lt c11) q10 q3 (by decide)
          refine lv_iconst (v := 0) hx hb dX6_reaches_30 (by decide) ?_
          subst hAe
          rw [hQ]
          exact W.zret (v := 0) hx hb hr rfl (fun t ht hW => ⟨⟨0, (), rfl, (Or.inl ⟨rfl, (mm_wk q12 (by decide))⟩), by rw [ht]; exact hP, hK.warm hW, hD⟩, hS.F ht⟩) hS.2.2 dX6_reaches_31
        · have q13 := mm_leL (mm_nlt c11) q3 q10
          refine lv_iconst (v := 1) hx hb dX6_reaches_26 (by decide) ?_
          refine lv_goto (tgt := 31) hx hb dX6_reaches_27 (by decide) ?_
          subst hAe
          rw [hQ]
          exact W.zret (v := 1) hx hb hr rfl (fun t ht hW => ⟨⟨1, (), rfl, (Or.inr ⟨rfl, q13, (mm_rch_of (mm_nlt c11) tv9)⟩), by rw [ht]; exact hP, hK.warm hW, hD⟩, hS.F ht⟩) hS.2.2 dX6_reaches_31

set_option maxHeartbeats 4000000 in
set_option maxRecDepth 100000 in
theorem K543_X11_paste (l : Launch) (G : va_G) (cy : Nat → ClassId) (sz : Nat) (a_0 : Nat) (i_0 : Int32) (i_1 : Int32) (i_2 : Int32) (i_3 : Int32) (i_4 : Int32) (a_1 : Nat) (a_2 : Nat) (a_3 : Nat) (a_4 : Nat) (a_5 : Nat) (a_6 : Nat) (a_7 : Nat) (a_8 : Nat) (a_9 : Nat) (a_10 : Nat) (a_11 : Nat) (a_12 : Nat) (a_13 : Nat) (a_14 : Nat) (a_15 : Nat) (i_5 : Int32) (i_6 : Int32) (i_7 : Int32) (a_16 : Nat) (f_0 : Nat → Int64) (i_8 : Int32) (i_9 : Int32) (i_10 : Int32) (a_17 : Nat) (f_1 : Nat → Int64) (i_11 : Int32) (i_12 : Int32) (i_13 : Int32) (a_18 : Nat) (f_2 : Nat → Int64) (i_14 : Int32) (i_15 : Int32) (i_16 : Int32) (a_19 : Nat) (f_3 : Nat → Int64) (h0 : mm_rg i_5 0 1) (h1 : mm_rg i_6 0 3) (h2 : mm_rg i_7 0 60) (h3 : mm_rg i_8 0 1) (h4 : mm_rg i_9 0 3) (h5 : mm_rg i_10 0 60) (h6 : mm_rg i_11 0 1) (h7 : mm_rg i_12 0 3) (h8 : mm_rg i_13 0 60) (h9 : mm_rg i_14 0 1) (h10 : mm_rg i_15 0 3) (h11 : mm_rg i_16 0 60)  : mm_CI l yX11_paste (mm_ws yX11_paste cX11_paste 6 (some .int)) ({ frames := 1, cells := 0, slots := 0, locals := 64 } : Room) G cy sz [(a_0, .inr (11, [.ref a_1, .ref a_2, .ref a_3, .ref a_4, .ref a_5, .ref a_6, .ref a_7, .ref a_8, .ref a_9, .ref a_10, .ref a_11])), (a_6, .inl (cy 6, 4, .inr (.inr (.inr (.inr (va_up (va_up (va_up (va_up (fun _ => none) 0 (some a_12)) 1 (some a_13)) 2 (some a_14)) 3 (some a_15))))))), (a_12, .inr (6, [.int i_5, .int i_6, .int i_7, .ref a_16])), (a_16, .inl (cy 2, 60, .inr (.inl f_0))), (a_13, .inr (6, [.int i_8, .int i_9, .int i_10, .ref a_17])), (a_17, .inl (cy 2, 60, .inr (.inl f_1))), (a_14, .inr (6, [.int i_11, .int i_12, .int i_13, .ref a_18])), (a_18, .inl (cy 2, 60, .inr (.inl f_2))), (a_15, .inr (6, [.int i_14, .int i_15, .int i_16, .ref a_19])), (a_19, .inl (cy 2, 60, .inr (.inl f_3)))] [.ref a_0, .int i_0, .int i_1, .int i_2, .int i_3, .int i_4] (fun u : (Nat → Int64) × (Nat → Int64) × (Nat → Int64) × (Nat → Int64) => [(a_0, .inr (11, [.ref a_1, .ref a_2, .ref a_3, .ref a_4, .ref a_5, .ref a_6, .ref a_7, .ref a_8, .ref a_9, .ref a_10, .ref a_11])), (a_6, .inl (cy 6, 4, .inr (.inr (.inr (.inr (va_up (va_up (va_up (va_up (fun _ => none) 0 (some a_12)) 1 (some a_13)) 2 (some a_14)) 3 (some a_15))))))), (a_12, .inr (6, [.int i_5, .int i_6, .int i_7, .ref a_16])), (a_16, .inl (cy 2, 60, .inr (.inl u.1))), (a_13, .inr (6, [.int i_8, .int i_9, .int i_10, .ref a_17])), (a_17, .inl (cy 2, 60, .inr (.inl u.2.1))), (a_14, .inr (6, [.int i_11, .int i_12, .int i_13, .ref a_18])), (a_18, .inl (cy 2, 60, .inr (.inl u.2.2.1))), (a_15, .inr (6, [.int i_14, .int i_15, .int i_16, .ref a_19])), (a_19, .inl (cy 2, 60, .inr (.inl u.2.2.2)))]) (fun (r : Int32) (u : (Nat → Int64) × (Nat → Int64) × (Nat → Int64) × (Nat → Int64)) => mm_rg r (-8) 0) 0 0 := by
  refine mm_begin (lv := [(0, .ref a_0), (1, .int i_0), (2, .int i_1), (3, .int i_2), (4, .int i_3), (5, .int i_4)]) (by decide) (Nat.le_of_ble_eq_true rfl) rfl ?_
  intro p e s m below meth c A ls R args Q H locs hRe hQ hAe hx hb hr hlocks hml hown hnm hts hsz hA hS hP hK hD hZ hl
  have hRf : R.frames = 1 := by rw [hRe]
  have hRl : R.locals = 64 := by rw [hRe]
  have hRc : R.cells = 0 := by rw [hRe]
  have hRs : R.slots = 0 := by rw [hRe]
  refine lv_iload_n hx hb dX11_paste_0 rfl (lv_at hl 1 rfl) ?_
  refine mm_finir (va_runS (As := [.int i_0]) (rest := []) ⟨hx, hb, hml, hown, hts⟩ (K437_X11_isSlot l G cy H.size i_0 ) (va_cwS 1 hts (mm_gS mm_w1232 mm_w1233 mm_w2 mm_w1234) rfl rfl rfl hs_X11_isSlot ⟨by rw [hRf]; exact Nat.le_of_ble_eq_true rfl, by rw [hRl]; exact Nat.le_of_ble_eq_true rfl⟩) (mm_preS hK hZ hS hA hP hD [] rfl rfl) rfl rfl hl.1 rfl (lv_room (Nat.le_of_ble_eq_true rfl)) dX11_paste_1 ⟨by rw [hRc]; exact Nat.le_of_ble_eq_true rfl, by rw [hRs]; exact Nat.le_of_ble_eq_true rfl⟩) hP hD hS hA [] rfl (fun _ => rfl) ?_
  clear hP hD hS
  clear H locs
  intro v1 _u H locs hw hP hD hS
  rcases hw with ⟨rfl, w2⟩ | ⟨rfl, w3⟩
  · refine lv_if_eq (tgt := 14) hx hb dX11_paste_4 (by decide) (fun c4 => ?_) (fun c4 => ?_)
    · refine lv_bipush (v := (-2)) hx hb dX11_paste_14 (by decide) ?_
      subst hAe
      rw [hQ]
      exact W.iret (v := (-2)) hx hb hr (fun t ht hW => ⟨⟨(-2), (f_0, f_1, f_2, f_3), rfl, (mm_wk mm_km2 (by decide)), by rw [ht]; exact hP, hK.warm hW, hD⟩, hS.F ht⟩) hS.2.2 dX11_paste_16
    · have q5 := mm_neL (lo := 1) (mm_ne c4) mm_k0 mm_k0 (by decide) (by decide)
      exact mm_no q5 (by decide)
  · refine lv_if_eq (tgt := 14) hx hb dX11_paste_4 (by decide) (fun c6 => ?_) (fun c6 => ?_)
    · exact mm_eqN c6.symm mm_k0 mm_k1 (by decide)
    · refine lv_iload_n hx hb dX11_paste_7 rfl (lv_at hl 3 rfl) ?_
      refine mm_finir (va_runS (As := [.int i_2]) (rest := []) ⟨hx, hb, hml, hown, hts⟩ (K437_X11_isSlot l G cy H.size i_2 ) (va_cwS 1 hts (mm_gS mm_w1232 mm_w1233 mm_w2 mm_w1234) rfl rfl rfl hs_X11_isSlot ⟨by rw [hRf]; exact Nat.le_of_ble_eq_true rfl, by rw [hRl]; exact Nat.le_of_ble_eq_true rfl⟩) (mm_preS hK hZ hS hA hP hD [] rfl rfl) rfl rfl hl.1 rfl (lv_room (Nat.le_of_ble_eq_true rfl)) dX11_paste_8 ⟨by rw [hRc]; exact Nat.le_of_ble_eq_true rfl, by rw [hRs]; exact Nat.le_of_ble_eq_true rfl⟩) hP hD hS hA [] rfl (fun _ => rfl) ?_
      clear hP hD hS
      clear H locs
      intro v7 _u H locs hw hP hD hS
      rcases hw with ⟨rfl, w8⟩ | ⟨rfl, w9⟩
      · refine lv_if_ne (tgt := 17) hx hb dX11_paste_11 (by decide) (fun c10 => ?_) (fun c10 => ?_)
        · have q11 := mm_neL (lo := 1) (mm_ne c10) mm_k0 mm_k0 (by decide) (by decide)
          exact mm_no q11 (by decide)
        · refine lv_bipush (v := (-2)) hx hb dX11_paste_14 (by decide) ?_
          subst hAe
          rw [hQ]
          exact W.iret (v := (-2)) hx hb hr (fun t ht hW => ⟨⟨(-2), (f_0, f_1, f_2, f_3), rfl, (mm_wk mm_km2 (by decide)), by rw [ht]; exact hP, hK.warm hW, hD⟩, hS.F ht⟩) hS.2.2 dX11_paste_16
      · refine lv_if_ne (tgt := 17) hx hb dX11_paste_11 (by decide) (fun c12 => ?_) (fun c12 => ?_)
        · refine lv_aload_n hx hb dX11_paste_17 rfl (lv_at hl 0 rfl) ?_
          refine va_get (D := G) (ci := 11) (v := .ref a_6) (C := RX11) (T := TX11) (N := 11) hx hb hts (mm_i inlX11) hown hK.1 hP 0 rfl rfl 5 (by decide) (mm_h hts mm_w32) (fun _ h9 => h9) rfl dX11_paste_18 ?_
          refine lv_iload_n hx hb dX11_paste_21 rfl (lv_at hl 1 rfl) ?_
          refine va_aldq hx hb hK.1 hP 1 6 rfl rfl (mm_in w3 (by decide)) dX11_paste_22 ?_
          have c13 := mm_cases4 w3
          rcases c13 with rfl | rfl | rfl | rfl
          · refine W.eq (g2 := F0 m 23 ls [.ref a_12]) rfl ?_
            refine va_get (D := G) (ci := 6) (v := .int i_5) (C := RX6) (T := TX6) (N := 4) hx hb hts (mm_i inlX6) hown hK.1 hP 2 rfl rfl 0 (by decide) (mm_h hts mm_w1239) (fun _ h9 => h9) rfl dX11_paste_23 ?_
            refine lv_if_eq (tgt := 41) hx hb dX11_paste_26 (by decide) (fun c14 => ?_) (fun c14 => ?_)
            · have q15 := mm_eqI (lo := 0) (hi := 0) c14 h0 mm_k0 (by decide)
              refine lv_bipush (v := (-6)) hx hb dX11_paste_41 (by decide) ?_
              subst hAe
              rw [hQ]
              exact W.iret (v := (-6)) hx hb hr (fun t ht hW => ⟨⟨(-6), (f_0, f_1, f_2, f_3), rfl, (mm_wk mm_km6 (by decide)), by rw [ht]; exact hP, hK.warm hW, hD⟩, hS.F ht⟩) hS.2.2 dX11_paste_43
            · have q16 := mm_neL (lo := 1) (mm_ne c14) h0 mm_k0 (by decide) (by decide)
              refine lv_aload_n hx hb dX11_paste_29 rfl (lv_at hl 0 rfl) ?_
              refine va_get (D := G) (ci := 11) (v := .ref a_6) (C := RX11) (T := TX11) (N := 11) hx hb hts (mm_i inlX11) hown hK.1 hP 0 rfl rfl 5 (by decide) (mm_h hts mm_w32) (fun _ h9 => h9) rfl dX11_paste_30 ?_
              refine lv_iload_n hx hb dX11_paste_33 rfl (lv_at hl 3 rfl) ?_
              refine va_aldq hx hb hK.1 hP 1 6 rfl rfl (mm_in w9 (by decide)) dX11_paste_34 ?_
              have c17 := mm_cases4 w9
              rcases c17 with rfl | rfl | rfl | rfl
              · refine W.eq (g2 := F0 m 35 ls [.ref a_12]) rfl ?_
                refine va_get (D := G) (ci := 6) (v := .int i_5) (C := RX6) (T := TX6) (N := 4) hx hb hts (mm_i inlX6) hown hK.1 hP 2 rfl rfl 0 (by decide) (mm_h hts mm_w1239) (fun _ h9 => h9) rfl dX11_paste_35 ?_
                refine lv_if_ne (tgt := 44) hx hb dX11_paste_38 (by decide) (fun c18 => ?_) (fun c18 => ?_)
                · refine lv_aload_n hx hb dX11_paste_44 rfl (lv_at hl 0 rfl) ?_
                  refine va_get (D := G) (ci := 11) (v := .ref a_6) (C := RX11) (T := TX11) (N := 11) hx hb hts (mm_i inlX11) hown hK.1 hP 0 rfl rfl 5 (by decide) (mm_h hts mm_w32) (fun _ h9 => h9) rfl dX11_paste_45 ?_
                  refine lv_iload_n hx hb dX11_paste_48 rfl (lv_at hl 1 rfl) ?_
                  refine va_aldq hx hb hK.1 hP 1 6 rfl rfl (mm_in mm_k0 (by decide)) dX11_paste_49 ?_
                  refine W.eq (g2 := F0 m 50 ls [.ref a_12]) rfl ?_
                  refine va_get (D := G) (ci := 6) (v := .int i_6) (C := RX6) (T := TX6) (N := 4) hx hb hts (mm_i inlX6) hown hK.1 hP 2 rfl rfl 1 (by decide) (mm_h hts mm_w1710) (fun _ h9 => h9) rfl dX11_paste_50 ?_
                  refine lv_aload_n hx hb dX11_paste_53 rfl (lv_at hl 0 rfl) ?_
                  refine va_get (D := G) (ci := 11) (v := .ref a_6) (C := RX11) (T := TX11) (N := 11) hx hb hts (mm_i inlX11) hown hK.1 hP 0 rfl rfl 5 (by decide) (mm_h hts mm_w32) (fun _ h9 => h9) rfl dX11_paste_54 ?_
                  refine lv_iload_n hx hb dX11_paste_57 rfl (lv_at hl 3 rfl) ?_
                  refine va_aldq hx hb hK.1 hP 1 6 rfl rfl (mm_in mm_k0 (by decide)) dX11_paste_58 ?_
                  refine W.eq (g2 := F0 m 59 ls [.ref a_12, .int i_6]) rfl ?_
                  refine va_get (D := G) (ci := 6) (v := .int i_6) (C := RX6) (T := TX6) (N := 4) hx hb hts (mm_i inlX6) hown hK.1 hP 2 rfl rfl 1 (by decide) (mm_h hts mm_w1710) (fun _ h9 => h9) rfl dX11_paste_59 ?_
                  refine lv_icmp_eq (tgt := 68) hx hb dX11_paste_62 (by decide) (fun c19 => ?_) (fun c19 => ?_)
                  · refine lv_aload_n hx hb dX11_paste_68 rfl (lv_at hl 0 rfl) ?_
                    refine va_get (D := G) (ci := 11) (v := .ref a_6) (C := RX11) (T := TX11) (N := 11) hx hb hts (mm_i inlX11) hown hK.1 hP 0 rfl rfl 5 (by decide) (mm_h hts mm_w32) (fun _ h9 => h9) rfl dX11_paste_69 ?_
                    refine lv_iload_n hx hb dX11_paste_72 rfl (lv_at hl 1 rfl) ?_
                    refine va_aldq hx hb hK.1 hP 1 6 rfl rfl (mm_in mm_k0 (by decide)) dX11_paste_73 ?_
                    refine W.eq (g2 := F0 m 74 ls [.ref a_12]) rfl ?_
                    refine lv_iload_n hx hb dX11_paste_74 rfl (lv_at hl 2 rfl) ?_
                    refine lv_iload hx hb dX11_paste_75 (lv_at hl 5 rfl) ?_
                    refine mm_finir (va_runV (As := [.int i_1, .int i_4]) (rest := []) ⟨hx, hb, hml, hown, hts⟩ (K541_X6_reaches l G cy H.size a_12 i_1 i_4 i_5 i_6 i_7 a_16 h2) (cwV 2 hts (mm_gV mm_w1713 mm_w1714 mm_w1715 mm_w34 mm_w1716) rfl rfl rfl hd_X6_reaches ⟨by rw [hRf]; exact Nat.le_of_ble_eq_true rfl, by rw [hRl]; exact Nat.le_of_ble_eq_true rfl⟩) (mm_preV hK hZ hS hA hP hD [2] rfl rfl 2 rfl rfl rfl) rfl rfl hl.1 rfl (lv_room (Nat.le_of_ble_eq_true rfl)) dX11_paste_77 ⟨by rw [hRc]; exact Nat.le_of_ble_eq_true rfl, by rw [hRs]; exact Nat.le_of_ble_eq_true rfl⟩) hP hD hS hA [2] rfl (fun _ => rfl) ?_
                    clear hP hD hS
                    clear H locs
                    intro v20 _u H locs hw hP hD hS
                    rcases hw with ⟨rfl, w21⟩ | ⟨rfl, w22, w23, w24⟩
                    · refine lv_if_eq (tgt := 99) hx hb dX11_paste_80 (by decide) (fun c25 => ?_) (fun c25 => ?_)
                      · refine lv_bipush (v := (-7)) hx hb dX11_paste_99 (by decide) ?_
                        subst hAe
                        rw [hQ]
                        exact W.iret (v := (-7)) hx hb hr (fun t ht hW => ⟨⟨(-7), (f_0, f_1, f_2, f_3), rfl, (mm_wk mm_km7 (by decide)), by rw [ht]; exact hP, hK.warm hW, hD⟩, hS.F ht⟩) hS.2.2 dX11_paste_101
                      · have q26 := mm_neL (lo := 1) (mm_ne c25) mm_k0 mm_k0 (by decide) (by decide)
                        exact mm_no q26 (by decide)
                    · refine lv_if_eq (tgt := 99) hx hb dX11_paste_80 (by decide) (fun c27 => ?_) (fun c27 => ?_)
                      · exact mm_eqN c27.symm mm_k0 mm_k1 (by decide)
                      · refine lv_aload_n hx hb dX11_paste_83 rfl (lv_at hl 0 rfl) ?_
                        refine va_get (D := G) (ci := 11) (v := .ref a_6) (C := RX11) (T := TX11) (N := 11) hx hb hts (mm_i inlX11) hown hK.1 hP 0 rfl rfl 5 (by decide) (mm_h hts mm_w32) (fun _ h9 => h9) rfl dX11_paste_84 ?_
                        refine lv_iload_n hx hb dX11_paste_87 rfl (lv_at hl 3 rfl) ?_
                        refine va_aldq hx hb hK.1 hP 1 6 rfl rfl (mm_in mm_k0 (by decide)) dX11_paste_88 ?_
                        refine W.eq (g2 := F0 m 89 ls [.ref a_12]) rfl ?_
                        refine lv_iload hx hb dX11_paste_89 (lv_at hl 4 rfl) ?_
                        refine lv_iload hx hb dX11_paste_91 (lv_at hl 5 rfl) ?_
                        refine mm_finir (va_runV (As := [.int i_3, .int i_4]) (rest := []) ⟨hx, hb, hml, hown, hts⟩ (K542_X6_reaches l G cy H.size a_12 i_3 i_4 i_5 i_6 i_7 a_16 w23 h2) (cwV 2 hts (mm_gV mm_w1713 mm_w1714 mm_w1715 mm_w34 mm_w1716) rfl rfl rfl hd_X6_reaches ⟨by rw [hRf]; exact Nat.le_of_ble_eq_true rfl, by rw [hRl]; exact Nat.le_of_ble_eq_true rfl⟩) (mm_preV hK hZ hS hA hP hD [2] rfl rfl 2 rfl rfl rfl) rfl rfl hl.1 rfl (lv_room (Nat.le_of_ble_eq_true rfl)) dX11_paste_93 ⟨by rw [hRc]; exact Nat.le_of_ble_eq_true rfl, by rw [hRs]; exact Nat.le_of_ble_eq_true rfl⟩) hP hD hS hA [2] rfl (fun _ => rfl) ?_
                        clear hP hD hS
                        clear H locs
                        intro v28 _u H locs hw hP hD hS
                        rcases hw with ⟨rfl, w29⟩ | ⟨rfl, w30, w31⟩
                        · refine lv_if_ne (tgt := 102) hx hb dX11_paste_96 (by decide) (fun c32 => ?_) (fun c32 => ?_)
                          · have q33 := mm_neL (lo := 1) (mm_ne c32) mm_k0 mm_k0 (by decide) (by decide)
                            exact mm_no q33 (by decide)
                          · refine lv_bipush (v := (-7)) hx hb dX11_paste_99 (by decide) ?_
                            subst hAe
                            rw [hQ]
                            exact W.iret (v := (-7)) hx hb hr (fun t ht hW => ⟨⟨(-7), (f_0, f_1, f_2, f_3), rfl, (mm_wk mm_km7 (by decide)), by rw [ht]; exact hP, hK.warm hW, hD⟩, hS.F ht⟩) hS.2.2 dX11_paste_101
                        · refine lv_if_ne (tgt := 102) hx hb dX11_paste_96 (by decide) (fun c34 => ?_) (fun c34 => ?_)
                          · refine lv_aload_n hx hb dX11_paste_102 rfl (lv_at hl 0 rfl) ?_
                            refine va_get (D := G) (ci := 11) (v := .ref a_6) (C := RX11) (T := TX11) (N := 11) hx hb hts (mm_i inlX11) hown hK.1 hP 0 rfl rfl 5 (by decide) (mm_h hts mm_w32) (fun _ h9 => h9) rfl dX11_paste_103 ?_
                            refine lv_iload_n hx hb dX11_paste_106 rfl (lv_at hl 1 rfl) ?_
                            refine va_aldq hx hb hK.1 hP 1 6 rfl rfl (mm_in mm_k0 (by decide)) dX11_paste_107 ?_
                            refine W.eq (g2 := F0 m 108 ls [.ref a_12]) rfl ?_
                            refine va_get (D := G) (ci := 6) (v := .ref a_16) (C := RX6) (T := TX6) (N := 4) hx hb hts (mm_i inlX6) hown hK.1 hP 2 rfl rfl 3 (by decide) (mm_h hts mm_w1711) (fun _ h9 => h9) rfl dX11_paste_108 ?_
                            refine lv_iload_n hx hb dX11_paste_111 rfl (lv_at hl 2 rfl) ?_
                            refine lv_aload_n hx hb dX11_paste_112 rfl (lv_at hl 0 rfl) ?_
                            refine va_get (D := G) (ci := 11) (v := .ref a_6) (C := RX11) (T := TX11) (N := 11) hx hb hts (mm_i inlX11) hown hK.1 hP 0 rfl rfl 5 (by decide) (mm_h hts mm_w32) (fun _ h9 => h9) rfl dX11_paste_113 ?_
                            refine lv_iload_n hx hb dX11_paste_116 rfl (lv_at hl 3 rfl) ?_
                            refine va_aldq hx hb hK.1 hP 1 6 rfl rfl (mm_in mm_k0 (by decide)) dX11_paste_117 ?_
                            refine W.eq (g2 := F0 m 118 ls [.ref a_12, .int i_1, .ref a_16]) rfl ?_
                            refine va_get (D := G) (ci := 6) (v := .ref a_16) (C := RX6) (T := TX6) (N := 4) hx hb hts (mm_i inlX6) hown hK.1 hP 2 rfl rfl 3 (by decide) (mm_h hts mm_w1711) (fun _ h9 => h9) rfl dX11_paste_118 ?_
                            refine lv_iload hx hb dX11_paste_121 (lv_at hl 4 rfl) ?_
                            refine lv_iload hx hb dX11_paste_123 (lv_at hl 5 rfl) ?_
                            refine va_copyl hx hb (by rw [hml]; exact hl.1.symm) hown (mm_h hts mm_w1712) (mm_h hts mm_w388) (mm_h hts mm_w389) (mm_h hts mm_w390) hK.1 hP hD hS 3 3 2 2 rfl rfl rfl rfl rfl (mm_nn w22 (by decide)) (mm_nn w30 (by decide)) (mm_nn w23 (by decide)) (mm_cpR w24 w22 w23 h2 (by decide)) (mm_cpR w31 w30 w23 h2 (by decide)) (fun _ _ => rfl) (by rw [hRf]; exact Nat.le_of_ble_eq_true rfl) (by rw [hRl]; exact Nat.le_of_ble_eq_true rfl) dX11_paste_125 ?_
                            clear hP hD hS
                            clear H locs
                            obtain ⟨g35, eg35⟩ : ∃ z : Nat → Int64, z = va_cpy f_0 f_0 i_1.toNatClampNeg i_3.toNatClampNeg i_4.toNatClampNeg := ⟨_, rfl⟩
                            rw [← eg35]
                            intro H locs (hP : va_P G vwCl [(a_0, .inr (11, [.ref a_1, .ref a_2, .ref a_3, .ref a_4, .ref a_5, .ref a_6, .ref a_7, .ref a_8, .ref a_9, .ref a_10, .ref a_11])), (a_6, .inl (cy 6, 4, .inr (.inr (.inr (.inr (va_up (va_up (va_up (va_up (fun _ => none) 0 (some a_12)) 1 (some a_13)) 2 (some a_14)) 3 (some a_15))))))), (a_12, .inr (6, [.int i_5, .int i_6, .int i_7, .ref a_16])), (a_16, .inl (cy 2, 60, .inr (.inl g35))), (a_13, .inr (6, [.int i_8, .int i_9, .int i_10, .ref a_17])), (a_17, .inl (cy 2, 60, .inr (.inl f_1))), (a_14, .inr (6, [.int i_11, .int i_12, .int i_13, .ref a_18])), (a_18, .inl (cy 2, 60, .inr (.inl f_2))), (a_15, .inr (6, [.int i_14, .int i_15, .int i_16, .ref a_19])), (a_19, .inl (cy 2, 60, .inr (.inl f_3)))] H) (hD : va_D A [(a_0, .inr (11, [.ref a_1, .ref a_2, .ref a_3, .ref a_4, .ref a_5, .ref a_6, .ref a_7, .ref a_8, .ref a_9, .ref a_10, .ref a_11])), (a_6, .inl (cy 6, 4, .inr (.inr (.inr (.inr (va_up (va_up (va_up (va_up (fun _ => none) 0 (some a_12)) 1 (some a_13)) 2 (some a_14)) 3 (some a_15))))))), (a_12, .inr (6, [.int i_5, .int i_6, .int i_7, .ref a_16])), (a_16, .inl (cy 2, 60, .inr (.inl g35))), (a_13, .inr (6, [.int i_8, .int i_9, .int i_10, .ref a_17])), (a_17, .inl (cy 2, 60, .inr (.inl f_1))), (a_14, .inr (6, [.int i_11, .int i_12, .int i_13, .ref a_18])), (a_18, .inl (cy 2, 60, .inr (.inl f_2))), (a_15, .inr (6, [.int i_14, .int i_15, .int i_16, .ref a_19])), (a_19, .inl (cy 2, 60, .inr (.inl f_3)))]) hS
                            refine lv_iconst (v := 0) hx hb dX11_paste_128 (by decide) ?_
                            subst hAe
                            rw [hQ]
                            exact W.iret (v := 0) hx hb hr (fun t ht hW => ⟨⟨0, (g35, f_1, f_2, f_3), rfl, (mm_wk mm_k0 (by decide)), by rw [ht]; exact hP, hK.warm hW, hD⟩, hS.F ht⟩) hS.2.2 dX11_paste_129
                          · exact mm_eqN c34.symm mm_k0 mm_k1 (by decide)
                  · refine lv_bipush (v := (-8)) hx hb dX11_paste_65 (by decide) ?_
                    subst hAe
                    rw [hQ]
                    exact W.iret (v := (-8)) hx hb hr (fun t ht hW => ⟨⟨(-8), (f_0, f_1, f_2, f_3), rfl, (mm_wk mm_km8 (by decide)), by rw [ht]; exact hP, hK.warm hW, hD⟩, hS.F ht⟩) hS.2.2 dX11_paste_67
                · exact mm_eqN c18.symm mm_k0 q16 (by decide)
              · refine W.eq (g2 := F0 m 35 ls [.ref a_13]) rfl ?_
                refine va_get (D := G) (ci := 6) (v := .int i_8) (C := RX6) (T := TX6) (N := 4) hx hb hts (mm_i inlX6) hown hK.1 hP 4 rfl rfl 0 (by decide) (mm_h hts mm_w1239) (fun _ h9 => h9) rfl dX11_paste_35 ?_
                refine lv_if_ne (tgt := 44) hx hb dX11_paste_38 (by decide) (fun c36 => ?_) (fun c36 => ?_)
                · have q37 := mm_neL (lo := 1) (mm_ne c36) h3 mm_k0 (by decide) (by decide)
                  refine lv_aload_n hx hb dX11_paste_44 rfl (lv_at hl 0 rfl) ?_
                  refine va_get (D := G) (ci := 11) (v := .ref a_6) (C := RX11) (T := TX11) (N := 11) hx hb hts (mm_i inlX11) hown hK.1 hP 0 rfl rfl 5 (by decide) (mm_h hts mm_w32) (fun _ h9 => h9) rfl dX11_paste_45 ?_
                  refine lv_iload_n hx hb dX11_paste_48 rfl (lv_at hl 1 rfl) ?_
                  refine va_aldq hx hb hK.1 hP 1 6 rfl rfl (mm_in mm_k0 (by decide)) dX11_paste_49 ?_
                  refine W.eq (g2 := F0 m 50 ls [.ref a_12]) rfl ?_
                  refine va_get (D := G) (ci := 6) (v := .int i_6) (C := RX6) (T := TX6) (N := 4) hx hb hts (mm_i inlX6) hown hK.1 hP 2 rfl rfl 1 (by decide) (mm_h hts mm_w1710) (fun _ h9 => h9) rfl dX11_paste_50 ?_
                  refine lv_aload_n hx hb dX11_paste_53 rfl (lv_at hl 0 rfl) ?_
                  refine va_get (D := G) (ci := 11) (v := .ref a_6) (C := RX11) (T := TX11) (N := 11) hx hb hts (mm_i inlX11) hown hK.1 hP 0 rfl rfl 5 (by decide) (mm_h hts mm_w32) (fun _ h9 => h9) rfl dX11_paste_54 ?_
                  refine lv_iload_n hx hb dX11_paste_57 rfl (lv_at hl 3 rfl) ?_
                  refine va_aldq hx hb hK.1 hP 1 6 rfl rfl (mm_in mm_k1 (by decide)) dX11_paste_58 ?_
                  refine W.eq (g2 := F0 m 59 ls [.ref a_13, .int i_6]) rfl ?_
                  refine va_get (D := G) (ci := 6) (v := .int i_9) (C := RX6) (T := TX6) (N := 4) hx hb hts (mm_i inlX6) hown hK.1 hP 4 rfl rfl 1 (by decide) (mm_h hts mm_w1710) (fun _ h9 => h9) rfl dX11_paste_59 ?_
                  refine lv_icmp_eq (tgt := 68) hx hb dX11_paste_62 (by decide) (fun c38 => ?_) (fun c38 => ?_)
                  · refine lv_aload_n hx hb dX11_paste_68 rfl (lv_at hl 0 rfl) ?_
                    refine va_get (D := G) (ci := 11) (v := .ref a_6) (C := RX11) (T := TX11) (N := 11) hx hb hts (mm_i inlX11) hown hK.1 hP 0 rfl rfl 5 (by decide) (mm_h hts mm_w32) (fun _ h9 => h9) rfl dX11_paste_69 ?_
                    refine lv_iload_n hx hb dX11_paste_72 rfl (lv_at hl 1 rfl) ?_
                    refine va_aldq hx hb hK.1 hP 1 6 rfl rfl (mm_in mm_k0 (by decide)) dX11_paste_73 ?_
                    refine W.eq (g2 := F0 m 74 ls [.ref a_12]) rfl ?_
                    refine lv_iload_n hx hb dX11_paste_74 rfl (lv_at hl 2 rfl) ?_
                    refine lv_iload hx hb dX11_paste_75 (lv_at hl 5 rfl) ?_
                    refine mm_finir (va_runV (As := [.int i_1, .int i_4]) (rest := []) ⟨hx, hb, hml, hown, hts⟩ (K541_X6_reaches l G cy H.size a_12 i_1 i_4 i_5 i_6 i_7 a_16 h2) (cwV 2 hts (mm_gV mm_w1713 mm_w1714 mm_w1715 mm_w34 mm_w1716) rfl rfl rfl hd_X6_reaches ⟨by rw [hRf]; exact Nat.le_of_ble_eq_true rfl, by rw [hRl]; exact Nat.le_of_ble_eq_true rfl⟩) (mm_preV hK hZ hS hA hP hD [2] rfl rfl 2 rfl rfl rfl) rfl rfl hl.1 rfl (lv_room (Nat.le_of_ble_eq_true rfl)) dX11_paste_77 ⟨by rw [hRc]; exact Nat.le_of_ble_eq_true rfl, by rw [hRs]; exact Nat.le_of_ble_eq_true rfl⟩) hP hD hS hA [2] rfl (fun _ => rfl) ?_
                    clear hP hD hS
                    clear H locs
                    intro v39 _u H locs hw hP hD hS
                    rcases hw with ⟨rfl, w40⟩ | ⟨rfl, w41, w42, w43⟩
                    · refine lv_if_eq (tgt := 99) hx hb dX11_paste_80 (by decide) (fun c44 => ?_) (fun c44 => ?_)
                      · refine lv_bipush (v := (-7)) hx hb dX11_paste_99 (by decide) ?_
                        subst hAe
                        rw [hQ]
                        exact W.iret (v := (-7)) hx hb hr (fun t ht hW => ⟨⟨(-7), (f_0, f_1, f_2, f_3), rfl, (mm_wk mm_km7 (by decide)), by rw [ht]; exact hP, hK.warm hW, hD⟩, hS.F ht⟩) hS.2.2 dX11_paste_101
                      · have q45 := mm_neL (lo := 1) (mm_ne c44) mm_k0 mm_k0 (by decide) (by decide)
                        exact mm_no q45 (by decide)
                    · refine lv_if_eq (tgt := 99) hx hb dX11_paste_80 (by decide) (fun c46 => ?_) (fun c46 => ?_)
                      · exact mm_eqN c46.symm mm_k0 mm_k1 (by decide)
                      · refine lv_aload_n hx hb dX11_paste_83 rfl (lv_at hl 0 rfl) ?_
                        refine va_get (D := G) (ci := 11) (v := .ref a_6) (C := RX11) (T := TX11) (N := 11) hx hb hts (mm_i inlX11) hown hK.1 hP 0 rfl rfl 5 (by decide) (mm_h hts mm_w32) (fun _ h9 => h9) rfl dX11_paste_84 ?_
                        refine lv_iload_n hx hb dX11_paste_87 rfl (lv_at hl 3 rfl) ?_
                        refine va_aldq hx hb hK.1 hP 1 6 rfl rfl (mm_in mm_k1 (by decide)) dX11_paste_88 ?_
                        refine W.eq (g2 := F0 m 89 ls [.ref a_13]) rfl ?_
                        refine lv_iload hx hb dX11_paste_89 (lv_at hl 4 rfl) ?_
                        refine lv_iload hx hb dX11_paste_91 (lv_at hl 5 rfl) ?_
                        refine mm_finir (va_runV (As := [.int i_3, .int i_4]) (rest := []) ⟨hx, hb, hml, hown, hts⟩ (K542_X6_reaches l G cy H.size a_13 i_3 i_4 i_8 i_9 i_10 a_17 w42 h5) (cwV 2 hts (mm_gV mm_w1713 mm_w1714 mm_w1715 mm_w34 mm_w1716) rfl rfl rfl hd_X6_reaches ⟨by rw [hRf]; exact Nat.le_of_ble_eq_true rfl, by rw [hRl]; exact Nat.le_of_ble_eq_true rfl⟩) (mm_preV hK hZ hS hA hP hD [4] rfl rfl 4 rfl rfl rfl) rfl rfl hl.1 rfl (lv_room (Nat.le_of_ble_eq_true rfl)) dX11_paste_93 ⟨by rw [hRc]; exact Nat.le_of_ble_eq_true rfl, by rw [hRs]; exact Nat.le_of_ble_eq_true rfl⟩) hP hD hS hA [4] rfl (fun _ => rfl) ?_
                        clear hP hD hS
                        clear H locs
                        intro v47 _u H locs hw hP hD hS
                        rcases hw with ⟨rfl, w48⟩ | ⟨rfl, w49, w50⟩
                        · refine lv_if_ne (tgt := 102) hx hb dX11_paste_96 (by decide) (fun c51 => ?_) (fun c51 => ?_)
                          · have q52 := mm_neL (lo := 1) (mm_ne c51) mm_k0 mm_k0 (by decide) (by decide)
                            exact mm_no q52 (by decide)
                          · refine lv_bipush (v := (-7)) hx hb dX11_paste_99 (by decide) ?_
                            subst hAe
                            rw [hQ]
                            exact W.iret (v := (-7)) hx hb hr (fun t ht hW => ⟨⟨(-7), (f_0, f_1, f_2, f_3), rfl, (mm_wk mm_km7 (by decide)), by rw [ht]; exact hP, hK.warm hW, hD⟩, hS.F ht⟩) hS.2.2 dX11_paste_101
                        · refine lv_if_ne (tgt := 102) hx hb dX11_paste_96 (by decide) (fun c53 => ?_) (fun c53 => ?_)
                          · refine lv_aload_n hx hb dX11_paste_102 rfl (lv_at hl 0 rfl) ?_
                            refine va_get (D := G) (ci := 11) (v := .ref a_6) (C := RX11) (T := TX11) (N := 11) hx hb hts (mm_i inlX11) hown hK.1 hP 0 rfl rfl 5 (by decide) (mm_h hts mm_w32) (fun _ h9 => h9) rfl dX11_paste_103 ?_
                            refine lv_iload_n hx hb dX11_paste_106 rfl (lv_at hl 1 rfl) ?_
                            refine va_aldq hx hb hK.1 hP 1 6 rfl rfl (mm_in mm_k0 (by decide)) dX11_paste_107 ?_
                            refine W.eq (g2 := F0 m 108 ls [.ref a_12]) rfl ?_
                            refine va_get (D := G) (ci := 6) (v := .ref a_16) (C := RX6) (T := TX6) (N := 4) hx hb hts (mm_i inlX6) hown hK.1 hP 2 rfl rfl 3 (by decide) (mm_h hts mm_w1711) (fun _ h9 => h9) rfl dX11_paste_108 ?_
                            refine lv_iload_n hx hb dX11_paste_111 rfl (lv_at hl 2 rfl) ?_
                            refine lv_aload_n hx hb dX11_paste_112 rfl (lv_at hl 0 rfl) ?_
                            refine va_get (D := G) (ci := 11) (v := .ref a_6) (C := RX11) (T := TX11) (N := 11) hx hb hts (mm_i inlX11) hown hK.1 hP 0 rfl rfl 5 (by decide) (mm_h hts mm_w32) (fun _ h9 => h9) rfl dX11_paste_113 ?_
                            refine lv_iload_n hx hb dX11_paste_116 rfl (lv_at hl 3 rfl) ?_
                            refine va_aldq hx hb hK.1 hP 1 6 rfl rfl (mm_in mm_k1 (by decide)) dX11_paste_117 ?_
                            refine W.eq (g2 := F0 m 118 ls [.ref a_13, .int i_1, .ref a_16]) rfl ?_
                            refine va_get (D := G) (ci := 6) (v := .ref a_17) (C := RX6) (T := TX6) (N := 4) hx hb hts (mm_i inlX6) hown hK.1 hP 4 rfl rfl 3 (by decide) (mm_h hts mm_w1711) (fun _ h9 => h9) rfl dX11_paste_118 ?_
                            refine lv_iload hx hb dX11_paste_121 (lv_at hl 4 rfl) ?_
                            refine lv_iload hx hb dX11_paste_123 (lv_at hl 5 rfl) ?_
                            refine va_copyl hx hb (by rw [hml]; exact hl.1.symm) hown (mm_h hts mm_w1712) (mm_h hts mm_w388) (mm_h hts mm_w389) (mm_h hts mm_w390) hK.1 hP hD hS 3 5 2 2 rfl rfl rfl rfl rfl (mm_nn w41 (by decide)) (mm_nn w49 (by decide)) (mm_nn w42 (by decide)) (mm_cpR w43 w41 w42 h2 (by decide)) (mm_cpR w50 w49 w42 h5 (by decide)) (fun _ _ => rfl) (by rw [hRf]; exact Nat.le_of_ble_eq_true rfl) (by rw [hRl]; exact Nat.le_of_ble_eq_true rfl) dX11_paste_125 ?_
                            clear hP hD hS
                            clear H locs
                            obtain ⟨g54, eg54⟩ : ∃ z : Nat → Int64, z = va_cpy f_0 f_1 i_1.toNatClampNeg i_3.toNatClampNeg i_4.toNatClampNeg := ⟨_, rfl⟩
                            rw [← eg54]
                            intro H locs (hP : va_P G vwCl [(a_0, .inr (11, [.ref a_1, .ref a_2, .ref a_3, .ref a_4, .ref a_5, .ref a_6, .ref a_7, .ref a_8, .ref a_9, .ref a_10, .ref a_11])), (a_6, .inl (cy 6, 4, .inr (.inr (.inr (.inr (va_up (va_up (va_up (va_up (fun _ => none) 0 (some a_12)) 1 (some a_13)) 2 (some a_14)) 3 (some a_15))))))), (a_12, .inr (6, [.int i_5, .int i_6, .int i_7, .ref a_16])), (a_16, .inl (cy 2, 60, .inr (.inl f_0))), (a_13, .inr (6, [.int i_8, .int i_9, .int i_10, .ref a_17])), (a_17, .inl (cy 2, 60, .inr (.inl g54))), (a_14, .inr (6, [.int i_11, .int i_12, .int i_13, .ref a_18])), (a_18, .inl (cy 2, 60, .inr (.inl f_2))), (a_15, .inr (6, [.int i_14, .int i_15, .int i_16, .ref a_19])), (a_19, .inl (cy 2, 60, .inr (.inl f_3)))] H) (hD : va_D A [(a_0, .inr (11, [.ref a_1, .ref a_2, .ref a_3, .ref a_4, .ref a_5, .ref a_6, .ref a_7, .ref a_8, .ref a_9, .ref a_10, .ref a_11])), (a_6, .inl (cy 6, 4, .inr (.inr (.inr (.inr (va_up (va_up (va_up (va_up (fun _ => none) 0 (some a_12)) 1 (some a_13)) 2 (some a_14)) 3 (some a_15))))))), (a_12, .inr (6, [.int i_5, .int i_6, .int i_7, .ref a_16])), (a_16, .inl (cy 2, 60, .inr (.inl f_0))), (a_13, .inr (6, [.int i_8, .int i_9, .int i_10, .ref a_17])), (a_17, .inl (cy 2, 60, .inr (.inl g54))), (a_14, .inr (6, [.int i_11, .int i_12, .int i_13, .ref a_18])), (a_18, .inl (cy 2, 60, .inr (.inl f_2))), (a_15, .inr (6, [.int i_14, .int i_15, .int i_16, .ref a_19])), (a_19, .inl (cy 2, 60, .inr (.inl f_3)))]) hS
                            refine lv_iconst (v := 0) hx hb dX11_paste_128 (by decide) ?_
                            subst hAe
                            rw [hQ]
                            exact W.iret (v := 0) hx hb hr (fun t ht hW => ⟨⟨0, (f_0, g54, f_2, f_3), rfl, (mm_wk mm_k0 (by decide)), by rw [ht]; exact hP, hK.warm hW, hD⟩, hS.F ht⟩) hS.2.2 dX11_paste_129
                          · exact mm_eqN c53.symm mm_k0 mm_k1 (by decide)
                  · refine lv_bipush (v := (-8)) hx hb dX11_paste_65 (by decide) ?_
                    subst hAe
                    rw [hQ]
                    exact W.iret (v := (-8)) hx hb hr (fun t ht hW => ⟨⟨(-8), (f_0, f_1, f_2, f_3), rfl, (mm_wk mm_km8 (by decide)), by rw [ht]; exact hP, hK.warm hW, hD⟩, hS.F ht⟩) hS.2.2 dX11_paste_67
                · have q55 := mm_eqI (lo := 0) (hi := 0) c36 h3 mm_k0 (by decide)
                  refine lv_bipush (v := (-6)) hx hb dX11_paste_41 (by decide) ?_
                  subst hAe
                  rw [hQ]
                  exact W.iret (v := (-6)) hx hb hr (fun t ht hW => ⟨⟨(-6), (f_0, f_1, f_2, f_3), rfl, (mm_wk mm_km6 (by decide)), by rw [ht]; exact hP, hK.warm hW, hD⟩, hS.F ht⟩) hS.2.2 dX11_paste_43
              · refine W.eq (g2 := F0 m 35 ls [.ref a_14]) rfl ?_
                refine va_get (D := G) (ci := 6) (v := .int i_11) (C := RX6) (T := TX6) (N := 4) hx hb hts (mm_i inlX6) hown hK.1 hP 6 rfl rfl 0 (by decide) (mm_h hts mm_w1239) (fun _ h9 => h9) rfl dX11_paste_35 ?_
                refine lv_if_ne (tgt := 44) hx hb dX11_paste_38 (by decide) (fun c56 => ?_) (fun c56 => ?_)
                · have q57 := mm_neL (lo := 1) (mm_ne c56) h6 mm_k0 (by decide) (by decide)
                  refine lv_aload_n hx hb dX11_paste_44 rfl (lv_at hl 0 rfl) ?_
                  refine va_get (D := G) (ci := 11) (v := .ref a_6) (C := RX11) (T := TX11) (N := 11) hx hb hts (mm_i inlX11) hown hK.1 hP 0 rfl rfl 5 (by decide) (mm_h hts mm_w32) (fun _ h9 => h9) rfl dX11_paste_45 ?_
                  refine lv_iload_n hx hb dX11_paste_48 rfl (lv_at hl 1 rfl) ?_
                  refine va_aldq hx hb hK.1 hP 1 6 rfl rfl (mm_in mm_k0 (by decide)) dX11_paste_49 ?_
                  refine W.eq (g2 := F0 m 50 ls [.ref a_12]) rfl ?_
                  refine va_get (D := G) (ci := 6) (v := .int i_6) (C := RX6) (T := TX6) (N := 4) hx hb hts (mm_i inlX6) hown hK.1 hP 2 rfl rfl 1 (by decide) (mm_h hts mm_w1710) (fun _ h9 => h9) rfl dX11_paste_50 ?_
                  refine lv_aload_n hx hb dX11_paste_53 rfl (lv_at hl 0 rfl) ?_
                  refine va_get (D := G) (ci := 11) (v := .ref a_6) (C := RX11) (T := TX11) (N := 11) hx hb hts (mm_i inlX11) hown hK.1 hP 0 rfl rfl 5 (by decide) (mm_h hts mm_w32) (fun _ h9 => h9) rfl dX11_paste_54 ?_
                  refine lv_iload_n hx hb dX11_paste_57 rfl (lv_at hl 3 rfl) ?_
                  refine va_aldq hx hb hK.1 hP 1 6 rfl rfl (mm_in mm_k2 (by decide)) dX11_paste_58 ?_
                  refine W.eq (g2 := F0 m 59 ls [.ref a_14, .int i_6]) rfl ?_
                  refine va_get (D := G) (ci := 6) (v := .int i_12) (C := RX6) (T := TX6) (N := 4) hx hb hts (mm_i inlX6) hown hK.1 hP 6 rfl rfl 1 (by decide) (mm_h hts mm_w1710) (fun _ h9 => h9) rfl dX11_paste_59 ?_
                  refine lv_icmp_eq (tgt := 68) hx hb dX11_paste_62 (by decide) (fun c58 => ?_) (fun c58 => ?_)
                  · refine lv_aload_n hx hb dX11_paste_68 rfl (lv_at hl 0 rfl) ?_
                    refine va_get (D := G) (ci := 11) (v := .ref a_6) (C := RX11) (T := TX11) (N := 11) hx hb hts (mm_i inlX11) hown hK.1 hP 0 rfl rfl 5 (by decide) (mm_h hts mm_w32) (fun _ h9 => h9) rfl dX11_paste_69 ?_
                    refine lv_iload_n hx hb dX11_paste_72 rfl (lv_at hl 1 rfl) ?_
                    refine va_aldq hx hb hK.1 hP 1 6 rfl rfl (mm_in mm_k0 (by decide)) dX11_paste_73 ?_
                    refine W.eq (g2 := F0 m 74 ls [.ref a_12]) rfl ?_
                    refine lv_iload_n hx hb dX11_paste_74 rfl (lv_at hl 2 rfl) ?_
                    refine lv_iload hx hb dX11_paste_75 (lv_at hl 5 rfl) ?_
                    refine mm_finir (va_runV (As := [.int i_1, .int i_4]) (rest := []) ⟨hx, hb, hml, hown, hts⟩ (K541_X6_reaches l G cy H.size a_12 i_1 i_4 i_5 i_6 i_7 a_16 h2) (cwV 2 hts (mm_gV mm_w1713 mm_w1714 mm_w1715 mm_w34 mm_w1716) rfl rfl rfl hd_X6_reaches ⟨by rw [hRf]; exact Nat.le_of_ble_eq_true rfl, by rw [hRl]; exact Nat.le_of_ble_eq_true rfl⟩) (mm_preV hK hZ hS hA hP hD [2] rfl rfl 2 rfl rfl rfl) rfl rfl hl.1 rfl (lv_room (Nat.le_of_ble_eq_true rfl)) dX11_paste_77 ⟨by rw [hRc]; exact Nat.le_of_ble_eq_true rfl, by rw [hRs]; exact Nat.le_of_ble_eq_true rfl⟩) hP hD hS hA [2] rfl (fun _ => rfl) ?_
                    clear hP hD hS
                    clear H locs
                    intro v59 _u H locs hw hP hD hS
                    rcases hw with ⟨rfl, w60⟩ | ⟨rfl, w61, w62, w63⟩
                    · refine lv_if_eq (tgt := 99) hx hb dX11_paste_80 (by decide) (fun c64 => ?_) (fun c64 => ?_)
                      · refine lv_bipush (v := (-7)) hx hb dX11_paste_99 (by decide) ?_
                        subst hAe
                        rw [hQ]
                        exact W.iret (v := (-7)) hx hb hr (fun t ht hW => ⟨⟨(-7), (f_0, f_1, f_2, f_3), rfl, (mm_wk mm_km7 (by decide)), by rw [ht]; exact hP, hK.warm hW, hD⟩, hS.F ht⟩) hS.2.2 dX11_paste_101
                      · have q65 := mm_neL (lo := 1) (mm_ne c64) mm_k0 mm_k0 (by decide) (by decide)
                        exact mm_no q65 (by decide)
                    · refine lv_if_eq (tgt := 99) hx hb dX11_paste_80 (by decide) (fun c66 => ?_) (fun c66 => ?_)
                      · exact mm_eqN c66.symm mm_k0 mm_k1 (by decide)
                      · refine lv_aload_n hx hb dX11_paste_83 rfl (lv_at hl 0 rfl) ?_
                        refine va_get (D := G) (ci := 11) (v := .ref a_6) (C := RX11) (T := TX11) (N := 11) hx hb hts (mm_i inlX11) hown hK.1 hP 0 rfl rfl 5 (by decide) (mm_h hts mm_w32) (fun _ h9 => h9) rfl dX11_paste_84 ?_
                        refine lv_iload_n hx hb dX11_paste_87 rfl (lv_at hl 3 rfl) ?_
                        refine va_aldq hx hb hK.1 hP 1 6 rfl rfl (mm_in mm_k2 (by decide)) dX11_paste_88 ?_
                        refine W.eq (g2 := F0 m 89 ls [.ref a_14]) rfl ?_
                        refine lv_iload hx hb dX11_paste_89 (lv_at hl 4 rfl) ?_
                        refine lv_iload hx hb dX11_paste_91 (lv_at hl 5 rfl) ?_
                        refine mm_finir (va_runV (As := [.int i_3, .int i_4]) (rest := []) ⟨hx, hb, hml, hown, hts⟩ (K542_X6_reaches l G cy H.size a_14 i_3 i_4 i_11 i_12 i_13 a_18 w62 h8) (cwV 2 hts (mm_gV mm_w1713 mm_w1714 mm_w1715 mm_w34 mm_w1716) rfl rfl rfl hd_X6_reaches ⟨by rw [hRf]; exact Nat.le_of_ble_eq_true rfl, by rw [hRl]; exact Nat.le_of_ble_eq_true rfl⟩) (mm_preV hK hZ hS hA hP hD [6] rfl rfl 6 rfl rfl rfl) rfl rfl hl.1 rfl (lv_room (Nat.le_of_ble_eq_true rfl)) dX11_paste_93 ⟨by rw [hRc]; exact Nat.le_of_ble_eq_true rfl, by rw [hRs]; exact Nat.le_of_ble_eq_true rfl⟩) hP hD hS hA [6] rfl (fun _ => rfl) ?_
                        clear hP hD hS
                        clear H locs
                        intro v67 _u H locs hw hP hD hS
                        rcases hw with ⟨rfl, w68⟩ | ⟨rfl, w69, w70⟩
                        · refine lv_if_ne (tgt := 102) hx hb dX11_paste_96 (by decide) (fun c71 => ?_) (fun c71 => ?_)
                          · have q72 := mm_neL (lo := 1) (mm_ne c71) mm_k0 mm_k0 (by decide) (by decide)
                            exact mm_no q72 (by decide)
                          · refine lv_bipush (v := (-7)) hx hb dX11_paste_99 (by decide) ?_
                            subst hAe
                            rw [hQ]
                            exact W.iret (v := (-7)) hx hb hr (fun t ht hW => ⟨⟨(-7), (f_0, f_1, f_2, f_3), rfl, (mm_wk mm_km7 (by decide)), by rw [ht]; exact hP, hK.warm hW, hD⟩, hS.F ht⟩) hS.2.2 dX11_paste_101
                        · refine lv_if_ne (tgt := 102) hx hb dX11_paste_96 (by decide) (fun c73 => ?_) (fun c73 => ?_)
                          · refine lv_aload_n hx hb dX11_paste_102 rfl (lv_at hl 0 rfl) ?_
                            refine va_get (D := G) (ci := 11) (v := .ref a_6) (C := RX11) (T := TX11) (N := 11) hx hb hts (mm_i inlX11) hown hK.1 hP 0 rfl rfl 5 (by decide) (mm_h hts mm_w32) (fun _ h9 => h9) rfl dX11_paste_103 ?_
                            refine lv_iload_n hx hb dX11_paste_106 rfl (lv_at hl 1 rfl) ?_
                            refine va_aldq hx hb hK.1 hP 1 6 rfl rfl (mm_in mm_k0 (by decide)) dX11_paste_107 ?_
                            refine W.eq (g2 := F0 m 108 ls [.ref a_12]) rfl ?_
                            refine va_get (D := G) (ci := 6) (v := .ref a_16) (C := RX6) (T := TX6) (N := 4) hx hb hts (mm_i inlX6) hown hK.1 hP 2 rfl rfl 3 (by decide) (mm_h hts mm_w1711) (fun _ h9 => h9) rfl dX11_paste_108 ?_
                            refine lv_iload_n hx hb dX11_paste_111 rfl (lv_at hl 2 rfl) ?_
                            refine lv_aload_n hx hb dX11_paste_112 rfl (lv_at hl 0 rfl) ?_
                            refine va_get (D := G) (ci := 11) (v := .ref a_6) (C := RX11) (T := TX11) (N := 11) hx hb hts (mm_i inlX11) hown hK.1 hP 0 rfl rfl 5 (by decide) (mm_h hts mm_w32) (fun _ h9 => h9) rfl dX11_paste_113 ?_
                            refine lv_iload_n hx hb dX11_paste_116 rfl (lv_at hl 3 rfl) ?_
                            refine va_aldq hx hb hK.1 hP 1 6 rfl rfl (mm_in mm_k2 (by decide)) dX11_paste_117 ?_
                            refine W.eq (g2 := F0 m 118 ls [.ref a_14, .int i_1, .ref a_16]) rfl ?_
                            refine va_get (D := G) (ci := 6) (v := .ref a_18) (C := RX6) (T := TX6) (N := 4) hx hb hts (mm_i inlX6) hown hK.1 hP 6 rfl rfl 3 (by decide) (mm_h hts mm_w1711) (fun _ h9 => h9) rfl dX11_paste_118 ?_
                            refine lv_iload hx hb dX11_paste_121 (lv_at hl 4 rfl) ?_
                            refine lv_iload hx hb dX11_paste_123 (lv_at hl 5 rfl) ?_
                            refine va_copyl hx hb (by rw [hml]; exact hl.1.symm) hown (mm_h hts mm_w1712) (mm_h hts mm_w388) (mm_h hts mm_w389) (mm_h hts mm_w390) hK.1 hP hD hS 3 7 2 2 rfl rfl rfl rfl rfl (mm_nn w61 (by decide)) (mm_nn w69 (by decide)) (mm_nn w62 (by decide)) (mm_cpR w63 w61 w62 h2 (by decide)) (mm_cpR w70 w69 w62 h8 (by decide)) (fun _ _ => rfl) (by rw [hRf]; exact Nat.le_of_ble_eq_true rfl) (by rw [hRl]; exact Nat.le_of_ble_eq_true rfl) dX11_paste_125 ?_
                            clear hP hD hS
                            clear H locs
                            obtain ⟨g74, eg74⟩ : ∃ z : Nat → Int64, z = va_cpy f_0 f_2 i_1.toNatClampNeg i_3.toNatClampNeg i_4.toNatClampNeg := ⟨_, rfl⟩
                            rw [← eg74]
                            intro H locs (hP : va_P G vwCl [(a_0, .inr (11, [.ref a_1, .ref a_2, .ref a_3, .ref a_4, .ref a_5, .ref a_6, .ref a_7, .ref a_8, .ref a_9, .ref a_10, .ref a_11])), (a_6, .inl (cy 6, 4, .inr (.inr (.inr (.inr (va_up (va_up (va_up (va_up (fun _ => none) 0 (some a_12)) 1 (some a_13)) 2 (some a_14)) 3 (some a_15))))))), (a_12, .inr (6, [.int i_5, .int i_6, .int i_7, .ref a_16])), (a_16, .inl (cy 2, 60, .inr (.inl f_0))), (a_13, .inr (6, [.int i_8, .int i_9, .int i_10, .ref a_17])), (a_17, .inl (cy 2, 60, .inr (.inl f_1))), (a_14, .inr (6, [.int i_11, .int i_12, .int i_13, .ref a_18])), (a_18, .inl (cy 2, 60, .inr (.inl g74))), (a_15, .inr (6, [.int i_14, .int i_15, .int i_16, .ref a_19])), (a_19, .inl (cy 2, 60, .inr (.inl f_3)))] H) (hD : va_D A [(a_0, .inr (11, [.ref a_1, .ref a_2, .ref a_3, .ref a_4, .ref a_5, .ref a_6, .ref a_7, .ref a_8, .ref a_9, .ref a_10, .ref a_11])), (a_6, .inl (cy 6, 4, .inr (.inr (.inr (.inr (va_up (va_up (va_up (va_up (fun _ => none) 0 (some a_12)) 1 (some a_13)) 2 (some a_14)) 3 (some a_15))))))), (a_12, .inr (6, [.int i_5, .int i_6, .int i_7, .ref a_16])), (a_16, .inl (cy 2, 60, .inr (.inl f_0))), (a_13, .inr (6, [.int i_8, .int i_9, .int i_10, .ref a_17])), (a_17, .inl (cy 2, 60, .inr (.inl f_1))), (a_14, .inr (6, [.int i_11, .int i_12, .int i_13, .ref a_18])), (a_18, .inl (cy 2, 60, .inr (.inl g74))), (a_15, .inr (6, [.int i_14, .int i_15, .int i_16, .ref a_19])), (a_19, .inl (cy 2, 60, .inr (.inl f_3)))]) hS
                            refine lv_iconst (v := 0) hx hb dX11_paste_128 (by decide) ?_
                            subst hAe
                            rw [hQ]
                            exact W.iret (v := 0) hx hb hr (fun t ht hW => ⟨⟨0, (f_0, f_1, g74, f_3), rfl, (mm_wk mm_k0 (by decide)), by rw [ht]; exact hP, hK.warm hW, hD⟩, hS.F ht⟩) hS.2.2 dX11_paste_129
                          · exact mm_eqN c73.symm mm_k0 mm_k1 (by decide)
                  · refine lv_bipush (v := (-8)) hx hb dX11_paste_65 (by decide) ?_
                    subst hAe
                    rw [hQ]
                    exact W.iret (v := (-8)) hx hb hr (fun t ht hW => ⟨⟨(-8), (f_0, f_1, f_2, f_3), rfl, (mm_wk mm_km8 (by decide)), by rw [ht]; exact hP, hK.warm hW, hD⟩, hS.F ht⟩) hS.2.2 dX11_paste_67
                · have q75 := mm_eqI (lo := 0) (hi := 0) c56 h6 mm_k0 (by decide)
                  refine lv_bipush (v := (-6)) hx hb dX11_paste_41 (by decide) ?_
                  subst hAe
                  rw [hQ]
                  exact W.iret (v := (-6)) hx hb hr (fun t ht hW => ⟨⟨(-6), (f_0, f_1, f_2, f_3), rfl, (mm_wk mm_km6 (by decide)), by rw [ht]; exact hP, hK.warm hW, hD⟩, hS.F ht⟩) hS.2.2 dX11_paste_43
              · refine W.eq (g2 := F0 m 35 ls [.ref a_15]) rfl ?_
                refine va_get (D := G) (ci := 6) (v := .int i_14) (C := RX6) (T := TX6) (N := 4) hx hb hts (mm_i inlX6) hown hK.1 hP 8 rfl rfl 0 (by decide) (mm_h hts mm_w1239) (fun _ h9 => h9) rfl dX11_paste_35 ?_
                refine lv_if_ne (tgt := 44) hx hb dX11_paste_38 (by decide) (fun c76 => ?_) (fun c76 => ?_)
                · have q77 := mm_neL (lo := 1) (mm_ne c76) h9 mm_k0 (by decide) (by decide)
                  refine lv_aload_n hx hb dX11_paste_44 rfl (lv_at hl 0 rfl) ?_
                  refine va_get (D := G) (ci := 11) (v := .ref a_6) (C := RX11) (T := TX11) (N := 11) hx hb hts (mm_i inlX11) hown hK.1 hP 0 rfl rfl 5 (by decide) (mm_h hts mm_w32) (fun _ h9 => h9) rfl dX11_paste_45 ?_
                  refine lv_iload_n hx hb dX11_paste_48 rfl (lv_at hl 1 rfl) ?_
                  refine va_aldq hx hb hK.1 hP 1 6 rfl rfl (mm_in mm_k0 (by decide)) dX11_paste_49 ?_
                  refine W.eq (g2 := F0 m 50 ls [.ref a_12]) rfl ?_
                  refine va_get (D := G) (ci := 6) (v := .int i_6) (C := RX6) (T := TX6) (N := 4) hx hb hts (mm_i inlX6) hown hK.1 hP 2 rfl rfl 1 (by decide) (mm_h hts mm_w1710) (fun _ h9 => h9) rfl dX11_paste_50 ?_
                  refine lv_aload_n hx hb dX11_paste_53 rfl (lv_at hl 0 rfl) ?_
                  refine va_get (D := G) (ci := 11) (v := .ref a_6) (C := RX11) (T := TX11) (N := 11) hx hb hts (mm_i inlX11) hown hK.1 hP 0 rfl rfl 5 (by decide) (mm_h hts mm_w32) (fun _ h9 => h9) rfl dX11_paste_54 ?_
                  refine lv_iload_n hx hb dX11_paste_57 rfl (lv_at hl 3 rfl) ?_
                  refine va_aldq hx hb hK.1 hP 1 6 rfl rfl (mm_in mm_k3 (by decide)) dX11_paste_58 ?_
                  refine W.eq (g2 := F0 m 59 ls [.ref a_15, .int i_6]) rfl ?_
                  refine va_get (D := G) (ci := 6) (v := .int i_15) (C := RX6) (T := TX6) (N := 4) hx hb hts (mm_i inlX6) hown hK.1 hP 8 rfl rfl 1 (by decide) (mm_h hts mm_w1710) (fun _ h9 => h9) rfl dX11_paste_59 ?_
                  refine lv_icmp_eq (tgt := 68) hx hb dX11_paste_62 (by decide) (fun c78 => ?_) (fun c78 => ?_)
                  · refine lv_aload_n hx hb dX11_paste_68 rfl (lv_at hl 0 rfl) ?_
                    refine va_get (D := G) (ci := 11) (v := .ref a_6) (C := RX11) (T := TX11) (N := 11) hx hb hts (mm_i inlX11) hown hK.1 hP 0 rfl rfl 5 (by decide) (mm_h hts mm_w32) (fun _ h9 => h9) rfl dX11_paste_69 ?_
                    refine lv_iload_n hx hb dX11_paste_72 rfl (lv_at hl 1 rfl) ?_
                    refine va_aldq hx hb hK.1 hP 1 6 rfl rfl (mm_in mm_k0 (by decide)) dX11_paste_73 ?_
                    refine W.eq (g2 := F0 m 74 ls [.ref a_12]) rfl ?_
                    refine lv_iload_n hx hb dX11_paste_74 rfl (lv_at hl 2 rfl) ?_
                    refine lv_iload hx hb dX11_paste_75 (lv_at hl 5 rfl) ?_
                    refine mm_finir (va_runV (As := [.int i_1, .int i_4]) (rest := []) ⟨hx, hb, hml, hown, hts⟩ (K541_X6_reaches l G cy H.size a_12 i_1 i_4 i_5 i_6 i_7 a_16 h2) (cwV 2 hts (mm_gV mm_w1713 mm_w1714 mm_w1715 mm_w34 mm_w1716) rfl rfl rfl hd_X6_reaches ⟨by rw [hRf]; exact Nat.le_of_ble_eq_true rfl, by rw [hRl]; exact Nat.le_of_ble_eq_true rfl⟩) (mm_preV hK hZ hS hA hP hD [2] rfl rfl 2 rfl rfl rfl) rfl rfl hl.1 rfl (lv_room (Nat.le_of_ble_eq_true rfl)) dX11_paste_77 ⟨by rw [hRc]; exact Nat.le_of_ble_eq_true rfl, by rw [hRs]; exact Nat.le_of_ble_eq_true rfl⟩) hP hD hS hA [2] rfl (fun _ => rfl) ?_
                    clear hP hD hS
                    clear H locs
                    intro v79 _u H locs hw hP hD hS
                    rcases hw with ⟨rfl, w80⟩ | ⟨rfl, w81, w82, w83⟩
                    · refine lv_if_eq (tgt := 99) hx hb dX11_paste_80 (by decide) (fun c84 => ?_) (fun c84 => ?_)
                      · refine lv_bipush (v := (-7)) hx hb dX11_paste_99 (by decide) ?_
                        subst hAe
                        rw [hQ]
                        exact W.iret (v := (-7)) hx hb hr (fun t ht hW => ⟨⟨(-7), (f_0, f_1, f_2, f_3), rfl, (mm_wk mm_km7 (by decide)), by rw [ht]; exact hP, hK.warm hW, hD⟩, hS.F ht⟩) hS.2.2 dX11_paste_101
                      · have q85 := mm_neL (lo := 1) (mm_ne c84) mm_k0 mm_k0 (by decide) (by decide)
                        exact mm_no q85 (by decide)
                    · refine lv_if_eq (tgt := 99) hx hb dX11_paste_80 (by decide) (fun c86 => ?_) (fun c86 => ?_)
                      · exact mm_eqN c86.symm mm_k0 mm_k1 (by decide)
                      · refine lv_aload_n hx hb dX11_paste_83 rfl (lv_at hl 0 rfl) ?_
                        refine va_get (D := G) (ci := 11) (v := .ref a_6) (C := RX11) (T := TX11) (N := 11) hx hb hts (mm_i inlX11) hown hK.1 hP 0 rfl rfl 5 (by decide) (mm_h hts mm_w32) (fun _ h9 => h9) rfl dX11_paste_84 ?_
                        refine lv_iload_n hx hb dX11_paste_87 rfl (lv_at hl 3 rfl) ?_
                        refine va_aldq hx hb hK.1 hP 1 6 rfl rfl (mm_in mm_k3 (by decide)) dX11_paste_88 ?_
                        refine W.eq (g2 := F0 m 89 ls [.ref a_15]) rfl ?_
                        refine lv_iload hx hb dX11_paste_89 (lv_at hl 4 rfl) ?_
                        refine lv_iload hx hb dX11_paste_91 (lv_at hl 5 rfl) ?_
                        refine mm_finir (va_runV (As := [.int i_3, .int i_4]) (rest := []) ⟨hx, hb, hml, hown, hts⟩ (K542_X6_reaches l G cy H.size a_15 i_3 i_4 i_14 i_15 i_16 a_19 w82 h11) (cwV 2 hts (mm_gV mm_w1713 mm_w1714 mm_w1715 mm_w34 mm_w1716) rfl rfl rfl hd_X6_reaches ⟨by rw [hRf]; exact Nat.le_of_ble_eq_true rfl, by rw [hRl]; exact Nat.le_of_ble_eq_true rfl⟩) (mm_preV hK hZ hS hA hP hD [8] rfl rfl 8 rfl rfl rfl) rfl rfl hl.1 rfl (lv_room (Nat.le_of_ble_eq_true rfl)) dX11_paste_93 ⟨by rw [hRc]; exact Nat.le_of_ble_eq_true rfl, by rw [hRs]; exact Nat.le_of_ble_eq_true rfl⟩) hP hD hS hA [8] rfl (fun _ => rfl) ?_
                        clear hP hD hS
                        clear H locs
                        intro v87 _u H locs hw hP hD hS
                        rcases hw with ⟨rfl, w88⟩ | ⟨rfl, w89, w90⟩
                        · refine lv_if_ne (tgt := 102) hx hb dX11_paste_96 (by decide) (fun c91 => ?_) (fun c91 => ?_)
                          · have q92 := mm_neL (lo := 1) (mm_ne c91) mm_k0 mm_k0 (by decide) (by decide)
                            exact mm_no q92 (by decide)
                          · refine lv_bipush (v := (-7)) hx hb dX11_paste_99 (by decide) ?_
                            subst hAe
                            rw [hQ]
                            exact W.iret (v := (-7)) hx hb hr (fun t ht hW => ⟨⟨(-7), (f_0, f_1, f_2, f_3), rfl, (mm_wk mm_km7 (by decide)), by rw [ht]; exact hP, hK.warm hW, hD⟩, hS.F ht⟩) hS.2.2 dX11_paste_101
                        · refine lv_if_ne (tgt := 102) hx hb dX11_paste_96 (by decide) (fun c93 => ?_) (fun c93 => ?_)
                          · refine lv_aload_n hx hb dX11_paste_102 rfl (lv_at hl 0 rfl) ?_
                            refine va_get (D := G) (ci := 11) (v := .ref a_6) (C := RX11) (T := TX11) (N := 11) hx hb hts (mm_i inlX11) hown hK.1 hP 0 rfl rfl 5 (by decide) (mm_h hts mm_w32) (fun _ h9 => h9) rfl dX11_paste_103 ?_
                            refine lv_iload_n hx hb dX11_paste_106 rfl (lv_at hl 1 rfl) ?_
                            refine va_aldq hx hb hK.1 hP 1 6 rfl rfl (mm_in mm_k0 (by decide)) dX11_paste_107 ?_
                            refine W.eq (g2 := F0 m 108 ls [.ref a_12]) rfl ?_
                            refine va_get (D := G) (ci := 6) (v := .ref a_16) (C := RX6) (T := TX6) (N := 4) hx hb hts (mm_i inlX6) hown hK.1 hP 2 rfl rfl 3 (by decide) (mm_h hts mm_w1711) (fun _ h9 => h9) rfl dX11_paste_108 ?_
                            refine lv_iload_n hx hb dX11_paste_111 rfl (lv_at hl 2 rfl) ?_
                            refine lv_aload_n hx hb dX11_paste_112 rfl (lv_at hl 0 rfl) ?_
                            refine va_get (D := G) (ci := 11) (v := .ref a_6) (C := RX11) (T := TX11) (N := 11) hx hb hts (mm_i inlX11) hown hK.1 hP 0 rfl rfl 5 (by decide) (mm_h hts mm_w32) (fun _ h9 => h9) rfl dX11_paste_113 ?_
                            refine lv_iload_n hx hb dX11_paste_116 rfl (lv_at hl 3 rfl) ?_
                            refine va_aldq hx hb hK.1 hP 1 6 rfl rfl (mm_in mm_k3 (by decide)) dX11_paste_117 ?_
                            refine W.eq (g2 := F0 m 118 ls [.ref a_15, .int i_1, .ref a_16]) rfl ?_
                            refine va_get (D := G) (ci := 6) (v := .ref a_19) (C := RX6) (T := TX6) (N := 4) hx hb hts (mm_i inlX6) hown hK.1 hP 8 rfl rfl 3 (by decide) (mm_h hts mm_w1711) (fun _ h9 => h9) rfl dX11_paste_118 ?_
                            refine lv_iload hx hb dX11_paste_121 (lv_at hl 4 rfl) ?_
                            refine lv_iload hx hb dX11_paste_123 (lv_at hl 5 rfl) ?_
                            refine va_copyl hx hb (by rw [hml]; exact hl.1.symm) hown (mm_h hts mm_w1712) (mm_h hts mm_w388) (mm_h hts mm_w389) (mm_h hts mm_w390) hK.1 hP hD hS 3 9 2 2 rfl rfl rfl rfl rfl (mm_nn w81 (by decide)) (mm_nn w89 (by decide)) (mm_nn w82 (by decide)) (mm_cpR w83 w81 w82 h2 (by decide)) (mm_cpR w90 w89 w82 h11 (by decide)) (fun _ _ => rfl) (by rw [hRf]; exact Nat.le_of_ble_eq_true rfl) (by rw [hRl]; exact Nat.le_of_ble_eq_true rfl) dX11_paste_125 ?_
                            clear hP hD hS
                            clear H locs
                            obtain ⟨g94, eg94⟩ : ∃ z : Nat → Int64, z = va_cpy f_0 f_3 i_1.toNatClampNeg i_3.toNatClampNeg i_4.toNatClampNeg := ⟨_, rfl⟩
                            rw [← eg94]
                            intro H locs (hP : va_P G vwCl [(a_0, .inr (11, [.ref a_1, .ref a_2, .ref a_3, .ref a_4, .ref a_5, .ref a_6, .ref a_7, .ref a_8, .ref a_9, .ref a_10, .ref a_11])), (a_6, .inl (cy 6, 4, .inr (.inr (.inr (.inr (va_up (va_up (va_up (va_up (fun _ => none) 0 (some a_12)) 1 (some a_13)) 2 (some a_14)) 3 (some a_15))))))), (a_12, .inr (6, [.int i_5, .int i_6, .int i_7, .ref a_16])), (a_16, .inl (cy 2, 60, .inr (.inl f_0))), (a_13, .inr (6, [.int i_8, .int i_9, .int i_10, .ref a_17])), (a_17, .inl (cy 2, 60, .inr (.inl f_1))), (a_14, .inr (6, [.int i_11, .int i_12, .int i_13, .ref a_18])), (a_18, .inl (cy 2, 60, .inr (.inl f_2))), (a_15, .inr (6, [.int i_14, .int i_15, .int i_16, .ref a_19])), (a_19, .inl (cy 2, 60, .inr (.inl g94)))] H) (hD : va_D A [(a_0, .inr (11, [.ref a_1, .ref a_2, .ref a_3, .ref a_4, .ref a_5, .ref a_6, .ref a_7, .ref a_8, .ref a_9, .ref a_10, .ref a_11])), (a_6, .inl (cy 6, 4, .inr (.inr (.inr (.inr (va_up (va_up (va_up (va_up (fun _ => none) 0 (some a_12)) 1 (some a_13)) 2 (some a_14)) 3 (some a_15))))))), (a_12, .inr (6, [.int i_5, .int i_6, .int i_7, .ref a_16])), (a_16, .inl (cy 2, 60, .inr (.inl f_0))), (a_13, .inr (6, [.int i_8, .int i_9, .int i_10, .ref a_17])), (a_17, .inl (cy 2, 60, .inr (.inl f_1))), (a_14, .inr (6, [.int i_11, .int i_12, .int i_13, .ref a_18])), (a_18, .inl (cy 2, 60, .inr (.inl f_2))), (a_15, .inr (6, [.int i_14, .int i_15, .int i_16, .ref a_19])), (a_19, .inl (cy 2, 60, .inr (.inl g94)))]) hS
                            refine lv_iconst (v := 0) hx hb dX11_paste_128 (by decide) ?_
                            subst hAe
                            rw [hQ]
                            exact W.iret (v := 0) hx hb hr (fun t ht hW => ⟨⟨0, (f_0, f_1, f_2, g94), rfl, (mm_wk mm_k0 (by decide)), by rw [ht]; exact hP, hK.warm hW, hD⟩, hS.F ht⟩) hS.2.2 dX11_paste_129
                          · exact mm_eqN c93.symm mm_k0 mm_k1 (by decide)
                  · refine lv_bipush (v := (-8)) hx hb dX11_paste_65 (by decide) ?_
                    subst hAe
                    rw [hQ]
                    exact W.iret (v := (-8)) hx hb hr (fun t ht hW => ⟨⟨(-8), (f_0, f_1, f_2, f_3), rfl, (mm_wk mm_km8 (by decide)), by rw [ht]; exact hP, hK.warm hW, hD⟩, hS.F ht⟩) hS.2.2 dX11_paste_67
                · have q95 := mm_eqI (lo := 0) (hi := 0) c76 h9 mm_k0 (by decide)
                  refine lv_bipush (v := (-6)) hx hb dX11_paste_41 (by decide) ?_
                  subst hAe
                  rw [hQ]
                  exact W.iret (v := (-6)) hx hb hr (fun t ht hW => ⟨⟨(-6), (f_0, f_1, f_2, f_3), rfl, (mm_wk mm_km6 (by decide)), by rw [ht]; exact hP, hK.warm hW, hD⟩, hS.F ht⟩) hS.2.2 dX11_paste_43
          · refine W.eq (g2 := F0 m 23 ls [.ref a_13]) rfl ?_
            refine va_get (D := G) (ci := 6) (v := .int i_8) (C := RX6) (T := TX6) (N := 4) hx hb hts (mm_i inlX6) hown hK.1 hP 4 rfl rfl 0 (by decide) (mm_h hts mm_w1239) (fun _ h9 => h9) rfl dX11_paste_23 ?_
            refine lv_if_eq (tgt := 41) hx hb dX11_paste_26 (by decide) (fun c96 => ?_) (fun c96 => ?_)
            · have q97 := mm_eqI (lo := 0) (hi := 0) c96 h3 mm_k0 (by decide)
              refine lv_bipush (v := (-6)) hx hb dX11_paste_41 (by decide) ?_
              subst hAe
              rw [hQ]
              exact W.iret (v := (-6)) hx hb hr (fun t ht hW => ⟨⟨(-6), (f_0, f_1, f_2, f_3), rfl, (mm_wk mm_km6 (by decide)), by rw [ht]; exact hP, hK.warm hW, hD⟩, hS.F ht⟩) hS.2.2 dX11_paste_43
            · have q98 := mm_neL (lo := 1) (mm_ne c96) h3 mm_k0 (by decide) (by decide)
              refine lv_aload_n hx hb dX11_paste_29 rfl (lv_at hl 0 rfl) ?_
              refine va_get (D := G) (ci := 11) (v := .ref a_6) (C := RX11) (T := TX11) (N := 11) hx hb hts (mm_i inlX11) hown hK.1 hP 0 rfl rfl 5 (by decide) (mm_h hts mm_w32) (fun _ h9 => h9) rfl dX11_paste_30 ?_
              refine lv_iload_n hx hb dX11_paste_33 rfl (lv_at hl 3 rfl) ?_
              refine va_aldq hx hb hK.1 hP 1 6 rfl rfl (mm_in w9 (by decide)) dX11_paste_34 ?_
              have c99 := mm_cases4 w9
              rcases c99 with rfl | rfl | rfl | rfl
              · refine W.eq (g2 := F0 m 35 ls [.ref a_12]) rfl ?_
                refine va_get (D := G) (ci := 6) (v := .int i_5) (C := RX6) (T := TX6) (N := 4) hx hb hts (mm_i inlX6) hown hK.1 hP 2 rfl rfl 0 (by decide) (mm_h hts mm_w1239) (fun _ h9 => h9) rfl dX11_paste_35 ?_
                refine lv_if_ne (tgt := 44) hx hb dX11_paste_38 (by decide) (fun c100 => ?_) (fun c100 => ?_)
                · have q101 := mm_neL (lo := 1) (mm_ne c100) h0 mm_k0 (by decide) (by decide)
                  refine lv_aload_n hx hb dX11_paste_44 rfl (lv_at hl 0 rfl) ?_
                  refine va_get (D := G) (ci := 11) (v := .ref a_6) (C := RX11) (T := TX11) (N := 11) hx hb hts (mm_i inlX11) hown hK.1 hP 0 rfl rfl 5 (by decide) (mm_h hts mm_w32) (fun _ h9 => h9) rfl dX11_paste_45 ?_
                  refine lv_iload_n hx hb dX11_paste_48 rfl (lv_at hl 1 rfl) ?_
                  refine va_aldq hx hb hK.1 hP 1 6 rfl rfl (mm_in mm_k1 (by decide)) dX11_paste_49 ?_
                  refine W.eq (g2 := F0 m 50 ls [.ref a_13]) rfl ?_
                  refine va_get (D := G) (ci := 6) (v := .int i_9) (C := RX6) (T := TX6) (N := 4) hx hb hts (mm_i inlX6) hown hK.1 hP 4 rfl rfl 1 (by decide) (mm_h hts mm_w1710) (fun _ h9 => h9) rfl dX11_paste_50 ?_
                  refine lv_aload_n hx hb dX11_paste_53 rfl (lv_at hl 0 rfl) ?_
                  refine va_get (D := G) (ci := 11) (v := .ref a_6) (C := RX11) (T := TX11) (N := 11) hx hb hts (mm_i inlX11) hown hK.1 hP 0 rfl rfl 5 (by decide) (mm_h hts mm_w32) (fun _ h9 => h9) rfl dX11_paste_54 ?_
                  refine lv_iload_n hx hb dX11_paste_57 rfl (lv_at hl 3 rfl) ?_
                  refine va_aldq hx hb hK.1 hP 1 6 rfl rfl (mm_in mm_k0 (by decide)) dX11_paste_58 ?_
                  refine W.eq (g2 := F0 m 59 ls [.ref a_12, .int i_9]) rfl ?_
                  refine va_get (D := G) (ci := 6) (v := .int i_6) (C := RX6) (T := TX6) (N := 4) hx hb hts (mm_i inlX6) hown hK.1 hP 2 rfl rfl 1 (by decide) (mm_h hts mm_w1710) (fun _ h9 => h9) rfl dX11_paste_59 ?_
                  refine lv_icmp_eq (tgt := 68) hx hb dX11_paste_62 (by decide) (fun c102 => ?_) (fun c102 => ?_)
                  · refine lv_aload_n hx hb dX11_paste_68 rfl (lv_at hl 0 rfl) ?_
                    refine va_get (D := G) (ci := 11) (v := .ref a_6) (C := RX11) (T := TX11) (N := 11) hx hb hts (mm_i inlX11) hown hK.1 hP 0 rfl rfl 5 (by decide) (mm_h hts mm_w32) (fun _ h9 => h9) rfl dX11_paste_69 ?_
                    refine lv_iload_n hx hb dX11_paste_72 rfl (lv_at hl 1 rfl) ?_
                    refine va_aldq hx hb hK.1 hP 1 6 rfl rfl (mm_in mm_k1 (by decide)) dX11_paste_73 ?_
                    refine W.eq (g2 := F0 m 74 ls [.ref a_13]) rfl ?_
                    refine lv_iload_n hx hb dX11_paste_74 rfl (lv_at hl 2 rfl) ?_
                    refine lv_iload hx hb dX11_paste_75 (lv_at hl 5 rfl) ?_
                    refine mm_finir (va_runV (As := [.int i_1, .int i_4]) (rest := []) ⟨hx, hb, hml, hown, hts⟩ (K541_X6_reaches l G cy H.size a_13 i_1 i_4 i_8 i_9 i_10 a_17 h5) (cwV 2 hts (mm_gV mm_w1713 mm_w1714 mm_w1715 mm_w34 mm_w1716) rfl rfl rfl hd_X6_reaches ⟨by rw [hRf]; exact Nat.le_of_ble_eq_true rfl, by rw [hRl]; exact Nat.le_of_ble_eq_true rfl⟩) (mm_preV hK hZ hS hA hP hD [4] rfl rfl 4 rfl rfl rfl) rfl rfl hl.1 rfl (lv_room (Nat.le_of_ble_eq_true rfl)) dX11_paste_77 ⟨by rw [hRc]; exact Nat.le_of_ble_eq_true rfl, by rw [hRs]; exact Nat.le_of_ble_eq_true rfl⟩) hP hD hS hA [4] rfl (fun _ => rfl) ?_
                    clear hP hD hS
                    clear H locs
                    intro v103 _u H locs hw hP hD hS
                    rcases hw with ⟨rfl, w104⟩ | ⟨rfl, w105, w106, w107⟩
                    · refine lv_if_eq (tgt := 99) hx hb dX11_paste_80 (by decide) (fun c108 => ?_) (fun c108 => ?_)
                      · refine lv_bipush (v := (-7)) hx hb dX11_paste_99 (by decide) ?_
                        subst hAe
                        rw [hQ]
                        exact W.iret (v := (-7)) hx hb hr (fun t ht hW => ⟨⟨(-7), (f_0, f_1, f_2, f_3), rfl, (mm_wk mm_km7 (by decide)), by rw [ht]; exact hP, hK.warm hW, hD⟩, hS.F ht⟩) hS.2.2 dX11_paste_101
                      · have q109 := mm_neL (lo := 1) (mm_ne c108) mm_k0 mm_k0 (by decide) (by decide)
                        exact mm_no q109 (by decide)
                    · refine lv_if_eq (tgt := 99) hx hb dX11_paste_80 (by decide) (fun c110 => ?_) (fun c110 => ?_)
                      · exact mm_eqN c110.symm mm_k0 mm_k1 (by decide)
                      · refine lv_aload_n hx hb dX11_paste_83 rfl (lv_at hl 0 rfl) ?_
                        refine va_get (D := G) (ci := 11) (v := .ref a_6) (C := RX11) (T := TX11) (N := 11) hx hb hts (mm_i inlX11) hown hK.1 hP 0 rfl rfl 5 (by decide) (mm_h hts mm_w32) (fun _ h9 => h9) rfl dX11_paste_84 ?_
                        refine lv_iload_n hx hb dX11_paste_87 rfl (lv_at hl 3 rfl) ?_
                        refine va_aldq hx hb hK.1 hP 1 6 rfl rfl (mm_in mm_k0 (by decide)) dX11_paste_88 ?_
                        refine W.eq (g2 := F0 m 89 ls [.ref a_12]) rfl ?_
                        refine lv_iload hx hb dX11_paste_89 (lv_at hl 4 rfl) ?_
                        refine lv_iload hx hb dX11_paste_91 (lv_at hl 5 rfl) ?_
                        refine mm_finir (va_runV (As := [.int i_3, .int i_4]) (rest := []) ⟨hx, hb, hml, hown, hts⟩ (K542_X6_reaches l G cy H.size a_12 i_3 i_4 i_5 i_6 i_7 a_16 w106 h2) (cwV 2 hts (mm_gV mm_w1713 mm_w1714 mm_w1715 mm_w34 mm_w1716) rfl rfl rfl hd_X6_reaches ⟨by rw [hRf]; exact Nat.le_of_ble_eq_true rfl, by rw [hRl]; exact Nat.le_of_ble_eq_true rfl⟩) (mm_preV hK hZ hS hA hP hD [2] rfl rfl 2 rfl rfl rfl) rfl rfl hl.1 rfl (lv_room (Nat.le_of_ble_eq_true rfl)) dX11_paste_93 ⟨by rw [hRc]; exact Nat.le_of_ble_eq_true rfl, by rw [hRs]; exact Nat.le_of_ble_eq_true rfl⟩) hP hD hS hA [2] rfl (fun _ => rfl) ?_
                        clear hP hD hS
                        clear H locs
                        intro v111 _u H locs hw hP hD hS
                        rcases hw with ⟨rfl, w112⟩ | ⟨rfl, w113, w114⟩
                        · refine lv_if_ne (tgt := 102) hx hb dX11_paste_96 (by decide) (fun c115 => ?_) (fun c115 => ?_)
                          · have q116 := mm_neL (lo := 1) (mm_ne c115) mm_k0 mm_k0 (by decide) (by decide)
                            exact mm_no q116 (by decide)
                          · refine lv_bipush (v := (-7)) hx hb dX11_paste_99 (by decide) ?_
                            subst hAe
                            rw [hQ]
                            exact W.iret (v := (-7)) hx hb hr (fun t ht hW => ⟨⟨(-7), (f_0, f_1, f_2, f_3), rfl, (mm_wk mm_km7 (by decide)), by rw [ht]; exact hP, hK.warm hW, hD⟩, hS.F ht⟩) hS.2.2 dX11_paste_101
                        · refine lv_if_ne (tgt := 102) hx hb dX11_paste_96 (by decide) (fun c117 => ?_) (fun c117 => ?_)
                          · refine lv_aload_n hx hb dX11_paste_102 rfl (lv_at hl 0 rfl) ?_
                            refine va_get (D := G) (ci := 11) (v := .ref a_6) (C := RX11) (T := TX11) (N := 11) hx hb hts (mm_i inlX11) hown hK.1 hP 0 rfl rfl 5 (by decide) (mm_h hts mm_w32) (fun _ h9 => h9) rfl dX11_paste_103 ?_
                            refine lv_iload_n hx hb dX11_paste_106 rfl (lv_at hl 1 rfl) ?_
                            refine va_aldq hx hb hK.1 hP 1 6 rfl rfl (mm_in mm_k1 (by decide)) dX11_paste_107 ?_
                            refine W.eq (g2 := F0 m 108 ls [.ref a_13]) rfl ?_
                            refine va_get (D := G) (ci := 6) (v := .ref a_17) (C := RX6) (T := TX6) (N := 4) hx hb hts (mm_i inlX6) hown hK.1 hP 4 rfl rfl 3 (by decide) (mm_h hts mm_w1711) (fun _ h9 => h9) rfl dX11_paste_108 ?_
                            refine lv_iload_n hx hb dX11_paste_111 rfl (lv_at hl 2 rfl) ?_
                            refine lv_aload_n hx hb dX11_paste_112 rfl (lv_at hl 0 rfl) ?_
                            refine va_get (D := G) (ci := 11) (v := .ref a_6) (C := RX11) (T := TX11) (N := 11) hx hb hts (mm_i inlX11) hown hK.1 hP 0 rfl rfl 5 (by decide) (mm_h hts mm_w32) (fun _ h9 => h9) rfl dX11_paste_113 ?_
                            refine lv_iload_n hx hb dX11_paste_116 rfl (lv_at hl 3 rfl) ?_
                            refine va_aldq hx hb hK.1 hP 1 6 rfl rfl (mm_in mm_k0 (by decide)) dX11_paste_117 ?_
                            refine W.eq (g2 := F0 m 118 ls [.ref a_12, .int i_1, .ref a_17]) rfl ?_
                            refine va_get (D := G) (ci := 6) (v := .ref a_16) (C := RX6) (T := TX6) (N := 4) hx hb hts (mm_i inlX6) hown hK.1 hP 2 rfl rfl 3 (by decide) (mm_h hts mm_w1711) (fun _ h9 => h9) rfl dX11_paste_118 ?_
                            refine lv_iload hx hb dX11_paste_121 (lv_at hl 4 rfl) ?_
                            refine lv_iload hx hb dX11_paste_123 (lv_at hl 5 rfl) ?_
                            refine va_copyl hx hb (by rw [hml]; exact hl.1.symm) hown (mm_h hts mm_w1712) (mm_h hts mm_w388) (mm_h hts mm_w389) (mm_h hts mm_w390) hK.1 hP hD hS 5 3 2 2 rfl rfl rfl rfl rfl (mm_nn w105 (by decide)) (mm_nn w113 (by decide)) (mm_nn w106 (by decide)) (mm_cpR w107 w105 w106 h5 (by decide)) (mm_cpR w114 w113 w106 h2 (by decide)) (fun _ _ => rfl) (by rw [hRf]; exact Nat.le_of_ble_eq_true rfl) (by rw [hRl]; exact Nat.le_of_ble_eq_true rfl) dX11_paste_125 ?_
                            clear hP hD hS
                            clear H locs
                            obtain ⟨g118, eg118⟩ : ∃ z : Nat → Int64, z = va_cpy f_1 f_0 i_1.toNatClampNeg i_3.toNatClampNeg i_4.toNatClampNeg := ⟨_, rfl⟩
                            rw [← eg118]
                            intro H locs (hP : va_P G vwCl [(a_0, .inr (11, [.ref a_1, .ref a_2, .ref a_3, .ref a_4, .ref a_5, .ref a_6, .ref a_7, .ref a_8, .ref a_9, .ref a_10, .ref a_11])), (a_6, .inl (cy 6, 4, .inr (.inr (.inr (.inr (va_up (va_up (va_up (va_up (fun _ => none) 0 (some a_12)) 1 (some a_13)) 2 (some a_14)) 3 (some a_15))))))), (a_12, .inr (6, [.int i_5, .int i_6, .int i_7, .ref a_16])), (a_16, .inl (cy 2, 60, .inr (.inl g118))), (a_13, .inr (6, [.int i_8, .int i_9, .int i_10, .ref a_17])), (a_17, .inl (cy 2, 60, .inr (.inl f_1))), (a_14, .inr (6, [.int i_11, .int i_12, .int i_13, .ref a_18])), (a_18, .inl (cy 2, 60, .inr (.inl f_2))), (a_15, .inr (6, [.int i_14, .int i_15, .int i_16, .ref a_19])), (a_19, .inl (cy 2, 60, .inr (.inl f_3)))] H) (hD : va_D A [(a_0, .inr (11, [.ref a_1, .ref a_2, .ref a_3, .ref a_4, .ref a_5, .ref a_6, .ref a_7, .ref a_8, .ref a_9, .ref a_10, .ref a_11])), (a_6, .inl (cy 6, 4, .inr (.inr (.inr (.inr (va_up (va_up (va_up (va_up (fun _ => none) 0 (some a_12)) 1 (some a_13)) 2 (some a_14)) 3 (some a_15))))))), (a_12, .inr (6, [.int i_5, .int i_6, .int i_7, .ref a_16])), (a_16, .inl (cy 2, 60, .inr (.inl g118))), (a_13, .inr (6, [.int i_8, .int i_9, .int i_10, .ref a_17])), (a_17, .inl (cy 2, 60, .inr (.inl f_1))), (a_14, .inr (6, [.int i_11, .int i_12, .int i_13, .ref a_18])), (a_18, .inl (cy 2, 60, .inr (.inl f_2))), (a_15, .inr (6, [.int i_14, .int i_15, .int i_16, .ref a_19])), (a_19, .inl (cy 2, 60, .inr (.inl f_3)))]) hS
                            refine lv_iconst (v := 0) hx hb dX11_paste_128 (by decide) ?_
                            subst hAe
                            rw [hQ]
                            exact W.iret (v := 0) hx hb hr (fun t ht hW => ⟨⟨0, (g118, f_1, f_2, f_3), rfl, (mm_wk mm_k0 (by decide)), by rw [ht]; exact hP, hK.warm hW, hD⟩, hS.F ht⟩) hS.2.2 dX11_paste_129
                          · exact mm_eqN c117.symm mm_k0 mm_k1 (by decide)
                  · refine lv_bipush (v := (-8)) hx hb dX11_paste_65 (by decide) ?_
                    subst hAe
                    rw [hQ]
                    exact W.iret (v := (-8)) hx hb hr (fun t ht hW => ⟨⟨(-8), (f_0, f_1, f_2, f_3), rfl, (mm_wk mm_km8 (by decide)), by rw [ht]; exact hP, hK.warm hW, hD⟩, hS.F ht⟩) hS.2.2 dX11_paste_67
                · have q119 := mm_eqI (lo := 0) (hi := 0) c100 h0 mm_k0 (by decide)
                  refine lv_bipush (v := (-6)) hx hb dX11_paste_41 (by decide) ?_
                  subst hAe
                  rw [hQ]
                  exact W.iret (v := (-6)) hx hb hr (fun t ht hW => ⟨⟨(-6), (f_0, f_1, f_2, f_3), rfl, (mm_wk mm_km6 (by decide)), by rw [ht]; exact hP, hK.warm hW, hD⟩, hS.F ht⟩) hS.2.2 dX11_paste_43
              · refine W.eq (g2 := F0 m 35 ls [.ref a_13]) rfl ?_
                refine va_get (D := G) (ci := 6) (v := .int i_8) (C := RX6) (T := TX6) (N := 4) hx hb hts (mm_i inlX6) hown hK.1 hP 4 rfl rfl 0 (by decide) (mm_h hts mm_w1239) (fun _ h9 => h9) rfl dX11_paste_35 ?_
                refine lv_if_ne (tgt := 44) hx hb dX11_paste_38 (by decide) (fun c120 => ?_) (fun c120 => ?_)
                · refine lv_aload_n hx hb dX11_paste_44 rfl (lv_at hl 0 rfl) ?_
                  refine va_get (D := G) (ci := 11) (v := .ref a_6) (C := RX11) (T := TX11) (N := 11) hx hb hts (mm_i inlX11) hown hK.1 hP 0 rfl rfl 5 (by decide) (mm_h hts mm_w32) (fun _ h9 => h9) rfl dX11_paste_45 ?_
                  refine lv_iload_n hx hb dX11_paste_48 rfl (lv_at hl 1 rfl) ?_
                  refine va_aldq hx hb hK.1 hP 1 6 rfl rfl (mm_in mm_k1 (by decide)) dX11_paste_49 ?_
                  refine W.eq (g2 := F0 m 50 ls [.ref a_13]) rfl ?_
                  refine va_get (D := G) (ci := 6) (v := .int i_9) (C := RX6) (T := TX6) (N := 4) hx hb hts (mm_i inlX6) hown hK.1 hP 4 rfl rfl 1 (by decide) (mm_h hts mm_w1710) (fun _ h9 => h9) rfl dX11_paste_50 ?_
                  refine lv_aload_n hx hb dX11_paste_53 rfl (lv_at hl 0 rfl) ?_
                  refine va_get (D := G) (ci := 11) (v := .ref a_6) (C := RX11) (T := TX11) (N := 11) hx hb hts (mm_i inlX11) hown hK.1 hP 0 rfl rfl 5 (by decide) (mm_h hts mm_w32) (fun _ h9 => h9) rfl dX11_paste_54 ?_
                  refine lv_iload_n hx hb dX11_paste_57 rfl (lv_at hl 3 rfl) ?_
                  refine va_aldq hx hb hK.1 hP 1 6 rfl rfl (mm_in mm_k1 (by decide)) dX11_paste_58 ?_
                  refine W.eq (g2 := F0 m 59 ls [.ref a_13, .int i_9]) rfl ?_
                  refine va_get (D := G) (ci := 6) (v := .int i_9) (C := RX6) (T := TX6) (N := 4) hx hb hts (mm_i inlX6) hown hK.1 hP 4 rfl rfl 1 (by decide) (mm_h hts mm_w1710) (fun _ h9 => h9) rfl dX11_paste_59 ?_
                  refine lv_icmp_eq (tgt := 68) hx hb dX11_paste_62 (by decide) (fun c121 => ?_) (fun c121 => ?_)
                  · refine lv_aload_n hx hb dX11_paste_68 rfl (lv_at hl 0 rfl) ?_
                    refine va_get (D := G) (ci := 11) (v := .ref a_6) (C := RX11) (T := TX11) (N := 11) hx hb hts (mm_i inlX11) hown hK.1 hP 0 rfl rfl 5 (by decide) (mm_h hts mm_w32) (fun _ h9 => h9) rfl dX11_paste_69 ?_
                    refine lv_iload_n hx hb dX11_paste_72 rfl (lv_at hl 1 rfl) ?_
                    refine va_aldq hx hb hK.1 hP 1 6 rfl rfl (mm_in mm_k1 (by decide)) dX11_paste_73 ?_
                    refine W.eq (g2 := F0 m 74 ls [.ref a_13]) rfl ?_
                    refine lv_iload_n hx hb dX11_paste_74 rfl (lv_at hl 2 rfl) ?_
                    refine lv_iload hx hb dX11_paste_75 (lv_at hl 5 rfl) ?_
                    refine mm_finir (va_runV (As := [.int i_1, .int i_4]) (rest := []) ⟨hx, hb, hml, hown, hts⟩ (K541_X6_reaches l G cy H.size a_13 i_1 i_4 i_8 i_9 i_10 a_17 h5) (cwV 2 hts (mm_gV mm_w1713 mm_w1714 mm_w1715 mm_w34 mm_w1716) rfl rfl rfl hd_X6_reaches ⟨by rw [hRf]; exact Nat.le_of_ble_eq_true rfl, by rw [hRl]; exact Nat.le_of_ble_eq_true rfl⟩) (mm_preV hK hZ hS hA hP hD [4] rfl rfl 4 rfl rfl rfl) rfl rfl hl.1 rfl (lv_room (Nat.le_of_ble_eq_true rfl)) dX11_paste_77 ⟨by rw [hRc]; exact Nat.le_of_ble_eq_true rfl, by rw [hRs]; exact Nat.le_of_ble_eq_true rfl⟩) hP hD hS hA [4] rfl (fun _ => rfl) ?_
                    clear hP hD hS
                    clear H locs
                    intro v122 _u H locs hw hP hD hS
                    rcases hw with ⟨rfl, w123⟩ | ⟨rfl, w124, w125, w126⟩
                    · refine lv_if_eq (tgt := 99) hx hb dX11_paste_80 (by decide) (fun c127 => ?_) (fun c127 => ?_)
                      · refine lv_bipush (v := (-7)) hx hb dX11_paste_99 (by decide) ?_
                        subst hAe
                        rw [hQ]
                        exact W.iret (v := (-7)) hx hb hr (fun t ht hW => ⟨⟨(-7), (f_0, f_1, f_2, f_3), rfl, (mm_wk mm_km7 (by decide)), by rw [ht]; exact hP, hK.warm hW, hD⟩, hS.F ht⟩) hS.2.2 dX11_paste_101
                      · have q128 := mm_neL (lo := 1) (mm_ne c127) mm_k0 mm_k0 (by decide) (by decide)
                        exact mm_no q128 (by decide)
                    · refine lv_if_eq (tgt := 99) hx hb dX11_paste_80 (by decide) (fun c129 => ?_) (fun c129 => ?_)
                      · exact mm_eqN c129.symm mm_k0 mm_k1 (by decide)
                      · refine lv_aload_n hx hb dX11_paste_83 rfl (lv_at hl 0 rfl) ?_
                        refine va_get (D := G) (ci := 11) (v := .ref a_6) (C := RX11) (T := TX11) (N := 11) hx hb hts (mm_i inlX11) hown hK.1 hP 0 rfl rfl 5 (by decide) (mm_h hts mm_w32) (fun _ h9 => h9) rfl dX11_paste_84 ?_
                        refine lv_iload_n hx hb dX11_paste_87 rfl (lv_at hl 3 rfl) ?_
                        refine va_aldq hx hb hK.1 hP 1 6 rfl rfl (mm_in mm_k1 (by decide)) dX11_paste_88 ?_
                        refine W.eq (g2 := F0 m 89 ls [.ref a_13]) rfl ?_
                        refine lv_iload hx hb dX11_paste_89 (lv_at hl 4 rfl) ?_
                        refine lv_iload hx hb dX11_paste_91 (lv_at hl 5 rfl) ?_
                        refine mm_finir (va_runV (As := [.int i_3, .int i_4]) (rest := []) ⟨hx, hb, hml, hown, hts⟩ (K542_X6_reaches l G cy H.size a_13 i_3 i_4 i_8 i_9 i_10 a_17 w125 h5) (cwV 2 hts (mm_gV mm_w1713 mm_w1714 mm_w1715 mm_w34 mm_w1716) rfl rfl rfl hd_X6_reaches ⟨by rw [hRf]; exact Nat.le_of_ble_eq_true rfl, by rw [hRl]; exact Nat.le_of_ble_eq_true rfl⟩) (mm_preV hK hZ hS hA hP hD [4] rfl rfl 4 rfl rfl rfl) rfl rfl hl.1 rfl (lv_room (Nat.le_of_ble_eq_true rfl)) dX11_paste_93 ⟨by rw [hRc]; exact Nat.le_of_ble_eq_true rfl, by rw [hRs]; exact Nat.le_of_ble_eq_true rfl⟩) hP hD hS hA [4] rfl (fun _ => rfl) ?_
                        clear hP hD hS
                        clear H locs
                        intro v130 _u H locs hw hP hD hS
                        rcases hw with ⟨rfl, w131⟩ | ⟨rfl, w132, w133⟩
                        · refine lv_if_ne (tgt := 102) hx hb dX11_paste_96 (by decide) (fun c134 => ?_) (fun c134 => ?_)
                          · have q135 := mm_neL (lo := 1) (mm_ne c134) mm_k0 mm_k0 (by decide) (by decide)
                            exact mm_no q135 (by decide)
                          · refine lv_bipush (v := (-7)) hx hb dX11_paste_99 (by decide) ?_
                            subst hAe
                            rw [hQ]
                            exact W.iret (v := (-7)) hx hb hr (fun t ht hW => ⟨⟨(-7), (f_0, f_1, f_2, f_3), rfl, (mm_wk mm_km7 (by decide)), by rw [ht]; exact hP, hK.warm hW, hD⟩, hS.F ht⟩) hS.2.2 dX11_paste_101
                        · refine lv_if_ne (tgt := 102) hx hb dX11_paste_96 (by decide) (fun c136 => ?_) (fun c136 => ?_)
                          · refine lv_aload_n hx hb dX11_paste_102 rfl (lv_at hl 0 rfl) ?_
                            refine va_get (D := G) (ci := 11) (v := .ref a_6) (C := RX11) (T := TX11) (N := 11) hx hb hts (mm_i inlX11) hown hK.1 hP 0 rfl rfl 5 (by decide) (mm_h hts mm_w32) (fun _ h9 => h9) rfl dX11_paste_103 ?_
                            refine lv_iload_n hx hb dX11_paste_106 rfl (lv_at hl 1 rfl) ?_
                            refine va_aldq hx hb hK.1 hP 1 6 rfl rfl (mm_in mm_k1 (by decide)) dX11_paste_107 ?_
                            refine W.eq (g2 := F0 m 108 ls [.ref a_13]) rfl ?_
                            refine va_get (D := G) (ci := 6) (v := .ref a_17) (C := RX6) (T := TX6) (N := 4) hx hb hts (mm_i inlX6) hown hK.1 hP 4 rfl rfl 3 (by decide) (mm_h hts mm_w1711) (fun _ h9 => h9) rfl dX11_paste_108 ?_
                            refine lv_iload_n hx hb dX11_paste_111 rfl (lv_at hl 2 rfl) ?_
                            refine lv_aload_n hx hb dX11_paste_112 rfl (lv_at hl 0 rfl) ?_
                            refine va_get (D := G) (ci := 11) (v := .ref a_6) (C := RX11) (T := TX11) (N := 11) hx hb hts (mm_i inlX11) hown hK.1 hP 0 rfl rfl 5 (by decide) (mm_h hts mm_w32) (fun _ h9 => h9) rfl dX11_paste_113 ?_
                            refine lv_iload_n hx hb dX11_paste_116 rfl (lv_at hl 3 rfl) ?_
                            refine va_aldq hx hb hK.1 hP 1 6 rfl rfl (mm_in mm_k1 (by decide)) dX11_paste_117 ?_
                            refine W.eq (g2 := F0 m 118 ls [.ref a_13, .int i_1, .ref a_17]) rfl ?_
                            refine va_get (D := G) (ci := 6) (v := .ref a_17) (C := RX6) (T := TX6) (N := 4) hx hb hts (mm_i inlX6) hown hK.1 hP 4 rfl rfl 3 (by decide) (mm_h hts mm_w1711) (fun _ h9 => h9) rfl dX11_paste_118 ?_
                            refine lv_iload hx hb dX11_paste_121 (lv_at hl 4 rfl) ?_
                            refine lv_iload hx hb dX11_paste_123 (lv_at hl 5 rfl) ?_
                            refine va_copyl hx hb (by rw [hml]; exact hl.1.symm) hown (mm_h hts mm_w1712) (mm_h hts mm_w388) (mm_h hts mm_w389) (mm_h hts mm_w390) hK.1 hP hD hS 5 5 2 2 rfl rfl rfl rfl rfl (mm_nn w124 (by decide)) (mm_nn w132 (by decide)) (mm_nn w125 (by decide)) (mm_cpR w126 w124 w125 h5 (by decide)) (mm_cpR w133 w132 w125 h5 (by decide)) (fun _ _ => rfl) (by rw [hRf]; exact Nat.le_of_ble_eq_true rfl) (by rw [hRl]; exact Nat.le_of_ble_eq_true rfl) dX11_paste_125 ?_
                            clear hP hD hS
                            clear H locs
                            obtain ⟨g137, eg137⟩ : ∃ z : Nat → Int64, z = va_cpy f_1 f_1 i_1.toNatClampNeg i_3.toNatClampNeg i_4.toNatClampNeg := ⟨_, rfl⟩
                            rw [← eg137]
                            intro H locs (hP : va_P G vwCl [(a_0, .inr (11, [.ref a_1, .ref a_2, .ref a_3, .ref a_4, .ref a_5, .ref a_6, .ref a_7, .ref a_8, .ref a_9, .ref a_10, .ref a_11])), (a_6, .inl (cy 6, 4, .inr (.inr (.inr (.inr (va_up (va_up (va_up (va_up (fun _ => none) 0 (some a_12)) 1 (some a_13)) 2 (some a_14)) 3 (some a_15))))))), (a_12, .inr (6, [.int i_5, .int i_6, .int i_7, .ref a_16])), (a_16, .inl (cy 2, 60, .inr (.inl f_0))), (a_13, .inr (6, [.int i_8, .int i_9, .int i_10, .ref a_17])), (a_17, .inl (cy 2, 60, .inr (.inl g137))), (a_14, .inr (6, [.int i_11, .int i_12, .int i_13, .ref a_18])), (a_18, .inl (cy 2, 60, .inr (.inl f_2))), (a_15, .inr (6, [.int i_14, .int i_15, .int i_16, .ref a_19])), (a_19, .inl (cy 2, 60, .inr (.inl f_3)))] H) (hD : va_D A [(a_0, .inr (11, [.ref a_1, .ref a_2, .ref a_3, .ref a_4, .ref a_5, .ref a_6, .ref a_7, .ref a_8, .ref a_9, .ref a_10, .ref a_11])), (a_6, .inl (cy 6, 4, .inr (.inr (.inr (.inr (va_up (va_up (va_up (va_up (fun _ => none) 0 (some a_12)) 1 (some a_13)) 2 (some a_14)) 3 (some a_15))))))), (a_12, .inr (6, [.int i_5, .int i_6, .int i_7, .ref a_16])), (a_16, .inl (cy 2, 60, .inr (.inl f_0))), (a_13, .inr (6, [.int i_8, .int i_9, .int i_10, .ref a_17])), (a_17, .inl (cy 2, 60, .inr (.inl g137))), (a_14, .inr (6, [.int i_11, .int i_12, .int i_13, .ref a_18])), (a_18, .inl (cy 2, 60, .inr (.inl f_2))), (a_15, .inr (6, [.int i_14, .int i_15, .int i_16, .ref a_19])), (a_19, .inl (cy 2, 60, .inr (.inl f_3)))]) hS
                            refine lv_iconst (v := 0) hx hb dX11_paste_128 (by decide) ?_
                            subst hAe
                            rw [hQ]
                            exact W.iret (v := 0) hx hb hr (fun t ht hW => ⟨⟨0, (f_0, g137, f_2, f_3), rfl, (mm_wk mm_k0 (by decide)), by rw [ht]; exact hP, hK.warm hW, hD⟩, hS.F ht⟩) hS.2.2 dX11_paste_129
                          · exact mm_eqN c136.symm mm_k0 mm_k1 (by decide)
                  · refine lv_bipush (v := (-8)) hx hb dX11_paste_65 (by decide) ?_
                    subst hAe
                    rw [hQ]
                    exact W.iret (v := (-8)) hx hb hr (fun t ht hW => ⟨⟨(-8), (f_0, f_1, f_2, f_3), rfl, (mm_wk mm_km8 (by decide)), by rw [ht]; exact hP, hK.warm hW, hD⟩, hS.F ht⟩) hS.2.2 dX11_paste_67
                · exact mm_eqN c120.symm mm_k0 q98 (by decide)
              · refine W.eq (g2 := F0 m 35 ls [.ref a_14]) rfl ?_
                refine va_get (D := G) (ci := 6) (v := .int i_11) (C := RX6) (T := TX6) (N := 4) hx hb hts (mm_i inlX6) hown hK.1 hP 6 rfl rfl 0 (by decide) (mm_h hts mm_w1239) (fun _ h9 => h9) rfl dX11_paste_35 ?_
                refine lv_if_ne (tgt := 44) hx hb dX11_paste_38 (by decide) (fun c138 => ?_) (fun c138 => ?_)
                · have q139 := mm_neL (lo := 1) (mm_ne c138) h6 mm_k0 (by decide) (by decide)
                  refine lv_aload_n hx hb dX11_paste_44 rfl (lv_at hl 0 rfl) ?_
                  refine va_get (D := G) (ci := 11) (v := .ref a_6) (C := RX11) (T := TX11) (N := 11) hx hb hts (mm_i inlX11) hown hK.1 hP 0 rfl rfl 5 (by decide) (mm_h hts mm_w32) (fun _ h9 => h9) rfl dX11_paste_45 ?_
                  refine lv_iload_n hx hb dX11_paste_48 rfl (lv_at hl 1 rfl) ?_
                  refine va_aldq hx hb hK.1 hP 1 6 rfl rfl (mm_in mm_k1 (by decide)) dX11_paste_49 ?_
                  refine W.eq (g2 := F0 m 50 ls [.ref a_13]) rfl ?_
                  refine va_get (D := G) (ci := 6) (v := .int i_9) (C := RX6) (T := TX6) (N := 4) hx hb hts (mm_i inlX6) hown hK.1 hP 4 rfl rfl 1 (by decide) (mm_h hts mm_w1710) (fun _ h9 => h9) rfl dX11_paste_50 ?_
                  refine lv_aload_n hx hb dX11_paste_53 rfl (lv_at hl 0 rfl) ?_
                  refine va_get (D := G) (ci := 11) (v := .ref a_6) (C := RX11) (T := TX11) (N := 11) hx hb hts (mm_i inlX11) hown hK.1 hP 0 rfl rfl 5 (by decide) (mm_h hts mm_w32) (fun _ h9 => h9) rfl dX11_paste_54 ?_
                  refine lv_iload_n hx hb dX11_paste_57 rfl (lv_at hl 3 rfl) ?_
                  refine va_aldq hx hb hK.1 hP 1 6 rfl rfl (mm_in mm_k2 (by decide)) dX11_paste_58 ?_
                  refine W.eq (g2 := F0 m 59 ls [.ref a_14, .int i_9]) rfl ?_
                  refine va_get (D := G) (ci := 6) (v := .int i_12) (C := RX6) (T := TX6) (N := 4) hx hb hts (mm_i inlX6) hown hK.1 hP 6 rfl rfl 1 (by decide) (mm_h hts mm_w1710) (fun _ h9 => h9) rfl dX11_paste_59 ?_
                  refine lv_icmp_eq (tgt := 68) hx hb dX11_paste_62 (by decide) (fun c140 => ?_) (fun c140 => ?_)
                  · refine lv_aload_n hx hb dX11_paste_68 rfl (lv_at hl 0 rfl) ?_
                    refine va_get (D := G) (ci := 11) (v := .ref a_6) (C := RX11) (T := TX11) (N := 11) hx hb hts (mm_i inlX11) hown hK.1 hP 0 rfl rfl 5 (by decide) (mm_h hts mm_w32) (fun _ h9 => h9) rfl dX11_paste_69 ?_
                    refine lv_iload_n hx hb dX11_paste_72 rfl (lv_at hl 1 rfl) ?_
                    refine va_aldq hx hb hK.1 hP 1 6 rfl rfl (mm_in mm_k1 (by decide)) dX11_paste_73 ?_
                    refine W.eq (g2 := F0 m 74 ls [.ref a_13]) rfl ?_
                    refine lv_iload_n hx hb dX11_paste_74 rfl (lv_at hl 2 rfl) ?_
                    refine lv_iload hx hb dX11_paste_75 (lv_at hl 5 rfl) ?_
                    refine mm_finir (va_runV (As := [.int i_1, .int i_4]) (rest := []) ⟨hx, hb, hml, hown, hts⟩ (K541_X6_reaches l G cy H.size a_13 i_1 i_4 i_8 i_9 i_10 a_17 h5) (cwV 2 hts (mm_gV mm_w1713 mm_w1714 mm_w1715 mm_w34 mm_w1716) rfl rfl rfl hd_X6_reaches ⟨by rw [hRf]; exact Nat.le_of_ble_eq_true rfl, by rw [hRl]; exact Nat.le_of_ble_eq_true rfl⟩) (mm_preV hK hZ hS hA hP hD [4] rfl rfl 4 rfl rfl rfl) rfl rfl hl.1 rfl (lv_room (Nat.le_of_ble_eq_true rfl)) dX11_paste_77 ⟨by rw [hRc]; exact Nat.le_of_ble_eq_true rfl, by rw [hRs]; exact Nat.le_of_ble_eq_true rfl⟩) hP hD hS hA [4] rfl (fun _ => rfl) ?_
                    clear hP hD hS
                    clear H locs
                    intro v141 _u H locs hw hP hD hS
                    rcases hw with ⟨rfl, w142⟩ | ⟨rfl, w143, w144, w145⟩
                    · refine lv_if_eq (tgt := 99) hx hb dX11_paste_80 (by decide) (fun c146 => ?_) (fun c146 => ?_)
                      · refine lv_bipush (v := (-7)) hx hb dX11_paste_99 (by decide) ?_
                        subst hAe
                        rw [hQ]
                        exact W.iret (v := (-7)) hx hb hr (fun t ht hW => ⟨⟨(-7), (f_0, f_1, f_2, f_3), rfl, (mm_wk mm_km7 (by decide)), by rw [ht]; exact hP, hK.warm hW, hD⟩, hS.F ht⟩) hS.2.2 dX11_paste_101
                      · have q147 := mm_neL (lo := 1) (mm_ne c146) mm_k0 mm_k0 (by decide) (by decide)
                        exact mm_no q147 (by decide)
                    · refine lv_if_eq (tgt := 99) hx hb dX11_paste_80 (by decide) (fun c148 => ?_) (fun c148 => ?_)
                      · exact mm_eqN c148.symm mm_k0 mm_k1 (by decide)
                      · refine lv_aload_n hx hb dX11_paste_83 rfl (lv_at hl 0 rfl) ?_
                        refine va_get (D := G) (ci := 11) (v := .ref a_6) (C := RX11) (T := TX11) (N := 11) hx hb hts (mm_i inlX11) hown hK.1 hP 0 rfl rfl 5 (by decide) (mm_h hts mm_w32) (fun _ h9 => h9) rfl dX11_paste_84 ?_
                        refine lv_iload_n hx hb dX11_paste_87 rfl (lv_at hl 3 rfl) ?_
                        refine va_aldq hx hb hK.1 hP 1 6 rfl rfl (mm_in mm_k2 (by decide)) dX11_paste_88 ?_
                        refine W.eq (g2 := F0 m 89 ls [.ref a_14]) rfl ?_
                        refine lv_iload hx hb dX11_paste_89 (lv_at hl 4 rfl) ?_
                        refine lv_iload hx hb dX11_paste_91 (lv_at hl 5 rfl) ?_
                        refine mm_finir (va_runV (As := [.int i_3, .int i_4]) (rest := []) ⟨hx, hb, hml, hown, hts⟩ (K542_X6_reaches l G cy H.size a_14 i_3 i_4 i_11 i_12 i_13 a_18 w144 h8) (cwV 2 hts (mm_gV mm_w1713 mm_w1714 mm_w1715 mm_w34 mm_w1716) rfl rfl rfl hd_X6_reaches ⟨by rw [hRf]; exact Nat.le_of_ble_eq_true rfl, by rw [hRl]; exact Nat.le_of_ble_eq_true rfl⟩) (mm_preV hK hZ hS hA hP hD [6] rfl rfl 6 rfl rfl rfl) rfl rfl hl.1 rfl (lv_room (Nat.le_of_ble_eq_true rfl)) dX11_paste_93 ⟨by rw [hRc]; exact Nat.le_of_ble_eq_true rfl, by rw [hRs]; exact Nat.le_of_ble_eq_true rfl⟩) hP hD hS hA [6] rfl (fun _ => rfl) ?_
                        clear hP hD hS
                        clear H locs
                        intro v149 _u H locs hw hP hD hS
                        rcases hw with ⟨rfl, w150⟩ | ⟨rfl, w151, w152⟩
                        · refine lv_if_ne (tgt := 102) hx hb dX11_paste_96 (by decide) (fun c153 => ?_) (fun c153 => ?_)
                          · have q154 := mm_neL (lo := 1) (mm_ne c153) mm_k0 mm_k0 (by decide) (by decide)
                            exact mm_no q154 (by decide)
                          · refine lv_bipush (v := (-7)) hx hb dX11_paste_99 (by decide) ?_
                            subst hAe
                            rw [hQ]
                            exact W.iret (v := (-7)) hx hb hr (fun t ht hW => ⟨⟨(-7), (f_0, f_1, f_2, f_3), rfl, (mm_wk mm_km7 (by decide)), by rw [ht]; exact hP, hK.warm hW, hD⟩, hS.F ht⟩) hS.2.2 dX11_paste_101
                        · refine lv_if_ne (tgt := 102) hx hb dX11_paste_96 (by decide) (fun c155 => ?_) (fun c155 => ?_)
                          · refine lv_aload_n hx hb dX11_paste_102 rfl (lv_at hl 0 rfl) ?_
                            refine va_get (D := G) (ci := 11) (v := .ref a_6) (C := RX11) (T := TX11) (N := 11) hx hb hts (mm_i inlX11) hown hK.1 hP 0 rfl rfl 5 (by decide) (mm_h hts mm_w32) (fun _ h9 => h9) rfl dX11_paste_103 ?_
                            refine lv_iload_n hx hb dX11_paste_106 rfl (lv_at hl 1 rfl) ?_
                            refine va_aldq hx hb hK.1 hP 1 6 rfl rfl (mm_in mm_k1 (by decide)) dX11_paste_107 ?_
                            refine W.eq (g2 := F0 m 108 ls [.ref a_13]) rfl ?_
                            refine va_get (D := G) (ci := 6) (v := .ref a_17) (C := RX6) (T := TX6) (N := 4) hx hb hts (mm_i inlX6) hown hK.1 hP 4 rfl rfl 3 (by decide) (mm_h hts mm_w1711) (fun _ h9 => h9) rfl dX11_paste_108 ?_
                            refine lv_iload_n hx hb dX11_paste_111 rfl (lv_at hl 2 rfl) ?_
                            refine lv_aload_n hx hb dX11_paste_112 rfl (lv_at hl 0 rfl) ?_
                            refine va_get (D := G) (ci := 11) (v := .ref a_6) (C := RX11) (T := TX11) (N := 11) hx hb hts (mm_i inlX11) hown hK.1 hP 0 rfl rfl 5 (by decide) (mm_h hts mm_w32) (fun _ h9 => h9) rfl dX11_paste_113 ?_
                            refine lv_iload_n hx hb dX11_paste_116 rfl (lv_at hl 3 rfl) ?_
                            refine va_aldq hx hb hK.1 hP 1 6 rfl rfl (mm_in mm_k2 (by decide)) dX11_paste_117 ?_
                            refine W.eq (g2 := F0 m 118 ls [.ref a_14, .int i_1, .ref a_17]) rfl ?_
                            refine va_get (D := G) (ci := 6) (v := .ref a_18) (C := RX6) (T := TX6) (N := 4) hx hb hts (mm_i inlX6) hown hK.1 hP 6 rfl rfl 3 (by decide) (mm_h hts mm_w1711) (fun _ h9 => h9) rfl dX11_paste_118 ?_
                            refine lv_iload hx hb dX11_paste_121 (lv_at hl 4 rfl) ?_
                            refine lv_iload hx hb dX11_paste_123 (lv_at hl 5 rfl) ?_
                            refine va_copyl hx hb (by rw [hml]; exact hl.1.symm) hown (mm_h hts mm_w1712) (mm_h hts mm_w388) (mm_h hts mm_w389) (mm_h hts mm_w390) hK.1 hP hD hS 5 7 2 2 rfl rfl rfl rfl rfl (mm_nn w143 (by decide)) (mm_nn w151 (by decide)) (mm_nn w144 (by decide)) (mm_cpR w145 w143 w144 h5 (by decide)) (mm_cpR w152 w151 w144 h8 (by decide)) (fun _ _ => rfl) (by rw [hRf]; exact Nat.le_of_ble_eq_true rfl) (by rw [hRl]; exact Nat.le_of_ble_eq_true rfl) dX11_paste_125 ?_
                            clear hP hD hS
                            clear H locs
                            obtain ⟨g156, eg156⟩ : ∃ z : Nat → Int64, z = va_cpy f_1 f_2 i_1.toNatClampNeg i_3.toNatClampNeg i_4.toNatClampNeg := ⟨_, rfl⟩
                            rw [← eg156]
                            intro H locs (hP : va_P G vwCl [(a_0, .inr (11, [.ref a_1, .ref a_2, .ref a_3, .ref a_4, .ref a_5, .ref a_6, .ref a_7, .ref a_8, .ref a_9, .ref a_10, .ref a_11])), (a_6, .inl (cy 6, 4, .inr (.inr (.inr (.inr (va_up (va_up (va_up (va_up (fun _ => none) 0 (some a_12)) 1 (some a_13)) 2 (some a_14)) 3 (some a_15))))))), (a_12, .inr (6, [.int i_5, .int i_6, .int i_7, .ref a_16])), (a_16, .inl (cy 2, 60, .inr (.inl f_0))), (a_13, .inr (6, [.int i_8, .int i_9, .int i_10, .ref a_17])), (a_17, .inl (cy 2, 60, .inr (.inl f_1))), (a_14, .inr (6, [.int i_11, .int i_12, .int i_13, .ref a_18])), (a_18, .inl (cy 2, 60, .inr (.inl g156))), (a_15, .inr (6, [.int i_14, .int i_15, .int i_16, .ref a_19])), (a_19, .inl (cy 2, 60, .inr (.inl f_3)))] H) (hD : va_D A [(a_0, .inr (11, [.ref a_1, .ref a_2, .ref a_3, .ref a_4, .ref a_5, .ref a_6, .ref a_7, .ref a_8, .ref a_9, .ref a_10, .ref a_11])), (a_6, .inl (cy 6, 4, .inr (.inr (.inr (.inr (va_up (va_up (va_up (va_up (fun _ => none) 0 (some a_12)) 1 (some a_13)) 2 (some a_14)) 3 (some a_15))))))), (a_12, .inr (6, [.int i_5, .int i_6, .int i_7, .ref a_16])), (a_16, .inl (cy 2, 60, .inr (.inl f_0))), (a_13, .inr (6, [.int i_8, .int i_9, .int i_10, .ref a_17])), (a_17, .inl (cy 2, 60, .inr (.inl f_1))), (a_14, .inr (6, [.int i_11, .int i_12, .int i_13, .ref a_18])), (a_18, .inl (cy 2, 60, .inr (.inl g156))), (a_15, .inr (6, [.int i_14, .int i_15, .int i_16, .ref a_19])), (a_19, .inl (cy 2, 60, .inr (.inl f_3)))]) hS
                            refine lv_iconst (v := 0) hx hb dX11_paste_128 (by decide) ?_
                            subst hAe
                            rw [hQ]
                            exact W.iret (v := 0) hx hb hr (fun t ht hW => ⟨⟨0, (f_0, f_1, g156, f_3), rfl, (mm_wk mm_k0 (by decide)), by rw [ht]; exact hP, hK.warm hW, hD⟩, hS.F ht⟩) hS.2.2 dX11_paste_129
                          · exact mm_eqN c155.symm mm_k0 mm_k1 (by decide)
                  · refine lv_bipush (v := (-8)) hx hb dX11_paste_65 (by decide) ?_
                    subst hAe
                    rw [hQ]
                    exact W.iret (v := (-8)) hx hb hr (fun t ht hW => ⟨⟨(-8), (f_0, f_1, f_2, f_3), rfl, (mm_wk mm_km8 (by decide)), by rw [ht]; exact hP, hK.warm hW, hD⟩, hS.F ht⟩) hS.2.2 dX11_paste_67
                · have q157 := mm_eqI (lo := 0) (hi := 0) c138 h6 mm_k0 (by decide)
                  refine lv_bipush (v := (-6)) hx hb dX11_paste_41 (by decide) ?_
                  subst hAe
                  rw [hQ]
                  exact W.iret (v := (-6)) hx hb hr (fun t ht hW => ⟨⟨(-6), (f_0, f_1, f_2, f_3), rfl, (mm_wk mm_km6 (by decide)), by rw [ht]; exact hP, hK.warm hW, hD⟩, hS.F ht⟩) hS.2.2 dX11_paste_43
              · refine W.eq (g2 := F0 m 35 ls [.ref a_15]) rfl ?_
                refine va_get (D := G) (ci := 6) (v := .int i_14) (C := RX6) (T := TX6) (N := 4) hx hb hts (mm_i inlX6) hown hK.1 hP 8 rfl rfl 0 (by decide) (mm_h hts mm_w1239) (fun _ h9 => h9) rfl dX11_paste_35 ?_
                refine lv_if_ne (tgt := 44) hx hb dX11_paste_38 (by decide) (fun c158 => ?_) (fun c158 => ?_)
                · have q159 := mm_neL (lo := 1) (mm_ne c158) h9 mm_k0 (by decide) (by decide)
                  refine lv_aload_n hx hb dX11_paste_44 rfl (lv_at hl 0 rfl) ?_
                  refine va_get (D := G) (ci := 11) (v := .ref a_6) (C := RX11) (T := TX11) (N := 11) hx hb hts (mm_i inlX11) hown hK.1 hP 0 rfl rfl 5 (by decide) (mm_h hts mm_w32) (fun _ h9 => h9) rfl dX11_paste_45 ?_
                  refine lv_iload_n hx hb dX11_paste_48 rfl (lv_at hl 1 rfl) ?_
                  refine va_aldq hx hb hK.1 hP 1 6 rfl rfl (mm_in mm_k1 (by decide)) dX11_paste_49 ?_
                  refine W.eq (g2 := F0 m 50 ls [.ref a_13]) rfl ?_
                  refine va_get (D := G) (ci := 6) (v := .int i_9) (C := RX6) (T := TX6) (N := 4) hx hb hts (mm_i inlX6) hown hK.1 hP 4 rfl rfl 1 (by decide) (mm_h hts mm_w1710) (fun _ h9 => h9) rfl dX11_paste_50 ?_
                  refine lv_aload_n hx hb dX11_paste_53 rfl (lv_at hl 0 rfl) ?_
                  refine va_get (D := G) (ci := 11) (v := .ref a_6) (C := RX11) (T := TX11) (N := 11) hx hb hts (mm_i inlX11) hown hK.1 hP 0 rfl rfl 5 (by decide) (mm_h hts mm_w32) (fun _ h9 => h9) rfl dX11_paste_54 ?_
                  refine lv_iload_n hx hb dX11_paste_57 rfl (lv_at hl 3 rfl) ?_
                  refine va_aldq hx hb hK.1 hP 1 6 rfl rfl (mm_in mm_k3 (by decide)) dX11_paste_58 ?_
                  refine W.eq (g2 := F0 m 59 ls [.ref a_15, .int i_9]) rfl ?_
                  refine va_get (D := G) (ci := 6) (v := .int i_15) (C := RX6) (T := TX6) (N := 4) hx hb hts (mm_i inlX6) hown hK.1 hP 8 rfl rfl 1 (by decide) (mm_h hts mm_w1710) (fun _ h9 => h9) rfl dX11_paste_59 ?_
                  refine lv_icmp_eq (tgt := 68) hx hb dX11_paste_62 (by decide) (fun c160 => ?_) (fun c160 => ?_)
                  · refine lv_aload_n hx hb dX11_paste_68 rfl (lv_at hl 0 rfl) ?_
                    refine va_get (D := G) (ci := 11) (v := .ref a_6) (C := RX11) (T := TX11) (N := 11) hx hb hts (mm_i inlX11) hown hK.1 hP 0 rfl rfl 5 (by decide) (mm_h hts mm_w32) (fun _ h9 => h9) rfl dX11_paste_69 ?_
                    refine lv_iload_n hx hb dX11_paste_72 rfl (lv_at hl 1 rfl) ?_
                    refine va_aldq hx hb hK.1 hP 1 6 rfl rfl (mm_in mm_k1 (by decide)) dX11_paste_73 ?_
                    refine W.eq (g2 := F0 m 74 ls [.ref a_13]) rfl ?_
                    refine lv_iload_n hx hb dX11_paste_74 rfl (lv_at hl 2 rfl) ?_
                    refine lv_iload hx hb dX11_paste_75 (lv_at hl 5 rfl) ?_
                    refine mm_finir (va_runV (As := [.int i_1, .int i_4]) (rest := []) ⟨hx, hb, hml, hown, hts⟩ (K541_X6_reaches l G cy H.size a_13 i_1 i_4 i_8 i_9 i_10 a_17 h5) (cwV 2 hts (mm_gV mm_w1713 mm_w1714 mm_w1715 mm_w34 mm_w1716) rfl rfl rfl hd_X6_reaches ⟨by rw [hRf]; exact Nat.le_of_ble_eq_true rfl, by rw [hRl]; exact Nat.le_of_ble_eq_true rfl⟩) (mm_preV hK hZ hS hA hP hD [4] rfl rfl 4 rfl rfl rfl) rfl rfl hl.1 rfl (lv_room (Nat.le_of_ble_eq_true rfl)) dX11_paste_77 ⟨by rw [hRc]; exact Nat.le_of_ble_eq_true rfl, by rw [hRs]; exact Nat.le_of_ble_eq_true rfl⟩) hP hD hS hA [4] rfl (fun _ => rfl) ?_
                    clear hP hD hS
                    clear H locs
                    intro v161 _u H locs hw hP hD hS
                    rcases hw with ⟨rfl, w162⟩ | ⟨rfl, w163, w164, w165⟩
                    · refine lv_if_eq (tgt := 99) hx hb dX11_paste_80 (by decide) (fun c166 => ?_) (fun c166 => ?_)
                      · refine lv_bipush (v := (-7)) hx hb dX11_paste_99 (by decide) ?_
                        subst hAe
                        rw [hQ]
                        exact W.iret (v := (-7)) hx hb hr (fun t ht hW => ⟨⟨(-7), (f_0, f_1, f_2, f_3), rfl, (mm_wk mm_km7 (by decide)), by rw [ht]; exact hP, hK.warm hW, hD⟩, hS.F ht⟩) hS.2.2 dX11_paste_101
                      · have q167 := mm_neL (lo := 1) (mm_ne c166) mm_k0 mm_k0 (by decide) (by decide)
                        exact mm_no q167 (by decide)
                    · refine lv_if_eq (tgt := 99) hx hb dX11_paste_80 (by decide) (fun c168 => ?_) (fun c168 => ?_)
                      · exact mm_eqN c168.symm mm_k0 mm_k1 (by decide)
                      · refine lv_aload_n hx hb dX11_paste_83 rfl (lv_at hl 0 rfl) ?_
                        refine va_get (D := G) (ci := 11) (v := .ref a_6) (C := RX11) (T := TX11) (N := 11) hx hb hts (mm_i inlX11) hown hK.1 hP 0 rfl rfl 5 (by decide) (mm_h hts mm_w32) (fun _ h9 => h9) rfl dX11_paste_84 ?_
                        refine lv_iload_n hx hb dX11_paste_87 rfl (lv_at hl 3 rfl) ?_
                        refine va_aldq hx hb hK.1 hP 1 6 rfl rfl (mm_in mm_k3 (by decide)) dX11_paste_88 ?_
                        refine W.eq (g2 := F0 m 89 ls [.ref a_15]) rfl ?_
                        refine lv_iload hx hb dX11_paste_89 (lv_at hl 4 rfl) ?_
                        refine lv_iload hx hb dX11_paste_91 (lv_at hl 5 rfl) ?_
                        refine mm_finir (va_runV (As := [.int i_3, .int i_4]) (rest := []) ⟨hx, hb, hml, hown, hts⟩ (K542_X6_reaches l G cy H.size a_15 i_3 i_4 i_14 i_15 i_16 a_19 w164 h11) (cwV 2 hts (mm_gV mm_w1713 mm_w1714 mm_w1715 mm_w34 mm_w1716) rfl rfl rfl hd_X6_reaches ⟨by rw [hRf]; exact Nat.le_of_ble_eq_true rfl, by rw [hRl]; exact Nat.le_of_ble_eq_true rfl⟩) (mm_preV hK hZ hS hA hP hD [8] rfl rfl 8 rfl rfl rfl) rfl rfl hl.1 rfl (lv_room (Nat.le_of_ble_eq_true rfl)) dX11_paste_93 ⟨by rw [hRc]; exact Nat.le_of_ble_eq_true rfl, by rw [hRs]; exact Nat.le_of_ble_eq_true rfl⟩) hP hD hS hA [8] rfl (fun _ => rfl) ?_
                        clear hP hD hS
                        clear H locs
                        intro v169 _u H locs hw hP hD hS
                        rcases hw with ⟨rfl, w170⟩ | ⟨rfl, w171, w172⟩
                        · refine lv_if_ne (tgt := 102) hx hb dX11_paste_96 (by decide) (fun c173 => ?_) (fun c173 => ?_)
                          · have q174 := mm_neL (lo := 1) (mm_ne c173) mm_k0 mm_k0 (by decide) (by decide)
                            exact mm_no q174 (by decide)
                          · refine lv_bipush (v := (-7)) hx hb dX11_paste_99 (by decide) ?_
                            subst hAe
                            rw [hQ]
                            exact W.iret (v := (-7)) hx hb hr (fun t ht hW => ⟨⟨(-7), (f_0, f_1, f_2, f_3), rfl, (mm_wk mm_km7 (by decide)), by rw [ht]; exact hP, hK.warm hW, hD⟩, hS.F ht⟩) hS.2.2 dX11_paste_101
                        · refine lv_if_ne (tgt := 102) hx hb dX11_paste_96 (by decide) (fun c175 => ?_) (fun c175 => ?_)
                          · refine lv_aload_n hx hb dX11_paste_102 rfl (lv_at hl 0 rfl) ?_
                            refine va_get (D := G) (ci := 11) (v := .ref a_6) (C := RX11) (T := TX11) (N := 11) hx hb hts (mm_i inlX11) hown hK.1 hP 0 rfl rfl 5 (by decide) (mm_h hts mm_w32) (fun _ h9 => h9) rfl dX11_paste_103 ?_
                            refine lv_iload_n hx hb dX11_paste_106 rfl (lv_at hl 1 rfl) ?_
                            refine va_aldq hx hb hK.1 hP 1 6 rfl rfl (mm_in mm_k1 (by decide)) dX11_paste_107 ?_
                            refine W.eq (g2 := F0 m 108 ls [.ref a_13]) rfl ?_
                            refine va_get (D := G) (ci := 6) (v := .ref a_17) (C := RX6) (T := TX6) (N := 4) hx hb hts (mm_i inlX6) hown hK.1 hP 4 rfl rfl 3 (by decide) (mm_h hts mm_w1711) (fun _ h9 => h9) rfl dX11_paste_108 ?_
                            refine lv_iload_n hx hb dX11_paste_111 rfl (lv_at hl 2 rfl) ?_
                            refine lv_aload_n hx hb dX11_paste_112 rfl (lv_at hl 0 rfl) ?_
                            refine va_get (D := G) (ci := 11) (v := .ref a_6) (C := RX11) (T := TX11) (N := 11) hx hb hts (mm_i inlX11) hown hK.1 hP 0 rfl rfl 5 (by decide) (mm_h hts mm_w32) (fun _ h9 => h9) rfl dX11_paste_113 ?_
                            refine lv_iload_n hx hb dX11_paste_116 rfl (lv_at hl 3 rfl) ?_
                            refine va_aldq hx hb hK.1 hP 1 6 rfl rfl (mm_in mm_k3 (by decide)) dX11_paste_117 ?_
                            refine W.eq (g2 := F0 m 118 ls [.ref a_15, .int i_1, .ref a_17]) rfl ?_
                            refine va_get (D := G) (ci := 6) (v := .ref a_19) (C := RX6) (T := TX6) (N := 4) hx hb hts (mm_i inlX6) hown hK.1 hP 8 rfl rfl 3 (by decide) (mm_h hts mm_w1711) (fun _ h9 => h9) rfl dX11_paste_118 ?_
                            refine lv_iload hx hb dX11_paste_121 (lv_at hl 4 rfl) ?_
                            refine lv_iload hx hb dX11_paste_123 (lv_at hl 5 rfl) ?_
                            refine va_copyl hx hb (by rw [hml]; exact hl.1.symm) hown (mm_h hts mm_w1712) (mm_h hts mm_w388) (mm_h hts mm_w389) (mm_h hts mm_w390) hK.1 hP hD hS 5 9 2 2 rfl rfl rfl rfl rfl (mm_nn w163 (by decide)) (mm_nn w171 (by decide)) (mm_nn w164 (by decide)) (mm_cpR w165 w163 w164 h5 (by decide)) (mm_cpR w172 w171 w164 h11 (by decide)) (fun _ _ => rfl) (by rw [hRf]; exact Nat.le_of_ble_eq_true rfl) (by rw [hRl]; exact Nat.le_of_ble_eq_true rfl) dX11_paste_125 ?_
                            clear hP hD hS
                            clear H locs
                            obtain ⟨g176, eg176⟩ : ∃ z : Nat → Int64, z = va_cpy f_1 f_3 i_1.toNatClampNeg i_3.toNatClampNeg i_4.toNatClampNeg := ⟨_, rfl⟩
                            rw [← eg176]
                            intro H locs (hP : va_P G vwCl [(a_0, .inr (11, [.ref a_1, .ref a_2, .ref a_3, .ref a_4, .ref a_5, .ref a_6, .ref a_7, .ref a_8, .ref a_9, .ref a_10, .ref a_11])), (a_6, .inl (cy 6, 4, .inr (.inr (.inr (.inr (va_up (va_up (va_up (va_up (fun _ => none) 0 (some a_12)) 1 (some a_13)) 2 (some a_14)) 3 (some a_15))))))), (a_12, .inr (6, [.int i_5, .int i_6, .int i_7, .ref a_16])), (a_16, .inl (cy 2, 60, .inr (.inl f_0))), (a_13, .inr (6, [.int i_8, .int i_9, .int i_10, .ref a_17])), (a_17, .inl (cy 2, 60, .inr (.inl f_1))), (a_14, .inr (6, [.int i_11, .int i_12, .int i_13, .ref a_18])), (a_18, .inl (cy 2, 60, .inr (.inl f_2))), (a_15, .inr (6, [.int i_14, .int i_15, .int i_16, .ref a_19])), (a_19, .inl (cy 2, 60, .inr (.inl g176)))] H) (hD : va_D A [(a_0, .inr (11, [.ref a_1, .ref a_2, .ref a_3, .ref a_4, .ref a_5, .ref a_6, .ref a_7, .ref a_8, .ref a_9, .ref a_10, .ref a_11])), (a_6, .inl (cy 6, 4, .inr (.inr (.inr (.inr (va_up (va_up (va_up (va_up (fun _ => none) 0 (some a_12)) 1 (some a_13)) 2 (some a_14)) 3 (some a_15))))))), (a_12, .inr (6, [.int i_5, .int i_6, .int i_7, .ref a_16])), (a_16, .inl (cy 2, 60, .inr (.inl f_0))), (a_13, .inr (6, [.int i_8, .int i_9, .int i_10, .ref a_17])), (a_17, .inl (cy 2, 60, .inr (.inl f_1))), (a_14, .inr (6, [.int i_11, .int i_12, .int i_13, .ref a_18])), (a_18, .inl (cy 2, 60, .inr (.inl f_2))), (a_15, .inr (6, [.int i_14, .int i_15, .int i_16, .ref a_19])), (a_19, .inl (cy 2, 60, .inr (.inl g176)))]) hS
                            refine lv_iconst (v := 0) hx hb dX11_paste_128 (by decide) ?_
                            subst hAe
                            rw [hQ]
                            exact W.iret (v := 0) hx hb hr (fun t ht hW => ⟨⟨0, (f_0, f_1, f_2, g176), rfl, (mm_wk mm_k0 (by decide)), by rw [ht]; exact hP, hK.warm hW, hD⟩, hS.F ht⟩) hS.2.2 dX11_paste_129
                          · exact mm_eqN c175.symm mm_k0 mm_k1 (by decide)
                  · refine lv_bipush (v := (-8)) hx hb dX11_paste_65 (by decide) ?_
                    subst hAe
                    rw [hQ]
                    exact W.iret (v := (-8)) hx hb hr (fun t ht hW => ⟨⟨(-8), (f_0, f_1, f_2, f_3), rfl, (mm_wk mm_km8 (by decide)), by rw [ht]; exact hP, hK.warm hW, hD⟩, hS.F ht⟩) hS.2.2 dX11_paste_67
                · have q177 := mm_eqI (lo := 0) (hi := 0) c158 h9 mm_k0 (by decide)
                  refine lv_bipush (v := (-6)) hx hb dX11_paste_41 (by decide) ?_
                  subst hAe
                  rw [hQ]
                  exact W.iret (v := (-6)) hx hb hr (fun t ht hW => ⟨⟨(-6), (f_0, f_1, f_2, f_3), rfl, (mm_wk mm_km6 (by decide)), by rw [ht]; exact hP, hK.warm hW, hD⟩, hS.F ht⟩) hS.2.2 dX11_paste_43
          · refine W.eq (g2 := F0 m 23 ls [.ref a_14]) rfl ?_
            refine va_get (D := G) (ci := 6) (v := .int i_11) (C := RX6) (T := TX6) (N := 4) hx hb hts (mm_i inlX6) hown hK.1 hP 6 rfl rfl 0 (by decide) (mm_h hts mm_w1239) (fun _ h9 => h9) rfl dX11_paste_23 ?_
            refine lv_if_eq (tgt := 41) hx hb dX11_paste_26 (by decide) (fun c178 => ?_) (fun c178 => ?_)
            · have q179 := mm_eqI (lo := 0) (hi := 0) c178 h6 mm_k0 (by decide)
              refine lv_bipush (v := (-6)) hx hb dX11_paste_41 (by decide) ?_
              subst hAe
              rw [hQ]
              exact W.iret (v := (-6)) hx hb hr (fun t ht hW => ⟨⟨(-6), (f_0, f_1, f_2, f_3), rfl, (mm_wk mm_km6 (by decide)), by rw [ht]; exact hP, hK.warm hW, hD⟩, hS.F ht⟩) hS.2.2 dX11_paste_43
            · have q180 := mm_neL (lo := 1) (mm_ne c178) h6 mm_k0 (by decide) (by decide)
              refine lv_aload_n hx hb dX11_paste_29 rfl (lv_at hl 0 rfl) ?_
              refine va_get (D := G) (ci := 11) (v := .ref a_6) (C := RX11) (T := TX11) (N := 11) hx hb hts (mm_i inlX11) hown hK.1 hP 0 rfl rfl 5 (by decide) (mm_h hts mm_w32) (fun _ h9 => h9) rfl dX11_paste_30 ?_
              refine lv_iload_n hx hb dX11_paste_33 rfl (lv_at hl 3 rfl) ?_
              refine va_aldq hx hb hK.1 hP 1 6 rfl rfl (mm_in w9 (by decide)) dX11_paste_34 ?_
              have c181 := mm_cases4 w9
              rcases c181 with rfl | rfl | rfl | rfl
              · refine W.eq (g2 := F0 m 35 ls [.ref a_12]) rfl ?_
                refine va_get (D := G) (ci := 6) (v := .int i_5) (C := RX6) (T := TX6) (N := 4) hx hb hts (mm_i inlX6) hown hK.1 hP 2 rfl rfl 0 (by decide) (mm_h hts mm_w1239) (fun _ h9 => h9) rfl dX11_paste_35 ?_
                refine lv_if_ne (tgt := 44) hx hb dX11_paste_38 (by decide) (fun c182 => ?_) (fun c182 => ?_)
                · have q183 := mm_neL (lo := 1) (mm_ne c182) h0 mm_k0 (by decide) (by decide)
                  refine lv_aload_n hx hb dX11_paste_44 rfl (lv_at hl 0 rfl) ?_
                  refine va_get (D := G) (ci := 11) (v := .ref a_6) (C := RX11) (T := TX11) (N := 11) hx hb hts (mm_i inlX11) hown hK.1 hP 0 rfl rfl 5 (by decide) (mm_h hts mm_w32) (fun _ h9 => h9) rfl dX11_paste_45 ?_
                  refine lv_iload_n hx hb dX11_paste_48 rfl (lv_at hl 1 rfl) ?_
                  refine va_aldq hx hb hK.1 hP 1 6 rfl rfl (mm_in mm_k2 (by decide)) dX11_paste_49 ?_
                  refine W.eq (g2 := F0 m 50 ls [.ref a_14]) rfl ?_
                  refine va_get (D := G) (ci := 6) (v := .int i_12) (C := RX6) (T := TX6) (N := 4) hx hb hts (mm_i inlX6) hown hK.1 hP 6 rfl rfl 1 (by decide) (mm_h hts mm_w1710) (fun _ h9 => h9) rfl dX11_paste_50 ?_
                  refine lv_aload_n hx hb dX11_paste_53 rfl (lv_at hl 0 rfl) ?_
                  refine va_get (D := G) (ci := 11) (v := .ref a_6) (C := RX11) (T := TX11) (N := 11) hx hb hts (mm_i inlX11) hown hK.1 hP 0 rfl rfl 5 (by decide) (mm_h hts mm_w32) (fun _ h9 => h9) rfl dX11_paste_54 ?_
                  refine lv_iload_n hx hb dX11_paste_57 rfl (lv_at hl 3 rfl) ?_
                  refine va_aldq hx hb hK.1 hP 1 6 rfl rfl (mm_in mm_k0 (by decide)) dX11_paste_58 ?_
                  refine W.eq (g2 := F0 m 59 ls [.ref a_12, .int i_12]) rfl ?_
                  refine va_get (D := G) (ci := 6) (v := .int i_6) (C := RX6) (T := TX6) (N := 4) hx hb hts (mm_i inlX6) hown hK.1 hP 2 rfl rfl 1 (by decide) (mm_h hts mm_w1710) (fun _ h9 => h9) rfl dX11_paste_59 ?_
                  refine lv_icmp_eq (tgt := 68) hx hb dX11_paste_62 (by decide) (fun c184 => ?_) (fun c184 => ?_)
                  · refine lv_aload_n hx hb dX11_paste_68 rfl (lv_at hl 0 rfl) ?_
                    refine va_get (D := G) (ci := 11) (v := .ref a_6) (C := RX11) (T := TX11) (N := 11) hx hb hts (mm_i inlX11) hown hK.1 hP 0 rfl rfl 5 (by decide) (mm_h hts mm_w32) (fun _ h9 => h9) rfl dX11_paste_69 ?_
                    refine lv_iload_n hx hb dX11_paste_72 rfl (lv_at hl 1 rfl) ?_
                    refine va_aldq hx hb hK.1 hP 1 6 rfl rfl (mm_in mm_k2 (by decide)) dX11_paste_73 ?_
                    refine W.eq (g2 := F0 m 74 ls [.ref a_14]) rfl ?_
                    refine lv_iload_n hx hb dX11_paste_74 rfl (lv_at hl 2 rfl) ?_
                    refine lv_iload hx hb dX11_paste_75 (lv_at hl 5 rfl) ?_
                    refine mm_finir (va_runV (As := [.int i_1, .int i_4]) (rest := []) ⟨hx, hb, hml, hown, hts⟩ (K541_X6_reaches l G cy H.size a_14 i_1 i_4 i_11 i_12 i_13 a_18 h8) (cwV 2 hts (mm_gV mm_w1713 mm_w1714 mm_w1715 mm_w34 mm_w1716) rfl rfl rfl hd_X6_reaches ⟨by rw [hRf]; exact Nat.le_of_ble_eq_true rfl, by rw [hRl]; exact Nat.le_of_ble_eq_true rfl⟩) (mm_preV hK hZ hS hA hP hD [6] rfl rfl 6 rfl rfl rfl) rfl rfl hl.1 rfl (lv_room (Nat.le_of_ble_eq_true rfl)) dX11_paste_77 ⟨by rw [hRc]; exact Nat.le_of_ble_eq_true rfl, by rw [hRs]; exact Nat.le_of_ble_eq_true rfl⟩) hP hD hS hA [6] rfl (fun _ => rfl) ?_
                    clear hP hD hS
                    clear H locs
                    intro v185 _u H locs hw hP hD hS
                    rcases hw with ⟨rfl, w186⟩ | ⟨rfl, w187, w188, w189⟩
                    · refine lv_if_eq (tgt := 99) hx hb dX11_paste_80 (by decide) (fun c190 => ?_) (fun c190 => ?_)
                      · refine lv_bipush (v := (-7)) hx hb dX11_paste_99 (by decide) ?_
                        subst hAe
                        rw [hQ]
                        exact W.iret (v := (-7)) hx hb hr (fun t ht hW => ⟨⟨(-7), (f_0, f_1, f_2, f_3), rfl, (mm_wk mm_km7 (by decide)), by rw [ht]; exact hP, hK.warm hW, hD⟩, hS.F ht⟩) hS.2.2 dX11_paste_101
                      · have q191 := mm_neL (lo := 1) (mm_ne c190) mm_k0 mm_k0 (by decide) (by decide)
                        exact mm_no q191 (by decide)
                    · refine lv_if_eq (tgt := 99) hx hb dX11_paste_80 (by decide) (fun c192 => ?_) (fun c192 => ?_)
                      · exact mm_eqN c192.symm mm_k0 mm_k1 (by decide)
                      · refine lv_aload_n hx hb dX11_paste_83 rfl (lv_at hl 0 rfl) ?_
                        refine va_get (D := G) (ci := 11) (v := .ref a_6) (C := RX11) (T := TX11) (N := 11) hx hb hts (mm_i inlX11) hown hK.1 hP 0 rfl rfl 5 (by decide) (mm_h hts mm_w32) (fun _ h9 => h9) rfl dX11_paste_84 ?_
                        refine lv_iload_n hx hb dX11_paste_87 rfl (lv_at hl 3 rfl) ?_
                        refine va_aldq hx hb hK.1 hP 1 6 rfl rfl (mm_in mm_k0 (by decide)) dX11_paste_88 ?_
                        refine W.eq (g2 := F0 m 89 ls [.ref a_12]) rfl ?_
                        refine lv_iload hx hb dX11_paste_89 (lv_at hl 4 rfl) ?_
                        refine lv_iload hx hb dX11_paste_91 (lv_at hl 5 rfl) ?_
                        refine mm_finir (va_runV (As := [.int i_3, .int i_4]) (rest := []) ⟨hx, hb, hml, hown, hts⟩ (K542_X6_reaches l G cy H.size a_12 i_3 i_4 i_5 i_6 i_7 a_16 w188 h2) (cwV 2 hts (mm_gV mm_w1713 mm_w1714 mm_w1715 mm_w34 mm_w1716) rfl rfl rfl hd_X6_reaches ⟨by rw [hRf]; exact Nat.le_of_ble_eq_true rfl, by rw [hRl]; exact Nat.le_of_ble_eq_true rfl⟩) (mm_preV hK hZ hS hA hP hD [2] rfl rfl 2 rfl rfl rfl) rfl rfl hl.1 rfl (lv_room (Nat.le_of_ble_eq_true rfl)) dX11_paste_93 ⟨by rw [hRc]; exact Nat.le_of_ble_eq_true rfl, by rw [hRs]; exact Nat.le_of_ble_eq_true rfl⟩) hP hD hS hA [2] rfl (fun _ => rfl) ?_
                        clear hP hD hS
                        clear H locs
                        intro v193 _u H locs hw hP hD hS
                        rcases hw with ⟨rfl, w194⟩ | ⟨rfl, w195, w196⟩
                        · refine lv_if_ne (tgt := 102) hx hb dX11_paste_96 (by decide) (fun c197 => ?_) (fun c197 => ?_)
                          · have q198 := mm_neL (lo := 1) (mm_ne c197) mm_k0 mm_k0 (by decide) (by decide)
                            exact mm_no q198 (by decide)
                          · refine lv_bipush (v := (-7)) hx hb dX11_paste_99 (by decide) ?_
                            subst hAe
                            rw [hQ]
                            exact W.iret (v := (-7)) hx hb hr (fun t ht hW => ⟨⟨(-7), (f_0, f_1, f_2, f_3), rfl, (mm_wk mm_km7 (by decide)), by rw [ht]; exact hP, hK.warm hW, hD⟩, hS.F ht⟩) hS.2.2 dX11_paste_101
                        · refine lv_if_ne (tgt := 102) hx hb dX11_paste_96 (by decide) (fun c199 => ?_) (fun c199 => ?_)
                          · refine lv_aload_n hx hb dX11_paste_102 rfl (lv_at hl 0 rfl) ?_
                            refine va_get (D := G) (ci := 11) (v := .ref a_6) (C := RX11) (T := TX11) (N := 11) hx hb hts (mm_i inlX11) hown hK.1 hP 0 rfl rfl 5 (by decide) (mm_h hts mm_w32) (fun _ h9 => h9) rfl dX11_paste_103 ?_
                            refine lv_iload_n hx hb dX11_paste_106 rfl (lv_at hl 1 rfl) ?_
                            refine va_aldq hx hb hK.1 hP 1 6 rfl rfl (mm_in mm_k2 (by decide)) dX11_paste_107 ?_
                            refine W.eq (g2 := F0 m 108 ls [.ref a_14]) rfl ?_
                            refine va_get (D := G) (ci := 6) (v := .ref a_18) (C := RX6) (T := TX6) (N := 4) hx hb hts (mm_i inlX6) hown hK.1 hP 6 rfl rfl 3 (by decide) (mm_h hts mm_w1711) (fun _ h9 => h9) rfl dX11_paste_108 ?_
                            refine lv_iload_n hx hb dX11_paste_111 rfl (lv_at hl 2 rfl) ?_
                            refine lv_aload_n hx hb dX11_paste_112 rfl (lv_at hl 0 rfl) ?_
                            refine va_get (D := G) (ci := 11) (v := .ref a_6) (C := RX11) (T := TX11) (N := 11) hx hb hts (mm_i inlX11) hown hK.1 hP 0 rfl rfl 5 (by decide) (mm_h hts mm_w32) (fun _ h9 => h9) rfl dX11_paste_113 ?_
                            refine lv_iload_n hx hb dX11_paste_116 rfl (lv_at hl 3 rfl) ?_
                            refine va_aldq hx hb hK.1 hP 1 6 rfl rfl (mm_in mm_k0 (by decide)) dX11_paste_117 ?_
                            refine W.eq (g2 := F0 m 118 ls [.ref a_12, .int i_1, .ref a_18]) rfl ?_
                            refine va_get (D := G) (ci := 6) (v := .ref a_16) (C := RX6) (T := TX6) (N := 4) hx hb hts (mm_i inlX6) hown hK.1 hP 2 rfl rfl 3 (by decide) (mm_h hts mm_w1711) (fun _ h9 => h9) rfl dX11_paste_118 ?_
                            refine lv_iload hx hb dX11_paste_121 (lv_at hl 4 rfl) ?_
                            refine lv_iload hx hb dX11_paste_123 (lv_at hl 5 rfl) ?_
                            refine va_copyl hx hb (by rw [hml]; exact hl.1.symm) hown (mm_h hts mm_w1712) (mm_h hts mm_w388) (mm_h hts mm_w389) (mm_h hts mm_w390) hK.1 hP hD hS 7 3 2 2 rfl rfl rfl rfl rfl (mm_nn w187 (by decide)) (mm_nn w195 (by decide)) (mm_nn w188 (by decide)) (mm_cpR w189 w187 w188 h8 (by decide)) (mm_cpR w196 w195 w188 h2 (by decide)) (fun _ _ => rfl) (by rw [hRf]; exact Nat.le_of_ble_eq_true rfl) (by rw [hRl]; exact Nat.le_of_ble_eq_true rfl) dX11_paste_125 ?_
                            clear hP hD hS
                            clear H locs
                            obtain ⟨g200, eg200⟩ : ∃ z : Nat → Int64, z = va_cpy f_2 f_0 i_1.toNatClampNeg i_3.toNatClampNeg i_4.toNatClampNeg := ⟨_, rfl⟩
                            rw [← eg200]
                            intro H locs (hP : va_P G vwCl [(a_0, .inr (11, [.ref a_1, .ref a_2, .ref a_3, .ref a_4, .ref a_5, .ref a_6, .ref a_7, .ref a_8, .ref a_9, .ref a_10, .ref a_11])), (a_6, .inl (cy 6, 4, .inr (.inr (.inr (.inr (va_up (va_up (va_up (va_up (fun _ => none) 0 (some a_12)) 1 (some a_13)) 2 (some a_14)) 3 (some a_15))))))), (a_12, .inr (6, [.int i_5, .int i_6, .int i_7, .ref a_16])), (a_16, .inl (cy 2, 60, .inr (.inl g200))), (a_13, .inr (6, [.int i_8, .int i_9, .int i_10, .ref a_17])), (a_17, .inl (cy 2, 60, .inr (.inl f_1))), (a_14, .inr (6, [.int i_11, .int i_12, .int i_13, .ref a_18])), (a_18, .inl (cy 2, 60, .inr (.inl f_2))), (a_15, .inr (6, [.int i_14, .int i_15, .int i_16, .ref a_19])), (a_19, .inl (cy 2, 60, .inr (.inl f_3)))] H) (hD : va_D A [(a_0, .inr (11, [.ref a_1, .ref a_2, .ref a_3, .ref a_4, .ref a_5, .ref a_6, .ref a_7, .ref a_8, .ref a_9, .ref a_10, .ref a_11])), (a_6, .inl (cy 6, 4, .inr (.inr (.inr (.inr (va_up (va_up (va_up (va_up (fun _ => none) 0 (some a_12)) 1 (some a_13)) 2 (some a_14)) 3 (some a_15))))))), (a_12, .inr (6, [.int i_5, .int i_6, .int i_7, .ref a_16])), (a_16, .inl (cy 2, 60, .inr (.inl g200))), (a_13, .inr (6, [.int i_8, .int i_9, .int i_10, .ref a_17])), (a_17, .inl (cy 2, 60, .inr (.inl f_1))), (a_14, .inr (6, [.int i_11, .int i_12, .int i_13, .ref a_18])), (a_18, .inl (cy 2, 60, .inr (.inl f_2))), (a_15, .inr (6, [.int i_14, .int i_15, .int i_16, .ref a_19])), (a_19, .inl (cy 2, 60, .inr (.inl f_3)))]) hS
                            refine lv_iconst (v := 0) hx hb dX11_paste_128 (by decide) ?_
                            subst hAe
                            rw [hQ]
                            exact W.iret (v := 0) hx hb hr (fun t ht hW => ⟨⟨0, (g200, f_1, f_2, f_3), rfl, (mm_wk mm_k0 (by decide)), by rw [ht]; exact hP, hK.warm hW, hD⟩, hS.F ht⟩) hS.2.2 dX11_paste_129
                          · exact mm_eqN c199.symm mm_k0 mm_k1 (by decide)
                  · refine lv_bipush (v := (-8)) hx hb dX11_paste_65 (by decide) ?_
                    subst hAe
                    rw [hQ]
                    exact W.iret (v := (-8)) hx hb hr (fun t ht hW => ⟨⟨(-8), (f_0, f_1, f_2, f_3), rfl, (mm_wk mm_km8 (by decide)), by rw [ht]; exact hP, hK.warm hW, hD⟩, hS.F ht⟩) hS.2.2 dX11_paste_67
                · have q201 := mm_eqI (lo := 0) (hi := 0) c182 h0 mm_k0 (by decide)
                  refine lv_bipush (v := (-6)) hx hb dX11_paste_41 (by decide) ?_
                  subst hAe
                  rw [hQ]
                  exact W.iret (v := (-6)) hx hb hr (fun t ht hW => ⟨⟨(-6), (f_0, f_1, f_2, f_3), rfl, (mm_wk mm_km6 (by decide)), by rw [ht]; exact hP, hK.warm hW, hD⟩, hS.F ht⟩) hS.2.2 dX11_paste_43
              · refine W.eq (g2 := F0 m 35 ls [.ref a_13]) rfl ?_
                refine va_get (D := G) (ci := 6) (v := .int i_8) (C := RX6) (T := TX6) (N := 4) hx hb hts (mm_i inlX6) hown hK.1 hP 4 rfl rfl 0 (by decide) (mm_h hts mm_w1239) (fun _ h9 => h9) rfl dX11_paste_35 ?_
                refine lv_if_ne (tgt := 44) hx hb dX11_paste_38 (by decide) (fun c202 => ?_) (fun c202 => ?_)
                · have q203 := mm_neL (lo := 1) (mm_ne c202) h3 mm_k0 (by decide) (by decide)
                  refine lv_aload_n hx hb dX11_paste_44 rfl (lv_at hl 0 rfl) ?_
                  refine va_get (D := G) (ci := 11) (v := .ref a_6) (C := RX11) (T := TX11) (N := 11) hx hb hts (mm_i inlX11) hown hK.1 hP 0 rfl rfl 5 (by decide) (mm_h hts mm_w32) (fun _ h9 => h9) rfl dX11_paste_45 ?_
                  refine lv_iload_n hx hb dX11_paste_48 rfl (lv_at hl 1 rfl) ?_
                  refine va_aldq hx hb hK.1 hP 1 6 rfl rfl (mm_in mm_k2 (by decide)) dX11_paste_49 ?_
                  refine W.eq (g2 := F0 m 50 ls [.ref a_14]) rfl ?_
                  refine va_get (D := G) (ci := 6) (v := .int i_12) (C := RX6) (T := TX6) (N := 4) hx hb hts (mm_i inlX6) hown hK.1 hP 6 rfl rfl 1 (by decide) (mm_h hts mm_w1710) (fun _ h9 => h9) rfl dX11_paste_50 ?_
                  refine lv_aload_n hx hb dX11_paste_53 rfl (lv_at hl 0 rfl) ?_
                  refine va_get (D := G) (ci := 11) (v := .ref a_6) (C := RX11) (T := TX11) (N := 11) hx hb hts (mm_i inlX11) hown hK.1 hP 0 rfl rfl 5 (by decide) (mm_h hts mm_w32) (fun _ h9 => h9) rfl dX11_paste_54 ?_
                  refine lv_iload_n hx hb dX11_paste_57 rfl (lv_at hl 3 rfl) ?_
                  refine va_aldq hx hb hK.1 hP 1 6 rfl rfl (mm_in mm_k1 (by decide)) dX11_paste_58 ?_
                  refine W.eq (g2 := F0 m 59 ls [.ref a_13, .int i_12]) rfl ?_
                  refine va_get (D := G) (ci := 6) (v := .int i_9) (C := RX6) (T := TX6) (N := 4) hx hb hts (mm_i inlX6) hown hK.1 hP 4 rfl rfl 1 (by decide) (mm_h hts mm_w1710) (fun _ h9 => h9) rfl dX11_paste_59 ?_
                  refine lv_icmp_eq (tgt := 68) hx hb dX11_paste_62 (by decide) (fun c204 => ?_) (fun c204 => ?_)
                  · refine lv_aload_n hx hb dX11_paste_68 rfl (lv_at hl 0 rfl) ?_
                    refine va_get (D := G) (ci := 11) (v := .ref a_6) (C := RX11) (T := TX11) (N := 11) hx hb hts (mm_i inlX11) hown hK.1 hP 0 rfl rfl 5 (by decide) (mm_h hts mm_w32) (fun _ h9 => h9) rfl dX11_paste_69 ?_
                    refine lv_iload_n hx hb dX11_paste_72 rfl (lv_at hl 1 rfl) ?_
                    refine va_aldq hx hb hK.1 hP 1 6 rfl rfl (mm_in mm_k2 (by decide)) dX11_paste_73 ?_
                    refine W.eq (g2 := F0 m 74 ls [.ref a_14]) rfl ?_
                    refine lv_iload_n hx hb dX11_paste_74 rfl (lv_at hl 2 rfl) ?_
                    refine lv_iload hx hb dX11_paste_75 (lv_at hl 5 rfl) ?_
                    refine mm_finir (va_runV (As := [.int i_1, .int i_4]) (rest := []) ⟨hx, hb, hml, hown, hts⟩ (K541_X6_reaches l G cy H.size a_14 i_1 i_4 i_11 i_12 i_13 a_18 h8) (cwV 2 hts (mm_gV mm_w1713 mm_w1714 mm_w1715 mm_w34 mm_w1716) rfl rfl rfl hd_X6_reaches ⟨by rw [hRf]; exact Nat.le_of_ble_eq_true rfl, by rw [hRl]; exact Nat.le_of_ble_eq_true rfl⟩) (mm_preV hK hZ hS hA hP hD [6] rfl rfl 6 rfl rfl rfl) rfl rfl hl.1 rfl (lv_room (Nat.le_of_ble_eq_true rfl)) dX11_paste_77 ⟨by rw [hRc]; exact Nat.le_of_ble_eq_true rfl, by rw [hRs]; exact Nat.le_of_ble_eq_true rfl⟩) hP hD hS hA [6] rfl (fun _ => rfl) ?_
                    clear hP hD hS
                    clear H locs
                    intro v205 _u H locs hw hP hD hS
                    rcases hw with ⟨rfl, w206⟩ | ⟨rfl, w207, w208, w209⟩
                    · refine lv_if_eq (tgt := 99) hx hb dX11_paste_80 (by decide) (fun c210 => ?_) (fun c210 => ?_)
                      · refine lv_bipush (v := (-7)) hx hb dX11_paste_99 (by decide) ?_
                        subst hAe
                        rw [hQ]
                        exact W.iret (v := (-7)) hx hb hr (fun t ht hW => ⟨⟨(-7), (f_0, f_1, f_2, f_3), rfl, (mm_wk mm_km7 (by decide)), by rw [ht]; exact hP, hK.warm hW, hD⟩, hS.F ht⟩) hS.2.2 dX11_paste_101
                      · have q211 := mm_neL (lo := 1) (mm_ne c210) mm_k0 mm_k0 (by decide) (by decide)
                        exact mm_no q211 (by decide)
                    · refine lv_if_eq (tgt := 99) hx hb dX11_paste_80 (by decide) (fun c212 => ?_) (fun c212 => ?_)
                      · exact mm_eqN c212.symm mm_k0 mm_k1 (by decide)
                      · refine lv_aload_n hx hb dX11_paste_83 rfl (lv_at hl 0 rfl) ?_
                        refine va_get (D := G) (ci := 11) (v := .ref a_6) (C := RX11) (T := TX11) (N := 11) hx hb hts (mm_i inlX11) hown hK.1 hP 0 rfl rfl 5 (by decide) (mm_h hts mm_w32) (fun _ h9 => h9) rfl dX11_paste_84 ?_
                        refine lv_iload_n hx hb dX11_paste_87 rfl (lv_at hl 3 rfl) ?_
                        refine va_aldq hx hb hK.1 hP 1 6 rfl rfl (mm_in mm_k1 (by decide)) dX11_paste_88 ?_
                        refine W.eq (g2 := F0 m 89 ls [.ref a_13]) rfl ?_
                        refine lv_iload hx hb dX11_paste_89 (lv_at hl 4 rfl) ?_
                        refine lv_iload hx hb dX11_paste_91 (lv_at hl 5 rfl) ?_
                        refine mm_finir (va_runV (As := [.int i_3, .int i_4]) (rest := []) ⟨hx, hb, hml, hown, hts⟩ (K542_X6_reaches l G cy H.size a_13 i_3 i_4 i_8 i_9 i_10 a_17 w208 h5) (cwV 2 hts (mm_gV mm_w1713 mm_w1714 mm_w1715 mm_w34 mm_w1716) rfl rfl rfl hd_X6_reaches ⟨by rw [hRf]; exact Nat.le_of_ble_eq_true rfl, by rw [hRl]; exact Nat.le_of_ble_eq_true rfl⟩) (mm_preV hK hZ hS hA hP hD [4] rfl rfl 4 rfl rfl rfl) rfl rfl hl.1 rfl (lv_room (Nat.le_of_ble_eq_true rfl)) dX11_paste_93 ⟨by rw [hRc]; exact Nat.le_of_ble_eq_true rfl, by rw [hRs]; exact Nat.le_of_ble_eq_true rfl⟩) hP hD hS hA [4] rfl (fun _ => rfl) ?_
                        clear hP hD hS
                        clear H locs
                        intro v213 _u H locs hw hP hD hS
                        rcases hw with ⟨rfl, w214⟩ | ⟨rfl, w215, w216⟩
                        · refine lv_if_ne (tgt := 102) hx hb dX11_paste_96 (by decide) (fun c217 => ?_) (fun c217 => ?_)
                          · have q218 := mm_neL (lo := 1) (mm_ne c217) mm_k0 mm_k0 (by decide) (by decide)
                            exact mm_no q218 (by decide)
                          · refine lv_bipush (v := (-7)) hx hb dX11_paste_99 (by decide) ?_
                            subst hAe
                            rw [hQ]
                            exact W.iret (v := (-7)) hx hb hr (fun t ht hW => ⟨⟨(-7), (f_0, f_1, f_2, f_3), rfl, (mm_wk mm_km7 (by decide)), by rw [ht]; exact hP, hK.warm hW, hD⟩, hS.F ht⟩) hS.2.2 dX11_paste_101
                        · refine lv_if_ne (tgt := 102) hx hb dX11_paste_96 (by decide) (fun c219 => ?_) (fun c219 => ?_)
                          · refine lv_aload_n hx hb dX11_paste_102 rfl (lv_at hl 0 rfl) ?_
                            refine va_get (D := G) (ci := 11) (v := .ref a_6) (C := RX11) (T := TX11) (N := 11) hx hb hts (mm_i inlX11) hown hK.1 hP 0 rfl rfl 5 (by decide) (mm_h hts mm_w32) (fun _ h9 => h9) rfl dX11_paste_103 ?_
                            refine lv_iload_n hx hb dX11_paste_106 rfl (lv_at hl 1 rfl) ?_
                            refine va_aldq hx hb hK.1 hP 1 6 rfl rfl (mm_in mm_k2 (by decide)) dX11_paste_107 ?_
                            refine W.eq (g2 := F0 m 108 ls [.ref a_14]) rfl ?_
                            refine va_get (D := G) (ci := 6) (v := .ref a_18) (C := RX6) (T := TX6) (N := 4) hx hb hts (mm_i inlX6) hown hK.1 hP 6 rfl rfl 3 (by decide) (mm_h hts mm_w1711) (fun _ h9 => h9) rfl dX11_paste_108 ?_
                            refine lv_iload_n hx hb dX11_paste_111 rfl (lv_at hl 2 rfl) ?_
                            refine lv_aload_n hx hb dX11_paste_112 rfl (lv_at hl 0 rfl) ?_
                            refine va_get (D := G) (ci := 11) (v := .ref a_6) (C := RX11) (T := TX11) (N := 11) hx hb hts (mm_i inlX11) hown hK.1 hP 0 rfl rfl 5 (by decide) (mm_h hts mm_w32) (fun _ h9 => h9) rfl dX11_paste_113 ?_
                            refine lv_iload_n hx hb dX11_paste_116 rfl (lv_at hl 3 rfl) ?_
                            refine va_aldq hx hb hK.1 hP 1 6 rfl rfl (mm_in mm_k1 (by decide)) dX11_paste_117 ?_
                            refine W.eq (g2 := F0 m 118 ls [.ref a_13, .int i_1, .ref a_18]) rfl ?_
                            refine va_get (D := G) (ci := 6) (v := .ref a_17) (C := RX6) (T := TX6) (N := 4) hx hb hts (mm_i inlX6) hown hK.1 hP 4 rfl rfl 3 (by decide) (mm_h hts mm_w1711) (fun _ h9 => h9) rfl dX11_paste_118 ?_
                            refine lv_iload hx hb dX11_paste_121 (lv_at hl 4 rfl) ?_
                            refine lv_iload hx hb dX11_paste_123 (lv_at hl 5 rfl) ?_
                            refine va_copyl hx hb (by rw [hml]; exact hl.1.symm) hown (mm_h hts mm_w1712) (mm_h hts mm_w388) (mm_h hts mm_w389) (mm_h hts mm_w390) hK.1 hP hD hS 7 5 2 2 rfl rfl rfl rfl rfl (mm_nn w207 (by decide)) (mm_nn w215 (by decide)) (mm_nn w208 (by decide)) (mm_cpR w209 w207 w208 h8 (by decide)) (mm_cpR w216 w215 w208 h5 (by decide)) (fun _ _ => rfl) (by rw [hRf]; exact Nat.le_of_ble_eq_true rfl) (by rw [hRl]; exact Nat.le_of_ble_eq_true rfl) dX11_paste_125 ?_
                            clear hP hD hS
                            clear H locs
                            obtain ⟨g220, eg220⟩ : ∃ z : Nat → Int64, z = va_cpy f_2 f_1 i_1.toNatClampNeg i_3.toNatClampNeg i_4.toNatClampNeg := ⟨_, rfl⟩
                            rw [← eg220]
                            intro H locs (hP : va_P G vwCl [(a_0, .inr (11, [.ref a_1, .ref a_2, .ref a_3, .ref a_4, .ref a_5, .ref a_6, .ref a_7, .ref a_8, .ref a_9, .ref a_10, .ref a_11])), (a_6, .inl (cy 6, 4, .inr (.inr (.inr (.inr (va_up (va_up (va_up (va_up (fun _ => none) 0 (some a_12)) 1 (some a_13)) 2 (some a_14)) 3 (some a_15))))))), (a_12, .inr (6, [.int i_5, .int i_6, .int i_7, .ref a_16])), (a_16, .inl (cy 2, 60, .inr (.inl f_0))), (a_13, .inr (6, [.int i_8, .int i_9, .int i_10, .ref a_17])), (a_17, .inl (cy 2, 60, .inr (.inl g220))), (a_14, .inr (6, [.int i_11, .int i_12, .int i_13, .ref a_18])), (a_18, .inl (cy 2, 60, .inr (.inl f_2))), (a_15, .inr (6, [.int i_14, .int i_15, .int i_16, .ref a_19])), (a_19, .inl (cy 2, 60, .inr (.inl f_3)))] H) (hD : va_D A [(a_0, .inr (11, [.ref a_1, .ref a_2, .ref a_3, .ref a_4, .ref a_5, .ref a_6, .ref a_7, .ref a_8, .ref a_9, .ref a_10, .ref a_11])), (a_6, .inl (cy 6, 4, .inr (.inr (.inr (.inr (va_up (va_up (va_up (va_up (fun _ => none) 0 (some a_12)) 1 (some a_13)) 2 (some a_14)) 3 (some a_15))))))), (a_12, .inr (6, [.int i_5, .int i_6, .int i_7, .ref a_16])), (a_16, .inl (cy 2, 60, .inr (.inl f_0))), (a_13, .inr (6, [.int i_8, .int i_9, .int i_10, .ref a_17])), (a_17, .inl (cy 2, 60, .inr (.inl g220))), (a_14, .inr (6, [.int i_11, .int i_12, .int i_13, .ref a_18])), (a_18, .inl (cy 2, 60, .inr (.inl f_2))), (a_15, .inr (6, [.int i_14, .int i_15, .int i_16, .ref a_19])), (a_19, .inl (cy 2, 60, .inr (.inl f_3)))]) hS
                            refine lv_iconst (v := 0) hx hb dX11_paste_128 (by decide) ?_
                            subst hAe
                            rw [hQ]
                            exact W.iret (v := 0) hx hb hr (fun t ht hW => ⟨⟨0, (f_0, g220, f_2, f_3), rfl, (mm_wk mm_k0 (by decide)), by rw [ht]; exact hP, hK.warm hW, hD⟩, hS.F ht⟩) hS.2.2 dX11_paste_129
                          · exact mm_eqN c219.symm mm_k0 mm_k1 (by decide)
                  · refine lv_bipush (v := (-8)) hx hb dX11_paste_65 (by decide) ?_
                    subst hAe
                    rw [hQ]
                    exact W.iret (v := (-8)) hx hb hr (fun t ht hW => ⟨⟨(-8), (f_0, f_1, f_2, f_3), rfl, (mm_wk mm_km8 (by decide)), by rw [ht]; exact hP, hK.warm hW, hD⟩, hS.F ht⟩) hS.2.2 dX11_paste_67
                · have q221 := mm_eqI (lo := 0) (hi := 0) c202 h3 mm_k0 (by decide)
                  refine lv_bipush (v := (-6)) hx hb dX11_paste_41 (by decide) ?_
                  subst hAe
                  rw [hQ]
                  exact W.iret (v := (-6)) hx hb hr (fun t ht hW => ⟨⟨(-6), (f_0, f_1, f_2, f_3), rfl, (mm_wk mm_km6 (by decide)), by rw [ht]; exact hP, hK.warm hW, hD⟩, hS.F ht⟩) hS.2.2 dX11_paste_43
              · refine W.eq (g2 := F0 m 35 ls [.ref a_14]) rfl ?_
                refine va_get (D := G) (ci := 6) (v := .int i_11) (C := RX6) (T := TX6) (N := 4) hx hb hts (mm_i inlX6) hown hK.1 hP 6 rfl rfl 0 (by decide) (mm_h hts mm_w1239) (fun _ h9 => h9) rfl dX11_paste_35 ?_
                refine lv_if_ne (tgt := 44) hx hb dX11_paste_38 (by decide) (fun c222 => ?_) (fun c222 => ?_)
                · refine lv_aload_n hx hb dX11_paste_44 rfl (lv_at hl 0 rfl) ?_
                  refine va_get (D := G) (ci := 11) (v := .ref a_6) (C := RX11) (T := TX11) (N := 11) hx hb hts (mm_i inlX11) hown hK.1 hP 0 rfl rfl 5 (by decide) (mm_h hts mm_w32) (fun _ h9 => h9) rfl dX11_paste_45 ?_
                  refine lv_iload_n hx hb dX11_paste_48 rfl (lv_at hl 1 rfl) ?_
                  refine va_aldq hx hb hK.1 hP 1 6 rfl rfl (mm_in mm_k2 (by decide)) dX11_paste_49 ?_
                  refine W.eq (g2 := F0 m 50 ls [.ref a_14]) rfl ?_
                  refine va_get (D := G) (ci := 6) (v := .int i_12) (C := RX6) (T := TX6) (N := 4) hx hb hts (mm_i inlX6) hown hK.1 hP 6 rfl rfl 1 (by decide) (mm_h hts mm_w1710) (fun _ h9 => h9) rfl dX11_paste_50 ?_
                  refine lv_aload_n hx hb dX11_paste_53 rfl (lv_at hl 0 rfl) ?_
                  refine va_get (D := G) (ci := 11) (v := .ref a_6) (C := RX11) (T := TX11) (N := 11) hx hb hts (mm_i inlX11) hown hK.1 hP 0 rfl rfl 5 (by decide) (mm_h hts mm_w32) (fun _ h9 => h9) rfl dX11_paste_54 ?_
                  refine lv_iload_n hx hb dX11_paste_57 rfl (lv_at hl 3 rfl) ?_
                  refine va_aldq hx hb hK.1 hP 1 6 rfl rfl (mm_in mm_k2 (by decide)) dX11_paste_58 ?_
                  refine W.eq (g2 := F0 m 59 ls [.ref a_14, .int i_12]) rfl ?_
                  refine va_get (D := G) (ci := 6) (v := .int i_12) (C := RX6) (T := TX6) (N := 4) hx hb hts (mm_i inlX6) hown hK.1 hP 6 rfl rfl 1 (by decide) (mm_h hts mm_w1710) (fun _ h9 => h9) rfl dX11_paste_59 ?_
                  refine lv_icmp_eq (tgt := 68) hx hb dX11_paste_62 (by decide) (fun c223 => ?_) (fun c223 => ?_)
                  · refine lv_aload_n hx hb dX11_paste_68 rfl (lv_at hl 0 rfl) ?_
                    refine va_get (D := G) (ci := 11) (v := .ref a_6) (C := RX11) (T := TX11) (N := 11) hx hb hts (mm_i inlX11) hown hK.1 hP 0 rfl rfl 5 (by decide) (mm_h hts mm_w32) (fun _ h9 => h9) rfl dX11_paste_69 ?_
                    refine lv_iload_n hx hb dX11_paste_72 rfl (lv_at hl 1 rfl) ?_
                    refine va_aldq hx hb hK.1 hP 1 6 rfl rfl (mm_in mm_k2 (by decide)) dX11_paste_73 ?_
                    refine W.eq (g2 := F0 m 74 ls [.ref a_14]) rfl ?_
                    refine lv_iload_n hx hb dX11_paste_74 rfl (lv_at hl 2 rfl) ?_
                    refine lv_iload hx hb dX11_paste_75 (lv_at hl 5 rfl) ?_
                    refine mm_finir (va_runV (As := [.int i_1, .int i_4]) (rest := []) ⟨hx, hb, hml, hown, hts⟩ (K541_X6_reaches l G cy H.size a_14 i_1 i_4 i_11 i_12 i_13 a_18 h8) (cwV 2 hts (mm_gV mm_w1713 mm_w1714 mm_w1715 mm_w34 mm_w1716) rfl rfl rfl hd_X6_reaches ⟨by rw [hRf]; exact Nat.le_of_ble_eq_true rfl, by rw [hRl]; exact Nat.le_of_ble_eq_true rfl⟩) (mm_preV hK hZ hS hA hP hD [6] rfl rfl 6 rfl rfl rfl) rfl rfl hl.1 rfl (lv_room (Nat.le_of_ble_eq_true rfl)) dX11_paste_77 ⟨by rw [hRc]; exact Nat.le_of_ble_eq_true rfl, by rw [hRs]; exact Nat.le_of_ble_eq_true rfl⟩) hP hD hS hA [6] rfl (fun _ => rfl) ?_
                    clear hP hD hS
                    clear H locs
                    intro v224 _u H locs hw hP hD hS
                    rcases hw with ⟨rfl, w225⟩ | ⟨rfl, w226, w227, w228⟩
                    · refine lv_if_eq (tgt := 99) hx hb dX11_paste_80 (by decide) (fun c229 => ?_) (fun c229 => ?_)
                      · refine lv_bipush (v := (-7)) hx hb dX11_paste_99 (by decide) ?_
                        subst hAe
                        rw [hQ]
                        exact W.iret (v := (-7)) hx hb hr (fun t ht hW => ⟨⟨(-7), (f_0, f_1, f_2, f_3), rfl, (mm_wk mm_km7 (by decide)), by rw [ht]; exact hP, hK.warm hW, hD⟩, hS.F ht⟩) hS.2.2 dX11_paste_101
                      · have q230 := mm_neL (lo := 1) (mm_ne c229) mm_k0 mm_k0 (by decide) (by decide)
                        exact mm_no q230 (by decide)
                    · refine lv_if_eq (tgt := 99) hx hb dX11_paste_80 (by decide) (fun c231 => ?_) (fun c231 => ?_)
                      · exact mm_eqN c231.symm mm_k0 mm_k1 (by decide)
                      · refine lv_aload_n hx hb dX11_paste_83 rfl (lv_at hl 0 rfl) ?_
                        refine va_get (D := G) (ci := 11) (v := .ref a_6) (C := RX11) (T := TX11) (N := 11) hx hb hts (mm_i inlX11) hown hK.1 hP 0 rfl rfl 5 (by decide) (mm_h hts mm_w32) (fun _ h9 => h9) rfl dX11_paste_84 ?_
                        refine lv_iload_n hx hb dX11_paste_87 rfl (lv_at hl 3 rfl) ?_
                        refine va_aldq hx hb hK.1 hP 1 6 rfl rfl (mm_in mm_k2 (by decide)) dX11_paste_88 ?_
                        refine W.eq (g2 := F0 m 89 ls [.ref a_14]) rfl ?_
                        refine lv_iload hx hb dX11_paste_89 (lv_at hl 4 rfl) ?_
                        refine lv_iload hx hb dX11_paste_91 (lv_at hl 5 rfl) ?_
                        refine mm_finir (va_runV (As := [.int i_3, .int i_4]) (rest := []) ⟨hx, hb, hml, hown, hts⟩ (K542_X6_reaches l G cy H.size a_14 i_3 i_4 i_11 i_12 i_13 a_18 w227 h8) (cwV 2 hts (mm_gV mm_w1713 mm_w1714 mm_w1715 mm_w34 mm_w1716) rfl rfl rfl hd_X6_reaches ⟨by rw [hRf]; exact Nat.le_of_ble_eq_true rfl, by rw [hRl]; exact Nat.le_of_ble_eq_true rfl⟩) (mm_preV hK hZ hS hA hP hD [6] rfl rfl 6 rfl rfl rfl) rfl rfl hl.1 rfl (lv_room (Nat.le_of_ble_eq_true rfl)) dX11_paste_93 ⟨by rw [hRc]; exact Nat.le_of_ble_eq_true rfl, by rw [hRs]; exact Nat.le_of_ble_eq_true rfl⟩) hP hD hS hA [6] rfl (fun _ => rfl) ?_
                        clear hP hD hS
                        clear H locs
                        intro v232 _u H locs hw hP hD hS
                        rcases hw with ⟨rfl, w233⟩ | ⟨rfl, w234, w235⟩
                        · refine lv_if_ne (tgt := 102) hx hb dX11_paste_96 (by decide) (fun c236 => ?_) (fun c236 => ?_)
                          · have q237 := mm_neL (lo := 1) (mm_ne c236) mm_k0 mm_k0 (by decide) (by decide)
                            exact mm_no q237 (by decide)
                          · refine lv_bipush (v := (-7)) hx hb dX11_paste_99 (by decide) ?_
                            subst hAe
                            rw [hQ]
                            exact W.iret (v := (-7)) hx hb hr (fun t ht hW => ⟨⟨(-7), (f_0, f_1, f_2, f_3), rfl, (mm_wk mm_km7 (by decide)), by rw [ht]; exact hP, hK.warm hW, hD⟩, hS.F ht⟩) hS.2.2 dX11_paste_101
                        · refine lv_if_ne (tgt := 102) hx hb dX11_paste_96 (by decide) (fun c238 => ?_) (fun c238 => ?_)
                          · refine lv_aload_n hx hb dX11_paste_102 rfl (lv_at hl 0 rfl) ?_
                            refine va_get (D := G) (ci := 11) (v := .ref a_6) (C := RX11) (T := TX11) (N := 11) hx hb hts (mm_i inlX11) hown hK.1 hP 0 rfl rfl 5 (by decide) (mm_h hts mm_w32) (fun _ h9 => h9) rfl dX11_paste_103 ?_
                            refine lv_iload_n hx hb dX11_paste_106 rfl (lv_at hl 1 rfl) ?_
                            refine va_aldq hx hb hK.1 hP 1 6 rfl rfl (mm_in mm_k2 (by decide)) dX11_paste_107 ?_
                            refine W.eq (g2 := F0 m 108 ls [.ref a_14]) rfl ?_
                            refine va_get (D := G) (ci := 6) (v := .ref a_18) (C := RX6) (T := TX6) (N := 4) hx hb hts (mm_i inlX6) hown hK.1 hP 6 rfl rfl 3 (by decide) (mm_h hts mm_w1711) (fun _ h9 => h9) rfl dX11_paste_108 ?_
                            refine lv_iload_n hx hb dX11_paste_111 rfl (lv_at hl 2 rfl) ?_
                            refine lv_aload_n hx hb dX11_paste_112 rfl (lv_at hl 0 rfl) ?_
                            refine va_get (D := G) (ci := 11) (v := .ref a_6) (C := RX11) (T := TX11) (N := 11) hx hb hts (mm_i inlX11) hown hK.1 hP 0 rfl rfl 5 (by decide) (mm_h hts mm_w32) (fun _ h9 => h9) rfl dX11_paste_113 ?_
                            refine lv_iload_n hx hb dX11_paste_116 rfl (lv_at hl 3 rfl) ?_
                            refine va_aldq hx hb hK.1 hP 1 6 rfl rfl (mm_in mm_k2 (by decide)) dX11_paste_117 ?_
                            refine W.eq (g2 := F0 m 118 ls [.ref a_14, .int i_1, .ref a_18]) rfl ?_
                            refine va_get (D := G) (ci := 6) (v := .ref a_18) (C := RX6) (T := TX6) (N := 4) hx hb hts (mm_i inlX6) hown hK.1 hP 6 rfl rfl 3 (by decide) (mm_h hts mm_w1711) (fun _ h9 => h9) rfl dX11_paste_118 ?_
                            refine lv_iload hx hb dX11_paste_121 (lv_at hl 4 rfl) ?_
                            refine lv_iload hx hb dX11_paste_123 (lv_at hl 5 rfl) ?_
                            refine va_copyl hx hb (by rw [hml]; exact hl.1.symm) hown (mm_h hts mm_w1712) (mm_h hts mm_w388) (mm_h hts mm_w389) (mm_h hts mm_w390) hK.1 hP hD hS 7 7 2 2 rfl rfl rfl rfl rfl (mm_nn w226 (by decide)) (mm_nn w234 (by decide)) (mm_nn w227 (by decide)) (mm_cpR w228 w226 w227 h8 (by decide)) (mm_cpR w235 w234 w227 h8 (by decide)) (fun _ _ => rfl) (by rw [hRf]; exact Nat.le_of_ble_eq_true rfl) (by rw [hRl]; exact Nat.le_of_ble_eq_true rfl) dX11_paste_125 ?_
                            clear hP hD hS
                            clear H locs
                            obtain ⟨g239, eg239⟩ : ∃ z : Nat → Int64, z = va_cpy f_2 f_2 i_1.toNatClampNeg i_3.toNatClampNeg i_4.toNatClampNeg := ⟨_, rfl⟩
                            rw [← eg239]
                            intro H locs (hP : va_P G vwCl [(a_0, .inr (11, [.ref a_1, .ref a_2, .ref a_3, .ref a_4, .ref a_5, .ref a_6, .ref a_7, .ref a_8, .ref a_9, .ref a_10, .ref a_11])), (a_6, .inl (cy 6, 4, .inr (.inr (.inr (.inr (va_up (va_up (va_up (va_up (fun _ => none) 0 (some a_12)) 1 (some a_13)) 2 (some a_14)) 3 (some a_15))))))), (a_12, .inr (6, [.int i_5, .int i_6, .int i_7, .ref a_16])), (a_16, .inl (cy 2, 60, .inr (.inl f_0))), (a_13, .inr (6, [.int i_8, .int i_9, .int i_10, .ref a_17])), (a_17, .inl (cy 2, 60, .inr (.inl f_1))), (a_14, .inr (6, [.int i_11, .int i_12, .int i_13, .ref a_18])), (a_18, .inl (cy 2, 60, .inr (.inl g239))), (a_15, .inr (6, [.int i_14, .int i_15, .int i_16, .ref a_19])), (a_19, .inl (cy 2, 60, .inr (.inl f_3)))] H) (hD : va_D A [(a_0, .inr (11, [.ref a_1, .ref a_2, .ref a_3, .ref a_4, .ref a_5, .ref a_6, .ref a_7, .ref a_8, .ref a_9, .ref a_10, .ref a_11])), (a_6, .inl (cy 6, 4, .inr (.inr (.inr (.inr (va_up (va_up (va_up (va_up (fun _ => none) 0 (some a_12)) 1 (some a_13)) 2 (some a_14)) 3 (some a_15))))))), (a_12, .inr (6, [.int i_5, .int i_6, .int i_7, .ref a_16])), (a_16, .inl (cy 2, 60, .inr (.inl f_0))), (a_13, .inr (6, [.int i_8, .int i_9, .int i_10, .ref a_17])), (a_17, .inl (cy 2, 60, .inr (.inl f_1))), (a_14, .inr (6, [.int i_11, .int i_12, .int i_13, .ref a_18])), (a_18, .inl (cy 2, 60, .inr (.inl g239))), (a_15, .inr (6, [.int i_14, .int i_15, .int i_16, .ref a_19])), (a_19, .inl (cy 2, 60, .inr (.inl f_3)))]) hS
                            refine lv_iconst (v := 0) hx hb dX11_paste_128 (by decide) ?_
                            subst hAe
                            rw [hQ]
                            exact W.iret (v := 0) hx hb hr (fun t ht hW => ⟨⟨0, (f_0, f_1, g239, f_3), rfl, (mm_wk mm_k0 (by decide)), by rw [ht]; exact hP, hK.warm hW, hD⟩, hS.F ht⟩) hS.2.2 dX11_paste_129
                          · exact mm_eqN c238.symm mm_k0 mm_k1 (by decide)
                  · refine lv_bipush (v := (-8)) hx hb dX11_paste_65 (by decide) ?_
                    subst hAe
                    rw [hQ]
                    exact W.iret (v := (-8)) hx hb hr (fun t ht hW => ⟨⟨(-8), (f_0, f_1, f_2, f_3), rfl, (mm_wk mm_km8 (by decide)), by rw [ht]; exact hP, hK.warm hW, hD⟩, hS.F ht⟩) hS.2.2 dX11_paste_67
                · exact mm_eqN c222.symm mm_k0 q180 (by decide)
              · refine W.eq (g2 := F0 m 35 ls [.ref a_15]) rfl ?_
                refine va_get (D := G) (ci := 6) (v := .int i_14) (C := RX6) (T := TX6) (N := 4) hx hb hts (mm_i inlX6) hown hK.1 hP 8 rfl rfl 0 (by decide) (mm_h hts mm_w1239) (fun _ h9 => h9) rfl dX11_paste_35 ?_
                refine lv_if_ne (tgt := 44) hx hb dX11_paste_38 (by decide) (fun c240 => ?_) (fun c240 => ?_)
                · have q241 := mm_neL (lo := 1) (mm_ne c240) h9 mm_k0 (by decide) (by decide)
                  refine lv_aload_n hx hb dX11_paste_44 rfl (lv_at hl 0 rfl) ?_
                  refine va_get (D := G) (ci := 11) (v := .ref a_6) (C := RX11) (T := TX11) (N := 11) hx hb hts (mm_i inlX11) hown hK.1 hP 0 rfl rfl 5 (by decide) (mm_h hts mm_w32) (fun _ h9 => h9) rfl dX11_paste_45 ?_
                  refine lv_iload_n hx hb dX11_paste_48 rfl (lv_at hl 1 rfl) ?_
                  refine va_aldq hx hb hK.1 hP 1 6 rfl rfl (mm_in mm_k2 (by decide)) dX11_paste_49 ?_
                  refine W.eq (g2 := F0 m 50 ls [.ref a_14]) rfl ?_
                  refine va_get (D := G) (ci := 6) (v := .int i_12) (C := RX6) (T := TX6) (N := 4) hx hb hts (mm_i inlX6) hown hK.1 hP 6 rfl rfl 1 (by decide) (mm_h hts mm_w1710) (fun _ h9 => h9) rfl dX11_paste_50 ?_
                  refine lv_aload_n hx hb dX11_paste_53 rfl (lv_at hl 0 rfl) ?_
                  refine va_get (D := G) (ci := 11) (v := .ref a_6) (C := RX11) (T := TX11) (N := 11) hx hb hts (mm_i inlX11) hown hK.1 hP 0 rfl rfl 5 (by decide) (mm_h hts mm_w32) (fun _ h9 => h9) rfl dX11_paste_54 ?_
                  refine lv_iload_n hx hb dX11_paste_57 rfl (lv_at hl 3 rfl) ?_
                  refine va_aldq hx hb hK.1 hP 1 6 rfl rfl (mm_in mm_k3 (by decide)) dX11_paste_58 ?_
                  refine W.eq (g2 := F0 m 59 ls [.ref a_15, .int i_12]) rfl ?_
                  refine va_get (D := G) (ci := 6) (v := .int i_15) (C := RX6) (T := TX6) (N := 4) hx hb hts (mm_i inlX6) hown hK.1 hP 8 rfl rfl 1 (by decide) (mm_h hts mm_w1710) (fun _ h9 => h9) rfl dX11_paste_59 ?_
                  refine lv_icmp_eq (tgt := 68) hx hb dX11_paste_62 (by decide) (fun c242 => ?_) (fun c242 => ?_)
                  · refine lv_aload_n hx hb dX11_paste_68 rfl (lv_at hl 0 rfl) ?_
                    refine va_get (D := G) (ci := 11) (v := .ref a_6) (C := RX11) (T := TX11) (N := 11) hx hb hts (mm_i inlX11) hown hK.1 hP 0 rfl rfl 5 (by decide) (mm_h hts mm_w32) (fun _ h9 => h9) rfl dX11_paste_69 ?_
                    refine lv_iload_n hx hb dX11_paste_72 rfl (lv_at hl 1 rfl) ?_
                    refine va_aldq hx hb hK.1 hP 1 6 rfl rfl (mm_in mm_k2 (by decide)) dX11_paste_73 ?_
                    refine W.eq (g2 := F0 m 74 ls [.ref a_14]) rfl ?_
                    refine lv_iload_n hx hb dX11_paste_74 rfl (lv_at hl 2 rfl) ?_
                    refine lv_iload hx hb dX11_paste_75 (lv_at hl 5 rfl) ?_
                    refine mm_finir (va_runV (As := [.int i_1, .int i_4]) (rest := []) ⟨hx, hb, hml, hown, hts⟩ (K541_X6_reaches l G cy H.size a_14 i_1 i_4 i_11 i_12 i_13 a_18 h8) (cwV 2 hts (mm_gV mm_w1713 mm_w1714 mm_w1715 mm_w34 mm_w1716) rfl rfl rfl hd_X6_reaches ⟨by rw [hRf]; exact Nat.le_of_ble_eq_true rfl, by rw [hRl]; exact Nat.le_of_ble_eq_true rfl⟩) (mm_preV hK hZ hS hA hP hD [6] rfl rfl 6 rfl rfl rfl) rfl rfl hl.1 rfl (lv_room (Nat.le_of_ble_eq_true rfl)) dX11_paste_77 ⟨by rw [hRc]; exact Nat.le_of_ble_eq_true rfl, by rw [hRs]; exact Nat.le_of_ble_eq_true rfl⟩) hP hD hS hA [6] rfl (fun _ => rfl) ?_
                    clear hP hD hS
                    clear H locs
                    intro v243 _u H locs hw hP hD hS
                    rcases hw with ⟨rfl, w244⟩ | ⟨rfl, w245, w246, w247⟩
                    · refine lv_if_eq (tgt := 99) hx hb dX11_paste_80 (by decide) (fun c248 => ?_) (fun c248 => ?_)
                      · refine lv_bipush (v := (-7)) hx hb dX11_paste_99 (by decide) ?_
                        subst hAe
                        rw [hQ]
                        exact W.iret (v := (-7)) hx hb hr (fun t ht hW => ⟨⟨(-7), (f_0, f_1, f_2, f_3), rfl, (mm_wk mm_km7 (by decide)), by rw [ht]; exact hP, hK.warm hW, hD⟩, hS.F ht⟩) hS.2.2 dX11_paste_101
                      · have q249 := mm_neL (lo := 1) (mm_ne c248) mm_k0 mm_k0 (by decide) (by decide)
                        exact mm_no q249 (by decide)
                    · refine lv_if_eq (tgt := 99) hx hb dX11_paste_80 (by decide) (fun c250 => ?_) (fun c250 => ?_)
                      · exact mm_eqN c250.symm mm_k0 mm_k1 (by decide)
                      · refine lv_aload_n hx hb dX11_paste_83 rfl (lv_at hl 0 rfl) ?_
                        refine va_get (D := G) (ci := 11) (v := .ref a_6) (C := RX11) (T := TX11) (N := 11) hx hb hts (mm_i inlX11) hown hK.1 hP 0 rfl rfl 5 (by decide) (mm_h hts mm_w32) (fun _ h9 => h9) rfl dX11_paste_84 ?_
                        refine lv_iload_n hx hb dX11_paste_87 rfl (lv_at hl 3 rfl) ?_
                        refine va_aldq hx hb hK.1 hP 1 6 rfl rfl (mm_in mm_k3 (by decide)) dX11_paste_88 ?_
                        refine W.eq (g2 := F0 m 89 ls [.ref a_15]) rfl ?_
                        refine lv_iload hx hb dX11_paste_89 (lv_at hl 4 rfl) ?_
                        refine lv_iload hx hb dX11_paste_91 (lv_at hl 5 rfl) ?_
                        refine mm_finir (va_runV (As := [.int i_3, .int i_4]) (rest := []) ⟨hx, hb, hml, hown, hts⟩ (K542_X6_reaches l G cy H.size a_15 i_3 i_4 i_14 i_15 i_16 a_19 w246 h11) (cwV 2 hts (mm_gV mm_w1713 mm_w1714 mm_w1715 mm_w34 mm_w1716) rfl rfl rfl hd_X6_reaches ⟨by rw [hRf]; exact Nat.le_of_ble_eq_true rfl, by rw [hRl]; exact Nat.le_of_ble_eq_true rfl⟩) (mm_preV hK hZ hS hA hP hD [8] rfl rfl 8 rfl rfl rfl) rfl rfl hl.1 rfl (lv_room (Nat.le_of_ble_eq_true rfl)) dX11_paste_93 ⟨by rw [hRc]; exact Nat.le_of_ble_eq_true rfl, by rw [hRs]; exact Nat.le_of_ble_eq_true rfl⟩) hP hD hS hA [8] rfl (fun _ => rfl) ?_
                        clear hP hD hS
                        clear H locs
                        intro v251 _u H locs hw hP hD hS
                        rcases hw with ⟨rfl, w252⟩ | ⟨rfl, w253, w254⟩
                        · refine lv_if_ne (tgt := 102) hx hb dX11_paste_96 (by decide) (fun c255 => ?_) (fun c255 => ?_)
                          · have q256 := mm_neL (lo := 1) (mm_ne c255) mm_k0 mm_k0 (by decide) (by decide)
                            exact mm_no q256 (by decide)
                          · refine lv_bipush (v := (-7)) hx hb dX11_paste_99 (by decide) ?_
                            subst hAe
                            rw [hQ]
                            exact W.iret (v := (-7)) hx hb hr (fun t ht hW => ⟨⟨(-7), (f_0, f_1, f_2, f_3), rfl, (mm_wk mm_km7 (by decide)), by rw [ht]; exact hP, hK.warm hW, hD⟩, hS.F ht⟩) hS.2.2 dX11_paste_101
                        · refine lv_if_ne (tgt := 102) hx hb dX11_paste_96 (by decide) (fun c257 => ?_) (fun c257 => ?_)
                          · refine lv_aload_n hx hb dX11_paste_102 rfl (lv_at hl 0 rfl) ?_
                            refine va_get (D := G) (ci := 11) (v := .ref a_6) (C := RX11) (T := TX11) (N := 11) hx hb hts (mm_i inlX11) hown hK.1 hP 0 rfl rfl 5 (by decide) (mm_h hts mm_w32) (fun _ h9 => h9) rfl dX11_paste_103 ?_
                            refine lv_iload_n hx hb dX11_paste_106 rfl (lv_at hl 1 rfl) ?_
                            refine va_aldq hx hb hK.1 hP 1 6 rfl rfl (mm_in mm_k2 (by decide)) dX11_paste_107 ?_
                            refine W.eq (g2 := F0 m 108 ls [.ref a_14]) rfl ?_
                            refine va_get (D := G) (ci := 6) (v := .ref a_18) (C := RX6) (T := TX6) (N := 4) hx hb hts (mm_i inlX6) hown hK.1 hP 6 rfl rfl 3 (by decide) (mm_h hts mm_w1711) (fun _ h9 => h9) rfl dX11_paste_108 ?_
                            refine lv_iload_n hx hb dX11_paste_111 rfl (lv_at hl 2 rfl) ?_
                            refine lv_aload_n hx hb dX11_paste_112 rfl (lv_at hl 0 rfl) ?_
                            refine va_get (D := G) (ci := 11) (v := .ref a_6) (C := RX11) (T := TX11) (N := 11) hx hb hts (mm_i inlX11) hown hK.1 hP 0 rfl rfl 5 (by decide) (mm_h hts mm_w32) (fun _ h9 => h9) rfl dX11_paste_113 ?_
                            refine lv_iload_n hx hb dX11_paste_116 rfl (lv_at hl 3 rfl) ?_
                            refine va_aldq hx hb hK.1 hP 1 6 rfl rfl (mm_in mm_k3 (by decide)) dX11_paste_117 ?_
                            refine W.eq (g2 := F0 m 118 ls [.ref a_15, .int i_1, .ref a_18]) rfl ?_
                            refine va_get (D := G) (ci := 6) (v := .ref a_19) (C := RX6) (T := TX6) (N := 4) hx hb hts (mm_i inlX6) hown hK.1 hP 8 rfl rfl 3 (by decide) (mm_h hts mm_w1711) (fun _ h9 => h9) rfl dX11_paste_118 ?_
                            refine lv_iload hx hb dX11_paste_121 (lv_at hl 4 rfl) ?_
                            refine lv_iload hx hb dX11_paste_123 (lv_at hl 5 rfl) ?_
                            refine va_copyl hx hb (by rw [hml]; exact hl.1.symm) hown (mm_h hts mm_w1712) (mm_h hts mm_w388) (mm_h hts mm_w389) (mm_h hts mm_w390) hK.1 hP hD hS 7 9 2 2 rfl rfl rfl rfl rfl (mm_nn w245 (by decide)) (mm_nn w253 (by decide)) (mm_nn w246 (by decide)) (mm_cpR w247 w245 w246 h8 (by decide)) (mm_cpR w254 w253 w246 h11 (by decide)) (fun _ _ => rfl) (by rw [hRf]; exact Nat.le_of_ble_eq_true rfl) (by rw [hRl]; exact Nat.le_of_ble_eq_true rfl) dX11_paste_125 ?_
                            clear hP hD hS
                            clear H locs
                            obtain ⟨g258, eg258⟩ : ∃ z : Nat → Int64, z = va_cpy f_2 f_3 i_1.toNatClampNeg i_3.toNatClampNeg i_4.toNatClampNeg := ⟨_, rfl⟩
                            rw [← eg258]
                            intro H locs (hP : va_P G vwCl [(a_0, .inr (11, [.ref a_1, .ref a_2, .ref a_3, .ref a_4, .ref a_5, .ref a_6, .ref a_7, .ref a_8, .ref a_9, .ref a_10, .ref a_11])), (a_6, .inl (cy 6, 4, .inr (.inr (.inr (.inr (va_up (va_up (va_up (va_up (fun _ => none) 0 (some a_12)) 1 (some a_13)) 2 (some a_14)) 3 (some a_15))))))), (a_12, .inr (6, [.int i_5, .int i_6, .int i_7, .ref a_16])), (a_16, .inl (cy 2, 60, .inr (.inl f_0))), (a_13, .inr (6, [.int i_8, .int i_9, .int i_10, .ref a_17])), (a_17, .inl (cy 2, 60, .inr (.inl f_1))), (a_14, .inr (6, [.int i_11, .int i_12, .int i_13, .ref a_18])), (a_18, .inl (cy 2, 60, .inr (.inl f_2))), (a_15, .inr (6, [.int i_14, .int i_15, .int i_16, .ref a_19])), (a_19, .inl (cy 2, 60, .inr (.inl g258)))] H) (hD : va_D A [(a_0, .inr (11, [.ref a_1, .ref a_2, .ref a_3, .ref a_4, .ref a_5, .ref a_6, .ref a_7, .ref a_8, .ref a_9, .ref a_10, .ref a_11])), (a_6, .inl (cy 6, 4, .inr (.inr (.inr (.inr (va_up (va_up (va_up (va_up (fun _ => none) 0 (some a_12)) 1 (some a_13)) 2 (some a_14)) 3 (some a_15))))))), (a_12, .inr (6, [.int i_5, .int i_6, .int i_7, .ref a_16])), (a_16, .inl (cy 2, 60, .inr (.inl f_0))), (a_13, .inr (6, [.int i_8, .int i_9, .int i_10, .ref a_17])), (a_17, .inl (cy 2, 60, .inr (.inl f_1))), (a_14, .inr (6, [.int i_11, .int i_12, .int i_13, .ref a_18])), (a_18, .inl (cy 2, 60, .inr (.inl f_2))), (a_15, .inr (6, [.int i_14, .int i_15, .int i_16, .ref a_19])), (a_19, .inl (cy 2, 60, .inr (.inl g258)))]) hS
                            refine lv_iconst (v := 0) hx hb dX11_paste_128 (by decide) ?_
                            subst hAe
                            rw [hQ]
                            exact W.iret (v := 0) hx hb hr (fun t ht hW => ⟨⟨0, (f_0, f_1, f_2, g258), rfl, (mm_wk mm_k0 (by decide)), by rw [ht]; exact hP, hK.warm hW, hD⟩, hS.F ht⟩) hS.2.2 dX11_paste_129
                          · exact mm_eqN c257.symm mm_k0 mm_k1 (by decide)
                  · refine lv_bipush (v := (-8)) hx hb dX11_paste_65 (by decide) ?_
                    subst hAe
                    rw [hQ]
                    exact W.iret (v := (-8)) hx hb hr (fun t ht hW => ⟨⟨(-8), (f_0, f_1, f_2, f_3), rfl, (mm_wk mm_km8 (by decide)), by rw [ht]; exact hP, hK.warm hW, hD⟩, hS.F ht⟩) hS.2.2 dX11_paste_67
                · have q259 := mm_eqI (lo := 0) (hi := 0) c240 h9 mm_k0 (by decide)
                  refine lv_bipush (v := (-6)) hx hb dX11_paste_41 (by decide) ?_
                  subst hAe
                  rw [hQ]
                  exact W.iret (v := (-6)) hx hb hr (fun t ht hW => ⟨⟨(-6), (f_0, f_1, f_2, f_3), rfl, (mm_wk mm_km6 (by decide)), by rw [ht]; exact hP, hK.warm hW, hD⟩, hS.F ht⟩) hS.2.2 dX11_paste_43
          · refine W.eq (g2 := F0 m 23 ls [.ref a_15]) rfl ?_
            refine va_get (D := G) (ci := 6) (v := .int i_14) (C := RX6) (T := TX6) (N := 4) hx hb hts (mm_i inlX6) hown hK.1 hP 8 rfl rfl 0 (by decide) (mm_h hts mm_w1239) (fun _ h9 => h9) rfl dX11_paste_23 ?_
            refine lv_if_eq (tgt := 41) hx hb dX11_paste_26 (by decide) (fun c260 => ?_) (fun c260 => ?_)
            · have q261 := mm_eqI (lo := 0) (hi := 0) c260 h9 mm_k0 (by decide)
              refine lv_bipush (v := (-6)) hx hb dX11_paste_41 (by decide) ?_
              subst hAe
              rw [hQ]
              exact W.iret (v := (-6)) hx hb hr (fun t ht hW => ⟨⟨(-6), (f_0, f_1, f_2, f_3), rfl, (mm_wk mm_km6 (by decide)), by rw [ht]; exact hP, hK.warm hW, hD⟩, hS.F ht⟩) hS.2.2 dX11_paste_43
            · have q262 := mm_neL (lo := 1) (mm_ne c260) h9 mm_k0 (by decide) (by decide)
              refine lv_aload_n hx hb dX11_paste_29 rfl (lv_at hl 0 rfl) ?_
              refine va_get (D := G) (ci := 11) (v := .ref a_6) (C := RX11) (T := TX11) (N := 11) hx hb hts (mm_i inlX11) hown hK.1 hP 0 rfl rfl 5 (by decide) (mm_h hts mm_w32) (fun _ h9 => h9) rfl dX11_paste_30 ?_
              refine lv_iload_n hx hb dX11_paste_33 rfl (lv_at hl 3 rfl) ?_
              refine va_aldq hx hb hK.1 hP 1 6 rfl rfl (mm_in w9 (by decide)) dX11_paste_34 ?_
              have c263 := mm_cases4 w9
              rcases c263 with rfl | rfl | rfl | rfl
              · refine W.eq (g2 := F0 m 35 ls [.ref a_12]) rfl ?_
                refine va_get (D := G) (ci := 6) (v := .int i_5) (C := RX6) (T := TX6) (N := 4) hx hb hts (mm_i inlX6) hown hK.1 hP 2 rfl rfl 0 (by decide) (mm_h hts mm_w1239) (fun _ h9 => h9) rfl dX11_paste_35 ?_
                refine lv_if_ne (tgt := 44) hx hb dX11_paste_38 (by decide) (fun c264 => ?_) (fun c264 => ?_)
                · have q265 := mm_neL (lo := 1) (mm_ne c264) h0 mm_k0 (by decide) (by decide)
                  refine lv_aload_n hx hb dX11_paste_44 rfl (lv_at hl 0 rfl) ?_
                  refine va_get (D := G) (ci := 11) (v := .ref a_6) (C := RX11) (T := TX11) (N := 11) hx hb hts (mm_i inlX11) hown hK.1 hP 0 rfl rfl 5 (by decide) (mm_h hts mm_w32) (fun _ h9 => h9) rfl dX11_paste_45 ?_
                  refine lv_iload_n hx hb dX11_paste_48 rfl (lv_at hl 1 rfl) ?_
                  refine va_aldq hx hb hK.1 hP 1 6 rfl rfl (mm_in mm_k3 (by decide)) dX11_paste_49 ?_
                  refine W.eq (g2 := F0 m 50 ls [.ref a_15]) rfl ?_
                  refine va_get (D := G) (ci := 6) (v := .int i_15) (C := RX6) (T := TX6) (N := 4) hx hb hts (mm_i inlX6) hown hK.1 hP 8 rfl rfl 1 (by decide) (mm_h hts mm_w1710) (fun _ h9 => h9) rfl dX11_paste_50 ?_
                  refine lv_aload_n hx hb dX11_paste_53 rfl (lv_at hl 0 rfl) ?_
                  refine va_get (D := G) (ci := 11) (v := .ref a_6) (C := RX11) (T := TX11) (N := 11) hx hb hts (mm_i inlX11) hown hK.1 hP 0 rfl rfl 5 (by decide) (mm_h hts mm_w32) (fun _ h9 => h9) rfl dX11_paste_54 ?_
                  refine lv_iload_n hx hb dX11_paste_57 rfl (lv_at hl 3 rfl) ?_
                  refine va_aldq hx hb hK.1 hP 1 6 rfl rfl (mm_in mm_k0 (by decide)) dX11_paste_58 ?_
                  refine W.eq (g2 := F0 m 59 ls [.ref a_12, .int i_15]) rfl ?_
                  refine va_get (D := G) (ci := 6) (v := .int i_6) (C := RX6) (T := TX6) (N := 4) hx hb hts (mm_i inlX6) hown hK.1 hP 2 rfl rfl 1 (by decide) (mm_h hts mm_w1710) (fun _ h9 => h9) rfl dX11_paste_59 ?_
                  refine lv_icmp_eq (tgt := 68) hx hb dX11_paste_62 (by decide) (fun c266 => ?_) (fun c266 => ?_)
                  · refine lv_aload_n hx hb dX11_paste_68 rfl (lv_at hl 0 rfl) ?_
                    refine va_get (D := G) (ci := 11) (v := .ref a_6) (C := RX11) (T := TX11) (N := 11) hx hb hts (mm_i inlX11) hown hK.1 hP 0 rfl rfl 5 (by decide) (mm_h hts mm_w32) (fun _ h9 => h9) rfl dX11_paste_69 ?_
                    refine lv_iload_n hx hb dX11_paste_72 rfl (lv_at hl 1 rfl) ?_
                    refine va_aldq hx hb hK.1 hP 1 6 rfl rfl (mm_in mm_k3 (by decide)) dX11_paste_73 ?_
                    refine W.eq (g2 := F0 m 74 ls [.ref a_15]) rfl ?_
                    refine lv_iload_n hx hb dX11_paste_74 rfl (lv_at hl 2 rfl) ?_
                    refine lv_iload hx hb dX11_paste_75 (lv_at hl 5 rfl) ?_
                    refine mm_finir (va_runV (As := [.int i_1, .int i_4]) (rest := []) ⟨hx, hb, hml, hown, hts⟩ (K541_X6_reaches l G cy H.size a_15 i_1 i_4 i_14 i_15 i_16 a_19 h11) (cwV 2 hts (mm_gV mm_w1713 mm_w1714 mm_w1715 mm_w34 mm_w1716) rfl rfl rfl hd_X6_reaches ⟨by rw [hRf]; exact Nat.le_of_ble_eq_true rfl, by rw [hRl]; exact Nat.le_of_ble_eq_true rfl⟩) (mm_preV hK hZ hS hA hP hD [8] rfl rfl 8 rfl rfl rfl) rfl rfl hl.1 rfl (lv_room (Nat.le_of_ble_eq_true rfl)) dX11_paste_77 ⟨by rw [hRc]; exact Nat.le_of_ble_eq_true rfl, by rw [hRs]; exact Nat.le_of_ble_eq_true rfl⟩) hP hD hS hA [8] rfl (fun _ => rfl) ?_
                    clear hP hD hS
                    clear H locs
                    intro v267 _u H locs hw hP hD hS
                    rcases hw with ⟨rfl, w268⟩ | ⟨rfl, w269, w270, w271⟩
                    · refine lv_if_eq (tgt := 99) hx hb dX11_paste_80 (by decide) (fun c272 => ?_) (fun c272 => ?_)
                      · refine lv_bipush (v := (-7)) hx hb dX11_paste_99 (by decide) ?_
                        subst hAe
                        rw [hQ]
                        exact W.iret (v := (-7)) hx hb hr (fun t ht hW => ⟨⟨(-7), (f_0, f_1, f_2, f_3), rfl, (mm_wk mm_km7 (by decide)), by rw [ht]; exact hP, hK.warm hW, hD⟩, hS.F ht⟩) hS.2.2 dX11_paste_101
                      · have q273 := mm_neL (lo := 1) (mm_ne c272) mm_k0 mm_k0 (by decide) (by decide)
                        exact mm_no q273 (by decide)
                    · refine lv_if_eq (tgt := 99) hx hb dX11_paste_80 (by decide) (fun c274 => ?_) (fun c274 => ?_)
                      · exact mm_eqN c274.symm mm_k0 mm_k1 (by decide)
                      · refine lv_aload_n hx hb dX11_paste_83 rfl (lv_at hl 0 rfl) ?_
                        refine va_get (D := G) (ci := 11) (v := .ref a_6) (C := RX11) (T := TX11) (N := 11) hx hb hts (mm_i inlX11) hown hK.1 hP 0 rfl rfl 5 (by decide) (mm_h hts mm_w32) (fun _ h9 => h9) rfl dX11_paste_84 ?_
                        refine lv_iload_n hx hb dX11_paste_87 rfl (lv_at hl 3 rfl) ?_
                        refine va_aldq hx hb hK.1 hP 1 6 rfl rfl (mm_in mm_k0 (by decide)) dX11_paste_88 ?_
                        refine W.eq (g2 := F0 m 89 ls [.ref a_12]) rfl ?_
                        refine lv_iload hx hb dX11_paste_89 (lv_at hl 4 rfl) ?_
                        refine lv_iload hx hb dX11_paste_91 (lv_at hl 5 rfl) ?_
                        refine mm_finir (va_runV (As := [.int i_3, .int i_4]) (rest := []) ⟨hx, hb, hml, hown, hts⟩ (K542_X6_reaches l G cy H.size a_12 i_3 i_4 i_5 i_6 i_7 a_16 w270 h2) (cwV 2 hts (mm_gV mm_w1713 mm_w1714 mm_w1715 mm_w34 mm_w1716) rfl rfl rfl hd_X6_reaches ⟨by rw [hRf]; exact Nat.le_of_ble_eq_true rfl, by rw [hRl]; exact Nat.le_of_ble_eq_true rfl⟩) (mm_preV hK hZ hS hA hP hD [2] rfl rfl 2 rfl rfl rfl) rfl rfl hl.1 rfl (lv_room (Nat.le_of_ble_eq_true rfl)) dX11_paste_93 ⟨by rw [hRc]; exact Nat.le_of_ble_eq_true rfl, by rw [hRs]; exact Nat.le_of_ble_eq_true rfl⟩) hP hD hS hA [2] rfl (fun _ => rfl) ?_
                        clear hP hD hS
                        clear H locs
                        intro v275 _u H locs hw hP hD hS
                        rcases hw with ⟨rfl, w276⟩ | ⟨rfl, w277, w278⟩
                        · refine lv_if_ne (tgt := 102) hx hb dX11_paste_96 (by decide) (fun c279 => ?_) (fun c279 => ?_)
                          · have q280 := mm_neL (lo := 1) (mm_ne c279) mm_k0 mm_k0 (by decide) (by decide)
                            exact mm_no q280 (by decide)
                          · refine lv_bipush (v := (-7)) hx hb dX11_paste_99 (by decide) ?_
                            subst hAe
                            rw [hQ]
                            exact W.iret (v := (-7)) hx hb hr (fun t ht hW => ⟨⟨(-7), (f_0, f_1, f_2, f_3), rfl, (mm_wk mm_km7 (by decide)), by rw [ht]; exact hP, hK.warm hW, hD⟩, hS.F ht⟩) hS.2.2 dX11_paste_101
                        · refine lv_if_ne (tgt := 102) hx hb dX11_paste_96 (by decide) (fun c281 => ?_) (fun c281 => ?_)
                          · refine lv_aload_n hx hb dX11_paste_102 rfl (lv_at hl 0 rfl) ?_
                            refine va_get (D := G) (ci := 11) (v := .ref a_6) (C := RX11) (T := TX11) (N := 11) hx hb hts (mm_i inlX11) hown hK.1 hP 0 rfl rfl 5 (by decide) (mm_h hts mm_w32) (fun _ h9 => h9) rfl dX11_paste_103 ?_
                            refine lv_iload_n hx hb dX11_paste_106 rfl (lv_at hl 1 rfl) ?_
                            refine va_aldq hx hb hK.1 hP 1 6 rfl rfl (mm_in mm_k3 (by decide)) dX11_paste_107 ?_
                            refine W.eq (g2 := F0 m 108 ls [.ref a_15]) rfl ?_
                            refine va_get (D := G) (ci := 6) (v := .ref a_19) (C := RX6) (T := TX6) (N := 4) hx hb hts (mm_i inlX6) hown hK.1 hP 8 rfl rfl 3 (by decide) (mm_h hts mm_w1711) (fun _ h9 => h9) rfl dX11_paste_108 ?_
                            refine lv_iload_n hx hb dX11_paste_111 rfl (lv_at hl 2 rfl) ?_
                            refine lv_aload_n hx hb dX11_paste_112 rfl (lv_at hl 0 rfl) ?_
                            refine va_get (D := G) (ci := 11) (v := .ref a_6) (C := RX11) (T := TX11) (N := 11) hx hb hts (mm_i inlX11) hown hK.1 hP 0 rfl rfl 5 (by decide) (mm_h hts mm_w32) (fun _ h9 => h9) rfl dX11_paste_113 ?_
                            refine lv_iload_n hx hb dX11_paste_116 rfl (lv_at hl 3 rfl) ?_
                            refine va_aldq hx hb hK.1 hP 1 6 rfl rfl (mm_in mm_k0 (by decide)) dX11_paste_117 ?_
                            refine W.eq (g2 := F0 m 118 ls [.ref a_12, .int i_1, .ref a_19]) rfl ?_
                            refine va_get (D := G) (ci := 6) (v := .ref a_16) (C := RX6) (T := TX6) (N := 4) hx hb hts (mm_i inlX6) hown hK.1 hP 2 rfl rfl 3 (by decide) (mm_h hts mm_w1711) (fun _ h9 => h9) rfl dX11_paste_118 ?_
                            refine lv_iload hx hb dX11_paste_121 (lv_at hl 4 rfl) ?_
                            refine lv_iload hx hb dX11_paste_123 (lv_at hl 5 rfl) ?_
                            refine va_copyl hx hb (by rw [hml]; exact hl.1.symm) hown (mm_h hts mm_w1712) (mm_h hts mm_w388) (mm_h hts mm_w389) (mm_h hts mm_w390) hK.1 hP hD hS 9 3 2 2 rfl rfl rfl rfl rfl (mm_nn w269 (by decide)) (mm_nn w277 (by decide)) (mm_nn w270 (by decide)) (mm_cpR w271 w269 w270 h11 (by decide)) (mm_cpR w278 w277 w270 h2 (by decide)) (fun _ _ => rfl) (by rw [hRf]; exact Nat.le_of_ble_eq_true rfl) (by rw [hRl]; exact Nat.le_of_ble_eq_true rfl) dX11_paste_125 ?_
                            clear hP hD hS
                            clear H locs
                            obtain ⟨g282, eg282⟩ : ∃ z : Nat → Int64, z = va_cpy f_3 f_0 i_1.toNatClampNeg i_3.toNatClampNeg i_4.toNatClampNeg := ⟨_, rfl⟩
                            rw [← eg282]
                            intro H locs (hP : va_P G vwCl [(a_0, .inr (11, [.ref a_1, .ref a_2, .ref a_3, .ref a_4, .ref a_5, .ref a_6, .ref a_7, .ref a_8, .ref a_9, .ref a_10, .ref a_11])), (a_6, .inl (cy 6, 4, .inr (.inr (.inr (.inr (va_up (va_up (va_up (va_up (fun _ => none) 0 (some a_12)) 1 (some a_13)) 2 (some a_14)) 3 (some a_15))))))), (a_12, .inr (6, [.int i_5, .int i_6, .int i_7, .ref a_16])), (a_16, .inl (cy 2, 60, .inr (.inl g282))), (a_13, .inr (6, [.int i_8, .int i_9, .int i_10, .ref a_17])), (a_17, .inl (cy 2, 60, .inr (.inl f_1))), (a_14, .inr (6, [.int i_11, .int i_12, .int i_13, .ref a_18])), (a_18, .inl (cy 2, 60, .inr (.inl f_2))), (a_15, .inr (6, [.int i_14, .int i_15, .int i_16, .ref a_19])), (a_19, .inl (cy 2, 60, .inr (.inl f_3)))] H) (hD : va_D A [(a_0, .inr (11, [.ref a_1, .ref a_2, .ref a_3, .ref a_4, .ref a_5, .ref a_6, .ref a_7, .ref a_8, .ref a_9, .ref a_10, .ref a_11])), (a_6, .inl (cy 6, 4, .inr (.inr (.inr (.inr (va_up (va_up (va_up (va_up (fun _ => none) 0 (some a_12)) 1 (some a_13)) 2 (some a_14)) 3 (some a_15))))))), (a_12, .inr (6, [.int i_5, .int i_6, .int i_7, .ref a_16])), (a_16, .inl (cy 2, 60, .inr (.inl g282))), (a_13, .inr (6, [.int i_8, .int i_9, .int i_10, .ref a_17])), (a_17, .inl (cy 2, 60, .inr (.inl f_1))), (a_14, .inr (6, [.int i_11, .int i_12, .int i_13, .ref a_18])), (a_18, .inl (cy 2, 60, .inr (.inl f_2))), (a_15, .inr (6, [.int i_14, .int i_15, .int i_16, .ref a_19])), (a_19, .inl (cy 2, 60, .inr (.inl f_3)))]) hS
                            refine lv_iconst (v := 0) hx hb dX11_paste_128 (by decide) ?_
                            subst hAe
                            rw [hQ]
                            exact W.iret (v := 0) hx hb hr (fun t ht hW => ⟨⟨0, (g282, f_1, f_2, f_3), rfl, (mm_wk mm_k0 (by decide)), by rw [ht]; exact hP, hK.warm hW, hD⟩, hS.F ht⟩) hS.2.2 dX11_paste_129
                          · exact mm_eqN c281.symm mm_k0 mm_k1 (by decide)
                  · refine lv_bipush (v := (-8)) hx hb dX11_paste_65 (by decide) ?_
                    subst hAe
                    rw [hQ]
                    exact W.iret (v := (-8)) hx hb hr (fun t ht hW => ⟨⟨(-8), (f_0, f_1, f_2, f_3), rfl, (mm_wk mm_km8 (by decide)), by rw [ht]; exact hP, hK.warm hW, hD⟩, hS.F ht⟩) hS.2.2 dX11_paste_67
                · have q283 := mm_eqI (lo := 0) (hi := 0) c264 h0 mm_k0 (by decide)
                  refine lv_bipush (v := (-6)) hx hb dX11_paste_41 (by decide) ?_
                  subst hAe
                  rw [hQ]
                  exact W.iret (v := (-6)) hx hb hr (fun t ht hW => ⟨⟨(-6), (f_0, f_1, f_2, f_3), rfl, (mm_wk mm_km6 (by decide)), by rw [ht]; exact hP, hK.warm hW, hD⟩, hS.F ht⟩) hS.2.2 dX11_paste_43
              · refine W.eq (g2 := F0 m 35 ls [.ref a_13]) rfl ?_
                refine va_get (D := G) (ci := 6) (v := .int i_8) (C := RX6) (T := TX6) (N := 4) hx hb hts (mm_i inlX6) hown hK.1 hP 4 rfl rfl 0 (by decide) (mm_h hts mm_w1239) (fun _ h9 => h9) rfl dX11_paste_35 ?_
                refine lv_if_ne (tgt := 44) hx hb dX11_paste_38 (by decide) (fun c284 => ?_) (fun c284 => ?_)
                · have q285 := mm_neL (lo := 1) (mm_ne c284) h3 mm_k0 (by decide) (by decide)
                  refine lv_aload_n hx hb dX11_paste_44 rfl (lv_at hl 0 rfl) ?_
                  refine va_get (D := G) (ci := 11) (v := .ref a_6) (C := RX11) (T := TX11) (N := 11) hx hb hts (mm_i inlX11) hown hK.1 hP 0 rfl rfl 5 (by decide) (mm_h hts mm_w32) (fun _ h9 => h9) rfl dX11_paste_45 ?_
                  refine lv_iload_n hx hb dX11_paste_48 rfl (lv_at hl 1 rfl) ?_
                  refine va_aldq hx hb hK.1 hP 1 6 rfl rfl (mm_in mm_k3 (by decide)) dX11_paste_49 ?_
                  refine W.eq (g2 := F0 m 50 ls [.ref a_15]) rfl ?_
                  refine va_get (D := G) (ci := 6) (v := .int i_15) (C := RX6) (T := TX6) (N := 4) hx hb hts (mm_i inlX6) hown hK.1 hP 8 rfl rfl 1 (by decide) (mm_h hts mm_w1710) (fun _ h9 => h9) rfl dX11_paste_50 ?_
                  refine lv_aload_n hx hb dX11_paste_53 rfl (lv_at hl 0 rfl) ?_
                  refine va_get (D := G) (ci := 11) (v := .ref a_6) (C := RX11) (T := TX11) (N := 11) hx hb hts (mm_i inlX11) hown hK.1 hP 0 rfl rfl 5 (by decide) (mm_h hts mm_w32) (fun _ h9 => h9) rfl dX11_paste_54 ?_
                  refine lv_iload_n hx hb dX11_paste_57 rfl (lv_at hl 3 rfl) ?_
                  refine va_aldq hx hb hK.1 hP 1 6 rfl rfl (mm_in mm_k1 (by decide)) dX11_paste_58 ?_
                  refine W.eq (g2 := F0 m 59 ls [.ref a_13, .int i_15]) rfl ?_
                  refine va_get (D := G) (ci := 6) (v := .int i_9) (C := RX6) (T := TX6) (N := 4) hx hb hts (mm_i inlX6) hown hK.1 hP 4 rfl rfl 1 (by decide) (mm_h hts mm_w1710) (fun _ h9 => h9) rfl dX11_paste_59 ?_
                  refine lv_icmp_eq (tgt := 68) hx hb dX11_paste_62 (by decide) (fun c286 => ?_) (fun c286 => ?_)
                  · refine lv_aload_n hx hb dX11_paste_68 rfl (lv_at hl 0 rfl) ?_
                    refine va_get (D := G) (ci := 11) (v := .ref a_6) (C := RX11) (T := TX11) (N := 11) hx hb hts (mm_i inlX11) hown hK.1 hP 0 rfl rfl 5 (by decide) (mm_h hts mm_w32) (fun _ h9 => h9) rfl dX11_paste_69 ?_
                    refine lv_iload_n hx hb dX11_paste_72 rfl (lv_at hl 1 rfl) ?_
                    refine va_aldq hx hb hK.1 hP 1 6 rfl rfl (mm_in mm_k3 (by decide)) dX11_paste_73 ?_
                    refine W.eq (g2 := F0 m 74 ls [.ref a_15]) rfl ?_
                    refine lv_iload_n hx hb dX11_paste_74 rfl (lv_at hl 2 rfl) ?_
                    refine lv_iload hx hb dX11_paste_75 (lv_at hl 5 rfl) ?_
                    refine mm_finir (va_runV (As := [.int i_1, .int i_4]) (rest := []) ⟨hx, hb, hml, hown, hts⟩ (K541_X6_reaches l G cy H.size a_15 i_1 i_4 i_14 i_15 i_16 a_19 h11) (cwV 2 hts (mm_gV mm_w1713 mm_w1714 mm_w1715 mm_w34 mm_w1716) rfl rfl rfl hd_X6_reaches ⟨by rw [hRf]; exact Nat.le_of_ble_eq_true rfl, by rw [hRl]; exact Nat.le_of_ble_eq_true rfl⟩) (mm_preV hK hZ hS hA hP hD [8] rfl rfl 8 rfl rfl rfl) rfl rfl hl.1 rfl (lv_room (Nat.le_of_ble_eq_true rfl)) dX11_paste_77 ⟨by rw [hRc]; exact Nat.le_of_ble_eq_true rfl, by rw [hRs]; exact Nat.le_of_ble_eq_true rfl⟩) hP hD hS hA [8] rfl (fun _ => rfl) ?_
                    clear hP hD hS
                    clear H locs
                    intro v287 _u H locs hw hP hD hS
                    rcases hw with ⟨rfl, w288⟩ | ⟨rfl, w289, w290, w291⟩
                    · refine lv_if_eq (tgt := 99) hx hb dX11_paste_80 (by decide) (fun c292 => ?_) (fun c292 => ?_)
                      · refine lv_bipush (v := (-7)) hx hb dX11_paste_99 (by decide) ?_
                        subst hAe
                        rw [hQ]
                        exact W.iret (v := (-7)) hx hb hr (fun t ht hW => ⟨⟨(-7), (f_0, f_1, f_2, f_3), rfl, (mm_wk mm_km7 (by decide)), by rw [ht]; exact hP, hK.warm hW, hD⟩, hS.F ht⟩) hS.2.2 dX11_paste_101
                      · have q293 := mm_neL (lo := 1) (mm_ne c292) mm_k0 mm_k0 (by decide) (by decide)
                        exact mm_no q293 (by decide)
                    · refine lv_if_eq (tgt := 99) hx hb dX11_paste_80 (by decide) (fun c294 => ?_) (fun c294 => ?_)
                      · exact mm_eqN c294.symm mm_k0 mm_k1 (by decide)
                      · refine lv_aload_n hx hb dX11_paste_83 rfl (lv_at hl 0 rfl) ?_
                        refine va_get (D := G) (ci := 11) (v := .ref a_6) (C := RX11) (T := TX11) (N := 11) hx hb hts (mm_i inlX11) hown hK.1 hP 0 rfl rfl 5 (by decide) (mm_h hts mm_w32) (fun _ h9 => h9) rfl dX11_paste_84 ?_
                        refine lv_iload_n hx hb dX11_paste_87 rfl (lv_at hl 3 rfl) ?_
                        refine va_aldq hx hb hK.1 hP 1 6 rfl rfl (mm_in mm_k1 (by decide)) dX11_paste_88 ?_
                        refine W.eq (g2 := F0 m 89 ls [.ref a_13]) rfl ?_
                        refine lv_iload hx hb dX11_paste_89 (lv_at hl 4 rfl) ?_
                        refine lv_iload hx hb dX11_paste_91 (lv_at hl 5 rfl) ?_
                        refine mm_finir (va_runV (As := [.int i_3, .int i_4]) (rest := []) ⟨hx, hb, hml, hown, hts⟩ (K542_X6_reaches l G cy H.size a_13 i_3 i_4 i_8 i_9 i_10 a_17 w290 h5) (cwV 2 hts (mm_gV mm_w1713 mm_w1714 mm_w1715 mm_w34 mm_w1716) rfl rfl rfl hd_X6_reaches ⟨by rw [hRf]; exact Nat.le_of_ble_eq_true rfl, by rw [hRl]; exact Nat.le_of_ble_eq_true rfl⟩) (mm_preV hK hZ hS hA hP hD [4] rfl rfl 4 rfl rfl rfl) rfl rfl hl.1 rfl (lv_room (Nat.le_of_ble_eq_true rfl)) dX11_paste_93 ⟨by rw [hRc]; exact Nat.le_of_ble_eq_true rfl, by rw [hRs]; exact Nat.le_of_ble_eq_true rfl⟩) hP hD hS hA [4] rfl (fun _ => rfl) ?_
                        clear hP hD hS
                        clear H locs
                        intro v295 _u H locs hw hP hD hS
                        rcases hw with ⟨rfl, w296⟩ | ⟨rfl, w297, w298⟩
                        · refine lv_if_ne (tgt := 102) hx hb dX11_paste_96 (by decide) (fun c299 => ?_) (fun c299 => ?_)
                          · have q300 := mm_neL (lo := 1) (mm_ne c299) mm_k0 mm_k0 (by decide) (by decide)
                            exact mm_no q300 (by decide)
                          · refine lv_bipush (v := (-7)) hx hb dX11_paste_99 (by decide) ?_
                            subst hAe
                            rw [hQ]
                            exact W.iret (v := (-7)) hx hb hr (fun t ht hW => ⟨⟨(-7), (f_0, f_1, f_2, f_3), rfl, (mm_wk mm_km7 (by decide)), by rw [ht]; exact hP, hK.warm hW, hD⟩, hS.F ht⟩) hS.2.2 dX11_paste_101
                        · refine lv_if_ne (tgt := 102) hx hb dX11_paste_96 (by decide) (fun c301 => ?_) (fun c301 => ?_)
                          · refine lv_aload_n hx hb dX11_paste_102 rfl (lv_at hl 0 rfl) ?_
                            refine va_get (D := G) (ci := 11) (v := .ref a_6) (C := RX11) (T := TX11) (N := 11) hx hb hts (mm_i inlX11) hown hK.1 hP 0 rfl rfl 5 (by decide) (mm_h hts mm_w32) (fun _ h9 => h9) rfl dX11_paste_103 ?_
                            refine lv_iload_n hx hb dX11_paste_106 rfl (lv_at hl 1 rfl) ?_
                            refine va_aldq hx hb hK.1 hP 1 6 rfl rfl (mm_in mm_k3 (by decide)) dX11_paste_107 ?_
                            refine W.eq (g2 := F0 m 108 ls [.ref a_15]) rfl ?_
                            refine va_get (D := G) (ci := 6) (v := .ref a_19) (C := RX6) (T := TX6) (N := 4) hx hb hts (mm_i inlX6) hown hK.1 hP 8 rfl rfl 3 (by decide) (mm_h hts mm_w1711) (fun _ h9 => h9) rfl dX11_paste_108 ?_
                            refine lv_iload_n hx hb dX11_paste_111 rfl (lv_at hl 2 rfl) ?_
                            refine lv_aload_n hx hb dX11_paste_112 rfl (lv_at hl 0 rfl) ?_
                            refine va_get (D := G) (ci := 11) (v := .ref a_6) (C := RX11) (T := TX11) (N := 11) hx hb hts (mm_i inlX11) hown hK.1 hP 0 rfl rfl 5 (by decide) (mm_h hts mm_w32) (fun _ h9 => h9) rfl dX11_paste_113 ?_
                            refine lv_iload_n hx hb dX11_paste_116 rfl (lv_at hl 3 rfl) ?_
                            refine va_aldq hx hb hK.1 hP 1 6 rfl rfl (mm_in mm_k1 (by decide)) dX11_paste_117 ?_
                            refine W.eq (g2 := F0 m 118 ls [.ref a_13, .int i_1, .ref a_19]) rfl ?_
                            refine va_get (D := G) (ci := 6) (v := .ref a_17) (C := RX6) (T := TX6) (N := 4) hx hb hts (mm_i inlX6) hown hK.1 hP 4 rfl rfl 3 (by decide) (mm_h hts mm_w1711) (fun _ h9 => h9) rfl dX11_paste_118 ?_
                            refine lv_iload hx hb dX11_paste_121 (lv_at hl 4 rfl) ?_
                            refine lv_iload hx hb dX11_paste_123 (lv_at hl 5 rfl) ?_
                            refine va_copyl hx hb (by rw [hml]; exact hl.1.symm) hown (mm_h hts mm_w1712) (mm_h hts mm_w388) (mm_h hts mm_w389) (mm_h hts mm_w390) hK.1 hP hD hS 9 5 2 2 rfl rfl rfl rfl rfl (mm_nn w289 (by decide)) (mm_nn w297 (by decide)) (mm_nn w290 (by decide)) (mm_cpR w291 w289 w290 h11 (by decide)) (mm_cpR w298 w297 w290 h5 (by decide)) (fun _ _ => rfl) (by rw [hRf]; exact Nat.le_of_ble_eq_true rfl) (by rw [hRl]; exact Nat.le_of_ble_eq_true rfl) dX11_paste_125 ?_
                            clear hP hD hS
                            clear H locs
                            obtain ⟨g302, eg302⟩ : ∃ z : Nat → Int64, z = va_cpy f_3 f_1 i_1.toNatClampNeg i_3.toNatClampNeg i_4.toNatClampNeg := ⟨_, rfl⟩
                            rw [← eg302]
                            intro H locs (hP : va_P G vwCl [(a_0, .inr (11, [.ref a_1, .ref a_2, .ref a_3, .ref a_4, .ref a_5, .ref a_6, .ref a_7, .ref a_8, .ref a_9, .ref a_10, .ref a_11])), (a_6, .inl (cy 6, 4, .inr (.inr (.inr (.inr (va_up (va_up (va_up (va_up (fun _ => none) 0 (some a_12)) 1 (some a_13)) 2 (some a_14)) 3 (some a_15))))))), (a_12, .inr (6, [.int i_5, .int i_6, .int i_7, .ref a_16])), (a_16, .inl (cy 2, 60, .inr (.inl f_0))), (a_13, .inr (6, [.int i_8, .int i_9, .int i_10, .ref a_17])), (a_17, .inl (cy 2, 60, .inr (.inl g302))), (a_14, .inr (6, [.int i_11, .int i_12, .int i_13, .ref a_18])), (a_18, .inl (cy 2, 60, .inr (.inl f_2))), (a_15, .inr (6, [.int i_14, .int i_15, .int i_16, .ref a_19])), (a_19, .inl (cy 2, 60, .inr (.inl f_3)))] H) (hD : va_D A [(a_0, .inr (11, [.ref a_1, .ref a_2, .ref a_3, .ref a_4, .ref a_5, .ref a_6, .ref a_7, .ref a_8, .ref a_9, .ref a_10, .ref a_11])), (a_6, .inl (cy 6, 4, .inr (.inr (.inr (.inr (va_up (va_up (va_up (va_up (fun _ => none) 0 (some a_12)) 1 (some a_13)) 2 (some a_14)) 3 (some a_15))))))), (a_12, .inr (6, [.int i_5, .int i_6, .int i_7, .ref a_16])), (a_16, .inl (cy 2, 60, .inr (.inl f_0))), (a_13, .inr (6, [.int i_8, .int i_9, .int i_10, .ref a_17])), (a_17, .inl (cy 2, 60, .inr (.inl g302))), (a_14, .inr (6, [.int i_11, .int i_12, .int i_13, .ref a_18])), (a_18, .inl (cy 2, 60, .inr (.inl f_2))), (a_15, .inr (6, [.int i_14, .int i_15, .int i_16, .ref a_19])), (a_19, .inl (cy 2, 60, .inr (.inl f_3)))]) hS
                            refine lv_iconst (v := 0) hx hb dX11_paste_128 (by decide) ?_
                            subst hAe
                            rw [hQ]
                            exact W.iret (v := 0) hx hb hr (fun t ht hW => ⟨⟨0, (f_0, g302, f_2, f_3), rfl, (mm_wk mm_k0 (by decide)), by rw [ht]; exact hP, hK.warm hW, hD⟩, hS.F ht⟩) hS.2.2 dX11_paste_129
                          · exact mm_eqN c301.symm mm_k0 mm_k1 (by decide)
                  · refine lv_bipush (v := (-8)) hx hb dX11_paste_65 (by decide) ?_
                    subst hAe
                    rw [hQ]
                    exact W.iret (v := (-8)) hx hb hr (fun t ht hW => ⟨⟨(-8), (f_0, f_1, f_2, f_3), rfl, (mm_wk mm_km8 (by decide)), by rw [ht]; exact hP, hK.warm hW, hD⟩, hS.F ht⟩) hS.2.2 dX11_paste_67
                · have q303 := mm_eqI (lo := 0) (hi := 0) c284 h3 mm_k0 (by decide)
                  refine lv_bipush (v := (-6)) hx hb dX11_paste_41 (by decide) ?_
                  subst hAe
                  rw [hQ]
                  exact W.iret (v := (-6)) hx hb hr (fun t ht hW => ⟨⟨(-6), (f_0, f_1, f_2, f_3), rfl, (mm_wk mm_km6 (by decide)), by rw [ht]; exact hP, hK.warm hW, hD⟩, hS.F ht⟩) hS.2.2 dX11_paste_43
              · refine W.eq (g2 := F0 m 35 ls [.ref a_14]) rfl ?_
                refine va_get (D := G) (ci := 6) (v := .int i_11) (C := RX6) (T := TX6) (N := 4) hx hb hts (mm_i inlX6) hown hK.1 hP 6 rfl rfl 0 (by decide) (mm_h hts mm_w1239) (fun _ h9 => h9) rfl dX11_paste_35 ?_
                refine lv_if_ne (tgt := 44) hx hb dX11_paste_38 (by decide) (fun c304 => ?_) (fun c304 => ?_)
                · have q305 := mm_neL (lo := 1) (mm_ne c304) h6 mm_k0 (by decide) (by decide)
                  refine lv_aload_n hx hb dX11_paste_44 rfl (lv_at hl 0 rfl) ?_
                  refine va_get (D := G) (ci := 11) (v := .ref a_6) (C := RX11) (T := TX11) (N := 11) hx hb hts (mm_i inlX11) hown hK.1 hP 0 rfl rfl 5 (by decide) (mm_h hts mm_w32) (fun _ h9 => h9) rfl dX11_paste_45 ?_
                  refine lv_iload_n hx hb dX11_paste_48 rfl (lv_at hl 1 rfl) ?_
                  refine va_aldq hx hb hK.1 hP 1 6 rfl rfl (mm_in mm_k3 (by decide)) dX11_paste_49 ?_
                  refine W.eq (g2 := F0 m 50 ls [.ref a_15]) rfl ?_
                  refine va_get (D := G) (ci := 6) (v := .int i_15) (C := RX6) (T := TX6) (N := 4) hx hb hts (mm_i inlX6) hown hK.1 hP 8 rfl rfl 1 (by decide) (mm_h hts mm_w1710) (fun _ h9 => h9) rfl dX11_paste_50 ?_
                  refine lv_aload_n hx hb dX11_paste_53 rfl (lv_at hl 0 rfl) ?_
                  refine va_get (D := G) (ci := 11) (v := .ref a_6) (C := RX11) (T := TX11) (N := 11) hx hb hts (mm_i inlX11) hown hK.1 hP 0 rfl rfl 5 (by decide) (mm_h hts mm_w32) (fun _ h9 => h9) rfl dX11_paste_54 ?_
                  refine lv_iload_n hx hb dX11_paste_57 rfl (lv_at hl 3 rfl) ?_
                  refine va_aldq hx hb hK.1 hP 1 6 rfl rfl (mm_in mm_k2 (by decide)) dX11_paste_58 ?_
                  refine W.eq (g2 := F0 m 59 ls [.ref a_14, .int i_15]) rfl ?_
                  refine va_get (D := G) (ci := 6) (v := .int i_12) (C := RX6) (T := TX6) (N := 4) hx hb hts (mm_i inlX6) hown hK.1 hP 6 rfl rfl 1 (by decide) (mm_h hts mm_w1710) (fun _ h9 => h9) rfl dX11_paste_59 ?_
                  refine lv_icmp_eq (tgt := 68) hx hb dX11_paste_62 (by decide) (fun c306 => ?_) (fun c306 => ?_)
                  · refine lv_aload_n hx hb dX11_paste_68 rfl (lv_at hl 0 rfl) ?_
                    refine va_get (D := G) (ci := 11) (v := .ref a_6) (C := RX11) (T := TX11) (N := 11) hx hb hts (mm_i inlX11) hown hK.1 hP 0 rfl rfl 5 (by decide) (mm_h hts mm_w32) (fun _ h9 => h9) rfl dX11_paste_69 ?_
                    refine lv_iload_n hx hb dX11_paste_72 rfl (lv_at hl 1 rfl) ?_
                    refine va_aldq hx hb hK.1 hP 1 6 rfl rfl (mm_in mm_k3 (by decide)) dX11_paste_73 ?_
                    refine W.eq (g2 := F0 m 74 ls [.ref a_15]) rfl ?_
                    refine lv_iload_n hx hb dX11_paste_74 rfl (lv_at hl 2 rfl) ?_
                    refine lv_iload hx hb dX11_paste_75 (lv_at hl 5 rfl) ?_
                    refine mm_finir (va_runV (As := [.int i_1, .int i_4]) (rest := []) ⟨hx, hb, hml, hown, hts⟩ (K541_X6_reaches l G cy H.size a_15 i_1 i_4 i_14 i_15 i_16 a_19 h11) (cwV 2 hts (mm_gV mm_w1713 mm_w1714 mm_w1715 mm_w34 mm_w1716) rfl rfl rfl hd_X6_reaches ⟨by rw [hRf]; exact Nat.le_of_ble_eq_true rfl, by rw [hRl]; exact Nat.le_of_ble_eq_true rfl⟩) (mm_preV hK hZ hS hA hP hD [8] rfl rfl 8 rfl rfl rfl) rfl rfl hl.1 rfl (lv_room (Nat.le_of_ble_eq_true rfl)) dX11_paste_77 ⟨by rw [hRc]; exact Nat.le_of_ble_eq_true rfl, by rw [hRs]; exact Nat.le_of_ble_eq_true rfl⟩) hP hD hS hA [8] rfl (fun _ => rfl) ?_
                    clear hP hD hS
                    clear H locs
                    intro v307 _u H locs hw hP hD hS
                    rcases hw with ⟨rfl, w308⟩ | ⟨rfl, w309, w310, w311⟩
                    · refine lv_if_eq (tgt := 99) hx hb dX11_paste_80 (by decide) (fun c312 => ?_) (fun c312 => ?_)
                      · refine lv_bipush (v := (-7)) hx hb dX11_paste_99 (by decide) ?_
                        subst hAe
                        rw [hQ]
                        exact W.iret (v := (-7)) hx hb hr (fun t ht hW => ⟨⟨(-7), (f_0, f_1, f_2, f_3), rfl, (mm_wk mm_km7 (by decide)), by rw [ht]; exact hP, hK.warm hW, hD⟩, hS.F ht⟩) hS.2.2 dX11_paste_101
                      · have q313 := mm_neL (lo := 1) (mm_ne c312) mm_k0 mm_k0 (by decide) (by decide)
                        exact mm_no q313 (by decide)
                    · refine lv_if_eq (tgt := 99) hx hb dX11_paste_80 (by decide) (fun c314 => ?_) (fun c314 => ?_)
                      · exact mm_eqN c314.symm mm_k0 mm_k1 (by decide)
                      · refine lv_aload_n hx hb dX11_paste_83 rfl (lv_at hl 0 rfl) ?_
                        refine va_get (D := G) (ci := 11) (v := .ref a_6) (C := RX11) (T := TX11) (N := 11) hx hb hts (mm_i inlX11) hown hK.1 hP 0 rfl rfl 5 (by decide) (mm_h hts mm_w32) (fun _ h9 => h9) rfl dX11_paste_84 ?_
                        refine lv_iload_n hx hb dX11_paste_87 rfl (lv_at hl 3 rfl) ?_
                        refine va_aldq hx hb hK.1 hP 1 6 rfl rfl (mm_in mm_k2 (by decide)) dX11_paste_88 ?_
                        refine W.eq (g2 := F0 m 89 ls [.ref a_14]) rfl ?_
                        refine lv_iload hx hb dX11_paste_89 (lv_at hl 4 rfl) ?_
                        refine lv_iload hx hb dX11_paste_91 (lv_at hl 5 rfl) ?_
                        refine mm_finir (va_runV (As := [.int i_3, .int i_4]) (rest := []) ⟨hx, hb, hml, hown, hts⟩ (K542_X6_reaches l G cy H.size a_14 i_3 i_4 i_11 i_12 i_13 a_18 w310 h8) (cwV 2 hts (mm_gV mm_w1713 mm_w1714 mm_w1715 mm_w34 mm_w1716) rfl rfl rfl hd_X6_reaches ⟨by rw [hRf]; exact Nat.le_of_ble_eq_true rfl, by rw [hRl]; exact Nat.le_of_ble_eq_true rfl⟩) (mm_preV hK hZ hS hA hP hD [6] rfl rfl 6 rfl rfl rfl) rfl rfl hl.1 rfl (lv_room (Nat.le_of_ble_eq_true rfl)) dX11_paste_93 ⟨by rw [hRc]; exact Nat.le_of_ble_eq_true rfl, by rw [hRs]; exact Nat.le_of_ble_eq_true rfl⟩) hP hD hS hA [6] rfl (fun _ => rfl) ?_
                        clear hP hD hS
                        clear H locs
                        intro v315 _u H locs hw hP hD hS
                        rcases hw with ⟨rfl, w316⟩ | ⟨rfl, w317, w318⟩
                        · refine lv_if_ne (tgt := 102) hx hb dX11_paste_96 (by decide) (fun c319 => ?_) (fun c319 => ?_)
                          · have q320 := mm_neL (lo := 1) (mm_ne c319) mm_k0 mm_k0 (by decide) (by decide)
                            exact mm_no q320 (by decide)
                          · refine lv_bipush (v := (-7)) hx hb dX11_paste_99 (by decide) ?_
                            subst hAe
                            rw [hQ]
                            exact W.iret (v := (-7)) hx hb hr (fun t ht hW => ⟨⟨(-7), (f_0, f_1, f_2, f_3), rfl, (mm_wk mm_km7 (by decide)), by rw [ht]; exact hP, hK.warm hW, hD⟩, hS.F ht⟩) hS.2.2 dX11_paste_101
                        · refine lv_if_ne (tgt := 102) hx hb dX11_paste_96 (by decide) (fun c321 => ?_) (fun c321 => ?_)
                          · refine lv_aload_n hx hb dX11_paste_102 rfl (lv_at hl 0 rfl) ?_
                            refine va_get (D := G) (ci := 11) (v := .ref a_6) (C := RX11) (T := TX11) (N := 11) hx hb hts (mm_i inlX11) hown hK.1 hP 0 rfl rfl 5 (by decide) (mm_h hts mm_w32) (fun _ h9 => h9) rfl dX11_paste_103 ?_
                            refine lv_iload_n hx hb dX11_paste_106 rfl (lv_at hl 1 rfl) ?_
                            refine va_aldq hx hb hK.1 hP 1 6 rfl rfl (mm_in mm_k3 (by decide)) dX11_paste_107 ?_
                            refine W.eq (g2 := F0 m 108 ls [.ref a_15]) rfl ?_
                            refine va_get (D := G) (ci := 6) (v := .ref a_19) (C := RX6) (T := TX6) (N := 4) hx hb hts (mm_i inlX6) hown hK.1 hP 8 rfl rfl 3 (by decide) (mm_h hts mm_w1711) (fun _ h9 => h9) rfl dX11_paste_108 ?_
                            refine lv_iload_n hx hb dX11_paste_111 rfl (lv_at hl 2 rfl) ?_
                            refine lv_aload_n hx hb dX11_paste_112 rfl (lv_at hl 0 rfl) ?_
                            refine va_get (D := G) (ci := 11) (v := .ref a_6) (C := RX11) (T := TX11) (N := 11) hx hb hts (mm_i inlX11) hown hK.1 hP 0 rfl rfl 5 (by decide) (mm_h hts mm_w32) (fun _ h9 => h9) rfl dX11_paste_113 ?_
                            refine lv_iload_n hx hb dX11_paste_116 rfl (lv_at hl 3 rfl) ?_
                            refine va_aldq hx hb hK.1 hP 1 6 rfl rfl (mm_in mm_k2 (by decide)) dX11_paste_117 ?_
                            refine W.eq (g2 := F0 m 118 ls [.ref a_14, .int i_1, .ref a_19]) rfl ?_
                            refine va_get (D := G) (ci := 6) (v := .ref a_18) (C := RX6) (T := TX6) (N := 4) hx hb hts (mm_i inlX6) hown hK.1 hP 6 rfl rfl 3 (by decide) (mm_h hts mm_w1711) (fun _ h9 => h9) rfl dX11_paste_118 ?_
                            refine lv_iload hx hb dX11_paste_121 (lv_at hl 4 rfl) ?_
                            refine lv_iload hx hb dX11_paste_123 (lv_at hl 5 rfl) ?_
                            refine va_copyl hx hb (by rw [hml]; exact hl.1.symm) hown (mm_h hts mm_w1712) (mm_h hts mm_w388) (mm_h hts mm_w389) (mm_h hts mm_w390) hK.1 hP hD hS 9 7 2 2 rfl rfl rfl rfl rfl (mm_nn w309 (by decide)) (mm_nn w317 (by decide)) (mm_nn w310 (by decide)) (mm_cpR w311 w309 w310 h11 (by decide)) (mm_cpR w318 w317 w310 h8 (by decide)) (fun _ _ => rfl) (by rw [hRf]; exact Nat.le_of_ble_eq_true rfl) (by rw [hRl]; exact Nat.le_of_ble_eq_true rfl) dX11_paste_125 ?_
                            clear hP hD hS
                            clear H locs
                            obtain ⟨g322, eg322⟩ : ∃ z : Nat → Int64, z = va_cpy f_3 f_2 i_1.toNatClampNeg i_3.toNatClampNeg i_4.toNatClampNeg := ⟨_, rfl⟩
                            rw [← eg322]
                            intro H locs (hP : va_P G vwCl [(a_0, .inr (11, [.ref a_1, .ref a_2, .ref a_3, .ref a_4, .ref a_5, .ref a_6, .ref a_7, .ref a_8, .ref a_9, .ref a_10, .ref a_11])), (a_6, .inl (cy 6, 4, .inr (.inr (.inr (.inr (va_up (va_up (va_up (va_up (fun _ => none) 0 (some a_12)) 1 (some a_13)) 2 (some a_14)) 3 (some a_15))))))), (a_12, .inr (6, [.int i_5, .int i_6, .int i_7, .ref a_16])), (a_16, .inl (cy 2, 60, .inr (.inl f_0))), (a_13, .inr (6, [.int i_8, .int i_9, .int i_10, .ref a_17])), (a_17, .inl (cy 2, 60, .inr (.inl f_1))), (a_14, .inr (6, [.int i_11, .int i_12, .int i_13, .ref a_18])), (a_18, .inl (cy 2, 60, .inr (.inl g322))), (a_15, .inr (6, [.int i_14, .int i_15, .int i_16, .ref a_19])), (a_19, .inl (cy 2, 60, .inr (.inl f_3)))] H) (hD : va_D A [(a_0, .inr (11, [.ref a_1, .ref a_2, .ref a_3, .ref a_4, .ref a_5, .ref a_6, .ref a_7, .ref a_8, .ref a_9, .ref a_10, .ref a_11])), (a_6, .inl (cy 6, 4, .inr (.inr (.inr (.inr (va_up (va_up (va_up (va_up (fun _ => none) 0 (some a_12)) 1 (some a_13)) 2 (some a_14)) 3 (some a_15))))))), (a_12, .inr (6, [.int i_5, .int i_6, .int i_7, .ref a_16])), (a_16, .inl (cy 2, 60, .inr (.inl f_0))), (a_13, .inr (6, [.int i_8, .int i_9, .int i_10, .ref a_17])), (a_17, .inl (cy 2, 60, .inr (.inl f_1))), (a_14, .inr (6, [.int i_11, .int i_12, .int i_13, .ref a_18])), (a_18, .inl (cy 2, 60, .inr (.inl g322))), (a_15, .inr (6, [.int i_14, .int i_15, .int i_16, .ref a_19])), (a_19, .inl (cy 2, 60, .inr (.inl f_3)))]) hS
                            refine lv_iconst (v := 0) hx hb dX11_paste_128 (by decide) ?_
                            subst hAe
                            rw [hQ]
                            exact W.iret (v := 0) hx hb hr (fun t ht hW => ⟨⟨0, (f_0, f_1, g322, f_3), rfl, (mm_wk mm_k0 (by decide)), by rw [ht]; exact hP, hK.warm hW, hD⟩, hS.F ht⟩) hS.2.2 dX11_paste_129
                          · exact mm_eqN c321.symm mm_k0 mm_k1 (by decide)
                  · refine lv_bipush (v := (-8)) hx hb dX11_paste_65 (by decide) ?_
                    subst hAe
                    rw [hQ]
                    exact W.iret (v := (-8)) hx hb hr (fun t ht hW => ⟨⟨(-8), (f_0, f_1, f_2, f_3), rfl, (mm_wk mm_km8 (by decide)), by rw [ht]; exact hP, hK.warm hW, hD⟩, hS.F ht⟩) hS.2.2 dX11_paste_67
                · have q323 := mm_eqI (lo := 0) (hi := 0) c304 h6 mm_k0 (by decide)
                  refine lv_bipush (v := (-6)) hx hb dX11_paste_41 (by decide) ?_
                  subst hAe
                  rw [hQ]
                  exact W.iret (v := (-6)) hx hb hr (fun t ht hW => ⟨⟨(-6), (f_0, f_1, f_2, f_3), rfl, (mm_wk mm_km6 (by decide)), by rw [ht]; exact hP, hK.warm hW, hD⟩, hS.F ht⟩) hS.2.2 dX11_paste_43
              · refine W.eq (g2 := F0 m 35 ls [.ref a_15]) rfl ?_
                refine va_get (D := G) (ci := 6) (v := .int i_14) (C := RX6) (T := TX6) (N := 4) hx hb hts (mm_i inlX6) hown hK.1 hP 8 rfl rfl 0 (by decide) (mm_h hts mm_w1239) (fun _ h9 => h9) rfl dX11_paste_35 ?_
                refine lv_if_ne (tgt := 44) hx hb dX11_paste_38 (by decide) (fun c324 => ?_) (fun c324 => ?_)
                · refine lv_aload_n hx hb dX11_paste_44 rfl (lv_at hl 0 rfl) ?_
                  refine va_get (D := G) (ci := 11) (v := .ref a_6) (C := RX11) (T := TX11) (N := 11) hx hb hts (mm_i inlX11) hown hK.1 hP 0 rfl rfl 5 (by decide) (mm_h hts mm_w32) (fun _ h9 => h9) rfl dX11_paste_45 ?_
                  refine lv_iload_n hx hb dX11_paste_48 rfl (lv_at hl 1 rfl) ?_
                  refine va_aldq hx hb hK.1 hP 1 6 rfl rfl (mm_in mm_k3 (by decide)) dX11_paste_49 ?_
                  refine W.eq (g2 := F0 m 50 ls [.ref a_15]) rfl ?_
                  refine va_get (D := G) (ci := 6) (v := .int i_15) (C := RX6) (T := TX6) (N := 4) hx hb hts (mm_i inlX6) hown hK.1 hP 8 rfl rfl 1 (by decide) (mm_h hts mm_w1710) (fun _ h9 => h9) rfl dX11_paste_50 ?_
                  refine lv_aload_n hx hb dX11_paste_53 rfl (lv_at hl 0 rfl) ?_
                  refine va_get (D := G) (ci := 11) (v := .ref a_6) (C := RX11) (T := TX11) (N := 11) hx hb hts (mm_i inlX11) hown hK.1 hP 0 rfl rfl 5 (by decide) (mm_h hts mm_w32) (fun _ h9 => h9) rfl dX11_paste_54 ?_
                  refine lv_iload_n hx hb dX11_paste_57 rfl (lv_at hl 3 rfl) ?_
                  refine va_aldq hx hb hK.1 hP 1 6 rfl rfl (mm_in mm_k3 (by decide)) dX11_paste_58 ?_
                  refine W.eq (g2 := F0 m 59 ls [.ref a_15, .int i_15]) rfl ?_
                  refine va_get (D := G) (ci := 6) (v := .int i_15) (C := RX6) (T := TX6) (N := 4) hx hb hts (mm_i inlX6) hown hK.1 hP 8 rfl rfl 1 (by decide) (mm_h hts mm_w1710) (fun _ h9 => h9) rfl dX11_paste_59 ?_
                  refine lv_icmp_eq (tgt := 68) hx hb dX11_paste_62 (by decide) (fun c325 => ?_) (fun c325 => ?_)
                  · refine lv_aload_n hx hb dX11_paste_68 rfl (lv_at hl 0 rfl) ?_
                    refine va_get (D := G) (ci := 11) (v := .ref a_6) (C := RX11) (T := TX11) (N := 11) hx hb hts (mm_i inlX11) hown hK.1 hP 0 rfl rfl 5 (by decide) (mm_h hts mm_w32) (fun _ h9 => h9) rfl dX11_paste_69 ?_
                    refine lv_iload_n hx hb dX11_paste_72 rfl (lv_at hl 1 rfl) ?_
                    refine va_aldq hx hb hK.1 hP 1 6 rfl rfl (mm_in mm_k3 (by decide)) dX11_paste_73 ?_
                    refine W.eq (g2 := F0 m 74 ls [.ref a_15]) rfl ?_
                    refine lv_iload_n hx hb dX11_paste_74 rfl (lv_at hl 2 rfl) ?_
                    refine lv_iload hx hb dX11_paste_75 (lv_at hl 5 rfl) ?_
                    refine mm_finir (va_runV (As := [.int i_1, .int i_4]) (rest := []) ⟨hx, hb, hml, hown, hts⟩ (K541_X6_reaches l G cy H.size a_15 i_1 i_4 i_14 i_15 i_16 a_19 h11) (cwV 2 hts (mm_gV mm_w1713 mm_w1714 mm_w1715 mm_w34 mm_w1716) rfl rfl rfl hd_X6_reaches ⟨by rw [hRf]; exact Nat.le_of_ble_eq_true rfl, by rw [hRl]; exact Nat.le_of_ble_eq_true rfl⟩) (mm_preV hK hZ hS hA hP hD [8] rfl rfl 8 rfl rfl rfl) rfl rfl hl.1 rfl (lv_room (Nat.le_of_ble_eq_true rfl)) dX11_paste_77 ⟨by rw [hRc]; exact Nat.le_of_ble_eq_true rfl, by rw [hRs]; exact Nat.le_of_ble_eq_true rfl⟩) hP hD hS hA [8] rfl (fun _ => rfl) ?_
                    clear hP hD hS
                    clear H locs
                    intro v326 _u H locs hw hP hD hS
                    rcases hw with ⟨rfl, w327⟩ | ⟨rfl, w328, w329, w330⟩
                    · refine lv_if_eq (tgt := 99) hx hb dX11_paste_80 (by decide) (fun c331 => ?_) (fun c331 => ?_)
                      · refine lv_bipush (v := (-7)) hx hb dX11_paste_99 (by decide) ?_
                        subst hAe
                        rw [hQ]
                        exact W.iret (v := (-7)) hx hb hr (fun t ht hW => ⟨⟨(-7), (f_0, f_1, f_2, f_3), rfl, (mm_wk mm_km7 (by decide)), by rw [ht]; exact hP, hK.warm hW, hD⟩, hS.F ht⟩) hS.2.2 dX11_paste_101
                      · have q332 := mm_neL (lo := 1) (mm_ne c331) mm_k0 mm_k0 (by decide) (by decide)
                        exact mm_no q332 (by decide)
                    · refine lv_if_eq (tgt := 99) hx hb dX11_paste_80 (by decide) (fun c333 => ?_) (fun c333 => ?_)
                      · exact mm_eqN c333.symm mm_k0 mm_k1 (by decide)
                      · refine lv_aload_n hx hb dX11_paste_83 rfl (lv_at hl 0 rfl) ?_
                        refine va_get (D := G) (ci := 11) (v := .ref a_6) (C := RX11) (T := TX11) (N := 11) hx hb hts (mm_i inlX11) hown hK.1 hP 0 rfl rfl 5 (by decide) (mm_h hts mm_w32) (fun _ h9 => h9) rfl dX11_paste_84 ?_
                        refine lv_iload_n hx hb dX11_paste_87 rfl (lv_at hl 3 rfl) ?_
                        refine va_aldq hx hb hK.1 hP 1 6 rfl rfl (mm_in mm_k3 (by decide)) dX11_paste_88 ?_
                        refine W.eq (g2 := F0 m 89 ls [.ref a_15]) rfl ?_
                        refine lv_iload hx hb dX11_paste_89 (lv_at hl 4 rfl) ?_
                        refine lv_iload hx hb dX11_paste_91 (lv_at hl 5 rfl) ?_
                        refine mm_finir (va_runV (As := [.int i_3, .int i_4]) (rest := []) ⟨hx, hb, hml, hown, hts⟩ (K542_X6_reaches l G cy H.size a_15 i_3 i_4 i_14 i_15 i_16 a_19 w329 h11) (cwV 2 hts (mm_gV mm_w1713 mm_w1714 mm_w1715 mm_w34 mm_w1716) rfl rfl rfl hd_X6_reaches ⟨by rw [hRf]; exact Nat.le_of_ble_eq_true rfl, by rw [hRl]; exact Nat.le_of_ble_eq_true rfl⟩) (mm_preV hK hZ hS hA hP hD [8] rfl rfl 8 rfl rfl rfl) rfl rfl hl.1 rfl (lv_room (Nat.le_of_ble_eq_true rfl)) dX11_paste_93 ⟨by rw [hRc]; exact Nat.le_of_ble_eq_true rfl, by rw [hRs]; exact Nat.le_of_ble_eq_true rfl⟩) hP hD hS hA [8] rfl (fun _ => rfl) ?_
                        clear hP hD hS
                        clear H locs
                        intro v334 _u H locs hw hP hD hS
                        rcases hw with ⟨rfl, w335⟩ | ⟨rfl, w336, w337⟩
                        · refine lv_if_ne (tgt := 102) hx hb dX11_paste_96 (by decide) (fun c338 => ?_) (fun c338 => ?_)
                          · have q339 := mm_neL (lo := 1) (mm_ne c338) mm_k0 mm_k0 (by decide) (by decide)
                            exact mm_no q339 (by decide)
                          · refine lv_bipush (v := (-7)) hx hb dX11_paste_99 (by decide) ?_
                            subst hAe
                            rw [hQ]
                            exact W.iret (v := (-7)) hx hb hr (fun t ht hW => ⟨⟨(-7), (f_0, f_1, f_2, f_3), rfl, (mm_wk mm_km7 (by decide)), by rw [ht]; exact hP, hK.warm hW, hD⟩, hS.F ht⟩) hS.2.2 dX11_paste_101
                        · refine lv_if_ne (tgt := 102) hx hb dX11_paste_96 (by decide) (fun c340 => ?_) (fun c340 => ?_)
                          · refine lv_aload_n hx hb dX11_paste_102 rfl (lv_at hl 0 rfl) ?_
                            refine va_get (D := G) (ci := 11) (v := .ref a_6) (C := RX11) (T := TX11) (N := 11) hx hb hts (mm_i inlX11) hown hK.1 hP 0 rfl rfl 5 (by decide) (mm_h hts mm_w32) (fun _ h9 => h9) rfl dX11_paste_103 ?_
                            refine lv_iload_n hx hb dX11_paste_106 rfl (lv_at hl 1 rfl) ?_
                            refine va_aldq hx hb hK.1 hP 1 6 rfl rfl (mm_in mm_k3 (by decide)) dX11_paste_107 ?_
                            refine W.eq (g2 := F0 m 108 ls [.ref a_15]) rfl ?_
                            refine va_get (D := G) (ci := 6) (v := .ref a_19) (C := RX6) (T := TX6) (N := 4) hx hb hts (mm_i inlX6) hown hK.1 hP 8 rfl rfl 3 (by decide) (mm_h hts mm_w1711) (fun _ h9 => h9) rfl dX11_paste_108 ?_
                            refine lv_iload_n hx hb dX11_paste_111 rfl (lv_at hl 2 rfl) ?_
                            refine lv_aload_n hx hb dX11_paste_112 rfl (lv_at hl 0 rfl) ?_
                            refine va_get (D := G) (ci := 11) (v := .ref a_6) (C := RX11) (T := TX11) (N := 11) hx hb hts (mm_i inlX11) hown hK.1 hP 0 rfl rfl 5 (by decide) (mm_h hts mm_w32) (fun _ h9 => h9) rfl dX11_paste_113 ?_
                            refine lv_iload_n hx hb dX11_paste_116 rfl (lv_at hl 3 rfl) ?_
                            refine va_aldq hx hb hK.1 hP 1 6 rfl rfl (mm_in mm_k3 (by decide)) dX11_paste_117 ?_
                            refine W.eq (g2 := F0 m 118 ls [.ref a_15, .int i_1, .ref a_19]) rfl ?_
                            refine va_get (D := G) (ci := 6) (v := .ref a_19) (C := RX6) (T := TX6) (N := 4) hx hb hts (mm_i inlX6) hown hK.1 hP 8 rfl rfl 3 (by decide) (mm_h hts mm_w1711) (fun _ h9 => h9) rfl dX11_paste_118 ?_
                            refine lv_iload hx hb dX11_paste_121 (lv_at hl 4 rfl) ?_
                            refine lv_iload hx hb dX11_paste_123 (lv_at hl 5 rfl) ?_
                            refine va_copyl hx hb (by rw [hml]; exact hl.1.symm) hown (mm_h hts mm_w1712) (mm_h hts mm_w388) (mm_h hts mm_w389) (mm_h hts mm_w390) hK.1 hP hD hS 9 9 2 2 rfl rfl rfl rfl rfl (mm_nn w328 (by decide)) (mm_nn w336 (by decide)) (mm_nn w329 (by decide)) (mm_cpR w330 w328 w329 h11 (by decide)) (mm_cpR w337 w336 w329 h11 (by decide)) (fun _ _ => rfl) (by rw [hRf]; exact Nat.le_of_ble_eq_true rfl) (by rw [hRl]; exact Nat.le_of_ble_eq_true rfl) dX11_paste_125 ?_
                            clear hP hD hS
                            clear H locs
                            obtain ⟨g341, eg341⟩ : ∃ z : Nat → Int64, z = va_cpy f_3 f_3 i_1.toNatClampNeg i_3.toNatClampNeg i_4.toNatClampNeg := ⟨_, rfl⟩
                            rw [← eg341]
                            intro H locs (hP : va_P G vwCl [(a_0, .inr (11, [.ref a_1, .ref a_2, .ref a_3, .ref a_4, .ref a_5, .ref a_6, .ref a_7, .ref a_8, .ref a_9, .ref a_10, .ref a_11])), (a_6, .inl (cy 6, 4, .inr (.inr (.inr (.inr (va_up (va_up (va_up (va_up (fun _ => none) 0 (some a_12)) 1 (some a_13)) 2 (some a_14)) 3 (some a_15))))))), (a_12, .inr (6, [.int i_5, .int i_6, .int i_7, .ref a_16])), (a_16, .inl (cy 2, 60, .inr (.inl f_0))), (a_13, .inr (6, [.int i_8, .int i_9, .int i_10, .ref a_17])), (a_17, .inl (cy 2, 60, .inr (.inl f_1))), (a_14, .inr (6, [.int i_11, .int i_12, .int i_13, .ref a_18])), (a_18, .inl (cy 2, 60, .inr (.inl f_2))), (a_15, .inr (6, [.int i_14, .int i_15, .int i_16, .ref a_19])), (a_19, .inl (cy 2, 60, .inr (.inl g341)))] H) (hD : va_D A [(a_0, .inr (11, [.ref a_1, .ref a_2, .ref a_3, .ref a_4, .ref a_5, .ref a_6, .ref a_7, .ref a_8, .ref a_9, .ref a_10, .ref a_11])), (a_6, .inl (cy 6, 4, .inr (.inr (.inr (.inr (va_up (va_up (va_up (va_up (fun _ => none) 0 (some a_12)) 1 (some a_13)) 2 (some a_14)) 3 (some a_15))))))), (a_12, .inr (6, [.int i_5, .int i_6, .int i_7, .ref a_16])), (a_16, .inl (cy 2, 60, .inr (.inl f_0))), (a_13, .inr (6, [.int i_8, .int i_9, .int i_10, .ref a_17])), (a_17, .inl (cy 2, 60, .inr (.inl f_1))), (a_14, .inr (6, [.int i_11, .int i_12, .int i_13, .ref a_18])), (a_18, .inl (cy 2, 60, .inr (.inl f_2))), (a_15, .inr (6, [.int i_14, .int i_15, .int i_16, .ref a_19])), (a_19, .inl (cy 2, 60, .inr (.inl g341)))]) hS
                            refine lv_iconst (v := 0) hx hb dX11_paste_128 (by decide) ?_
                            subst hAe
                            rw [hQ]
                            exact W.iret (v := 0) hx hb hr (fun t ht hW => ⟨⟨0, (f_0, f_1, f_2, g341), rfl, (mm_wk mm_k0 (by decide)), by rw [ht]; exact hP, hK.warm hW, hD⟩, hS.F ht⟩) hS.2.2 dX11_paste_129
                          · exact mm_eqN c340.symm mm_k0 mm_k1 (by decide)
                  · refine lv_bipush (v := (-8)) hx hb dX11_paste_65 (by decide) ?_
                    subst hAe
                    rw [hQ]
                    exact W.iret (v := (-8)) hx hb hr (fun t ht hW => ⟨⟨(-8), (f_0, f_1, f_2, f_3), rfl, (mm_wk mm_km8 (by decide)), by rw [ht]; exact hP, hK.warm hW, hD⟩, hS.F ht⟩) hS.2.2 dX11_paste_67
                · exact mm_eqN c324.symm mm_k0 q262 (by decide)
        · exact mm_eqN c12.symm mm_k0 mm_k1 (by decide)

