theorem dJ7_fill_d0a16_0 : decode cJ7_fill_d0a16 0 = .ok (.iconst 0, 1) := by decide +kernel
theorem dJ7_fill_d0a16_1 : decode cJ7_fill_d0a16 1 = .ok (.istore_n 3, 1) := by decide +kernel
theorem dJ7_fill_d0a16_2 : decode cJ7_fill_d0a16 2 = .ok (.aload_n 0, 1) := by decide +kernel
theorem dJ7_fill_d0a16_3 : decode cJ7_fill_d0a16 3 = .ok (.arraylength, 1) := by decide +kernel
theorem dJ7_fill_d0a16_4 : decode cJ7_fill_d0a16 4 = .ok (.istore 4, 2) := by decide +kernel
theorem dJ7_fill_d0a16_6 : decode cJ7_fill_d0a16 6 = .ok (.iload_n 3, 1) := by decide +kernel
theorem dJ7_fill_d0a16_7 : decode cJ7_fill_d0a16 7 = .ok (.iload 4, 2) := by decide +kernel
theorem dJ7_fill_d0a16_9 : decode cJ7_fill_d0a16 9 = .ok (.if_icmp .ge 13, 3) := by decide +kernel
theorem dJ7_fill_d0a16_12 : decode cJ7_fill_d0a16 12 = .ok (.aload_n 0, 1) := by decide +kernel
theorem dJ7_fill_d0a16_13 : decode cJ7_fill_d0a16 13 = .ok (.iload_n 3, 1) := by decide +kernel
theorem dJ7_fill_d0a16_14 : decode cJ7_fill_d0a16 14 = .ok (.lload_n 1, 1) := by decide +kernel
theorem dJ7_fill_d0a16_15 : decode cJ7_fill_d0a16 15 = .ok (.lastore, 1) := by decide +kernel
theorem dJ7_fill_d0a16_16 : decode cJ7_fill_d0a16 16 = .ok (.iinc 3 1, 3) := by decide +kernel
theorem dJ7_fill_d0a16_19 : decode cJ7_fill_d0a16 19 = .ok (.goto (-13), 3) := by decide +kernel
theorem dJ7_fill_d0a16_22 : decode cJ7_fill_d0a16 22 = .ok (.return_, 1) := by decide +kernel
theorem dX11_back_0 : decode cX11_back 0 = .ok (.iload_n 1, 1) := by decide +kernel
theorem dX11_back_1 : decode cX11_back 1 = .ok (.ifCond .lt 8, 3) := by decide +kernel
theorem dX11_back_4 : decode cX11_back 4 = .ok (.iload_n 1, 1) := by decide +kernel
theorem dX11_back_5 : decode cX11_back 5 = .ok (.iconst 3, 1) := by decide +kernel
theorem dX11_back_6 : decode cX11_back 6 = .ok (.if_icmp .lt 6, 3) := by decide +kernel
theorem dX11_back_9 : decode cX11_back 9 = .ok (.bipush (-2), 2) := by decide +kernel
theorem dX11_back_11 : decode cX11_back 11 = .ok (.ireturn, 1) := by decide +kernel
theorem dX11_back_12 : decode cX11_back 12 = .ok (.aload_n 0, 1) := by decide +kernel
theorem dX11_back_13 : decode cX11_back 13 = .ok (.getfield 39, 3) := by decide +kernel
theorem dX11_back_16 : decode cX11_back 16 = .ok (.iload_n 1, 1) := by decide +kernel
theorem dX11_back_17 : decode cX11_back 17 = .ok (.baload, 1) := by decide +kernel
theorem dX11_back_18 : decode cX11_back 18 = .ok (.ifCond .ne 6, 3) := by decide +kernel
theorem dX11_back_21 : decode cX11_back 21 = .ok (.bipush (-6), 2) := by decide +kernel
theorem dX11_back_23 : decode cX11_back 23 = .ok (.ireturn, 1) := by decide +kernel
theorem dX11_paste_0 : decode cX11_paste 0 = .ok (.iload_n 1, 1) := by decide +kernel
theorem dX11_paste_1 : decode cX11_paste 1 = .ok (.invokestatic 302, 3) := by decide +kernel
theorem dX11_paste_4 : decode cX11_paste 4 = .ok (.ifCond .eq 10, 3) := by decide +kernel
theorem dX11_paste_7 : decode cX11_paste 7 = .ok (.iload_n 3, 1) := by decide +kernel
theorem dX11_paste_8 : decode cX11_paste 8 = .ok (.invokestatic 302, 3) := by decide +kernel
theorem dX11_paste_11 : decode cX11_paste 11 = .ok (.ifCond .ne 6, 3) := by decide +kernel
theorem dX11_paste_14 : decode cX11_paste 14 = .ok (.bipush (-2), 2) := by decide +kernel
theorem dX11_paste_16 : decode cX11_paste 16 = .ok (.ireturn, 1) := by decide +kernel
theorem dX11_paste_17 : decode cX11_paste 17 = .ok (.aload_n 0, 1) := by decide +kernel
theorem dX11_paste_18 : decode cX11_paste 18 = .ok (.getfield 45, 3) := by decide +kernel
theorem dX11_paste_21 : decode cX11_paste 21 = .ok (.iload_n 1, 1) := by decide +kernel
theorem dX11_paste_22 : decode cX11_paste 22 = .ok (.aaload, 1) := by decide +kernel
theorem dX11_paste_23 : decode cX11_paste 23 = .ok (.getfield 395, 3) := by decide +kernel
theorem dX11_paste_26 : decode cX11_paste 26 = .ok (.ifCond .eq 15, 3) := by decide +kernel
theorem dX11_paste_41 : decode cX11_paste 41 = .ok (.bipush (-6), 2) := by decide +kernel
theorem dX11_paste_43 : decode cX11_paste 43 = .ok (.ireturn, 1) := by decide +kernel
theorem dX11_row_0 : decode cX11_row 0 = .ok (.iload_n 1, 1) := by decide +kernel
theorem dX11_row_1 : decode cX11_row 1 = .ok (.invokestatic 302, 3) := by decide +kernel
theorem dX11_row_4 : decode cX11_row 4 = .ok (.ifCond .eq 18, 3) := by decide +kernel
theorem dX11_row_7 : decode cX11_row 7 = .ok (.iload_n 2, 1) := by decide +kernel
theorem dX11_row_8 : decode cX11_row 8 = .ok (.ifCond .lt 14, 3) := by decide +kernel
theorem dX11_row_11 : decode cX11_row 11 = .ok (.iload_n 2, 1) := by decide +kernel
theorem dX11_row_12 : decode cX11_row 12 = .ok (.iconst 3, 1) := by decide +kernel
theorem dX11_row_13 : decode cX11_row 13 = .ok (.if_icmp .gt 9, 3) := by decide +kernel
theorem dX11_row_16 : decode cX11_row 16 = .ok (.iload_n 3, 1) := by decide +kernel
theorem dX11_row_17 : decode cX11_row 17 = .ok (.bipush 60, 2) := by decide +kernel
theorem dX11_row_19 : decode cX11_row 19 = .ok (.if_icmp .le 6, 3) := by decide +kernel
theorem dX11_row_22 : decode cX11_row 22 = .ok (.bipush (-2), 2) := by decide +kernel
theorem dX11_row_24 : decode cX11_row 24 = .ok (.ireturn, 1) := by decide +kernel
theorem dX11_row_25 : decode cX11_row 25 = .ok (.iload_n 3, 1) := by decide +kernel
theorem dX11_row_26 : decode cX11_row 26 = .ok (.ifCond .ge 6, 3) := by decide +kernel
theorem dX11_row_29 : decode cX11_row 29 = .ok (.bipush (-3), 2) := by decide +kernel
theorem dX11_row_31 : decode cX11_row 31 = .ok (.ireturn, 1) := by decide +kernel
theorem dX11_row_32 : decode cX11_row 32 = .ok (.aload_n 0, 1) := by decide +kernel
theorem dX11_row_33 : decode cX11_row 33 = .ok (.getfield 45, 3) := by decide +kernel
theorem dX11_row_36 : decode cX11_row 36 = .ok (.iload_n 1, 1) := by decide +kernel
theorem dX11_row_37 : decode cX11_row 37 = .ok (.aaload, 1) := by decide +kernel
theorem dX11_row_38 : decode cX11_row 38 = .ok (.iload_n 2, 1) := by decide +kernel
theorem dX11_row_39 : decode cX11_row 39 = .ok (.iload_n 3, 1) := by decide +kernel
theorem dX11_row_40 : decode cX11_row 40 = .ok (.invokevirtual 391, 3) := by decide +kernel
theorem dX11_row_43 : decode cX11_row 43 = .ok (.iconst 0, 1) := by decide +kernel
theorem dX11_row_44 : decode cX11_row 44 = .ok (.ireturn, 1) := by decide +kernel
theorem dX11_write_0 : decode cX11_write 0 = .ok (.iload_n 1, 1) := by decide +kernel
theorem dX11_write_1 : decode cX11_write 1 = .ok (.invokestatic 302, 3) := by decide +kernel
theorem dX11_write_4 : decode cX11_write 4 = .ok (.ifCond .ne 6, 3) := by decide +kernel
theorem dX11_write_7 : decode cX11_write 7 = .ok (.bipush (-2), 2) := by decide +kernel
theorem dX11_write_9 : decode cX11_write 9 = .ok (.ireturn, 1) := by decide +kernel
theorem dX11_write_10 : decode cX11_write 10 = .ok (.aload_n 0, 1) := by decide +kernel
theorem dX11_write_11 : decode cX11_write 11 = .ok (.getfield 45, 3) := by decide +kernel
theorem dX11_write_14 : decode cX11_write 14 = .ok (.iload_n 1, 1) := by decide +kernel
theorem dX11_write_15 : decode cX11_write 15 = .ok (.aaload, 1) := by decide +kernel
theorem dX11_write_16 : decode cX11_write 16 = .ok (.getfield 395, 3) := by decide +kernel
theorem dX11_write_19 : decode cX11_write 19 = .ok (.ifCond .ne 6, 3) := by decide +kernel
theorem dX11_write_22 : decode cX11_write 22 = .ok (.bipush (-6), 2) := by decide +kernel
theorem dX11_write_24 : decode cX11_write 24 = .ok (.ireturn, 1) := by decide +kernel
theorem dX12_back_0 : decode cX12_back 0 = .ok (.aload_n 0, 1) := by decide +kernel
theorem dX12_back_1 : decode cX12_back 1 = .ok (.iconst 0, 1) := by decide +kernel
theorem dX12_back_2 : decode cX12_back 2 = .ok (.putfield 77, 3) := by decide +kernel
theorem dX12_back_5 : decode cX12_back 5 = .ok (.iload_n 1, 1) := by decide +kernel
theorem dX12_back_6 : decode cX12_back 6 = .ok (.i2l, 1) := by decide +kernel
theorem dX12_back_7 : decode cX12_back 7 = .ok (.lconst 0, 1) := by decide +kernel
theorem dX12_back_8 : decode cX12_back 8 = .ok (.ldc2_w 469, 3) := by decide +kernel
theorem dX12_back_11 : decode cX12_back 11 = .ok (.invokestatic 82, 3) := by decide +kernel
theorem dX12_back_14 : decode cX12_back 14 = .ok (.ifCond .ne 6, 3) := by decide +kernel
theorem dX12_back_17 : decode cX12_back 17 = .ok (.bipush (-2), 2) := by decide +kernel
theorem dX12_back_19 : decode cX12_back 19 = .ok (.ireturn, 1) := by decide +kernel
theorem dX12_back_20 : decode cX12_back 20 = .ok (.aload_n 0, 1) := by decide +kernel
theorem dX12_back_21 : decode cX12_back 21 = .ok (.getfield 55, 3) := by decide +kernel
theorem dX12_back_24 : decode cX12_back 24 = .ok (.iload_n 1, 1) := by decide +kernel
theorem dX12_back_25 : decode cX12_back 25 = .ok (.baload, 1) := by decide +kernel
theorem dX12_back_26 : decode cX12_back 26 = .ok (.ifCond .ne 6, 3) := by decide +kernel
theorem dX12_back_29 : decode cX12_back 29 = .ok (.bipush (-6), 2) := by decide +kernel
theorem dX12_back_31 : decode cX12_back 31 = .ok (.ireturn, 1) := by decide +kernel
theorem dX12_image_0 : decode cX12_image 0 = .ok (.aload_n 0, 1) := by decide +kernel
theorem dX12_image_1 : decode cX12_image 1 = .ok (.iconst 0, 1) := by decide +kernel
theorem dX12_image_2 : decode cX12_image 2 = .ok (.putfield 77, 3) := by decide +kernel
theorem dX12_image_5 : decode cX12_image 5 = .ok (.iload_n 1, 1) := by decide +kernel
theorem dX12_image_6 : decode cX12_image 6 = .ok (.i2l, 1) := by decide +kernel
theorem dX12_image_7 : decode cX12_image 7 = .ok (.lconst 0, 1) := by decide +kernel
theorem dX12_image_8 : decode cX12_image 8 = .ok (.ldc2_w 469, 3) := by decide +kernel
theorem dX12_image_11 : decode cX12_image 11 = .ok (.invokestatic 82, 3) := by decide +kernel
theorem dX12_image_14 : decode cX12_image 14 = .ok (.ifCond .ne 6, 3) := by decide +kernel
theorem dX12_image_17 : decode cX12_image 17 = .ok (.bipush (-2), 2) := by decide +kernel
theorem dX12_image_19 : decode cX12_image 19 = .ok (.ireturn, 1) := by decide +kernel
theorem dX12_image_20 : decode cX12_image 20 = .ok (.aload_n 0, 1) := by decide +kernel
theorem dX12_image_21 : decode cX12_image 21 = .ok (.iconst 0, 1) := by decide +kernel
theorem dX12_image_22 : decode cX12_image 22 = .ok (.iconst 1, 1) := by decide +kernel
theorem dX12_image_23 : decode cX12_image 23 = .ok (.iload_n 1, 1) := by decide +kernel
theorem dX12_image_24 : decode cX12_image 24 = .ok (.iadd, 1) := by decide +kernel
theorem dX12_image_25 : decode cX12_image 25 = .ok (.invokevirtual 244, 3) := by decide +kernel
theorem dX12_image_28 : decode cX12_image 28 = .ok (.aload_n 0, 1) := by decide +kernel
theorem dX12_image_29 : decode cX12_image 29 = .ok (.getfield 55, 3) := by decide +kernel
theorem dX12_image_32 : decode cX12_image 32 = .ok (.iload_n 1, 1) := by decide +kernel
theorem dX12_image_33 : decode cX12_image 33 = .ok (.iconst 1, 1) := by decide +kernel
theorem dX12_image_34 : decode cX12_image 34 = .ok (.bastore, 1) := by decide +kernel
theorem dX12_image_35 : decode cX12_image 35 = .ok (.iconst 0, 1) := by decide +kernel
theorem dX12_image_36 : decode cX12_image 36 = .ok (.ireturn, 1) := by decide +kernel
theorem dX12_paste_0 : decode cX12_paste 0 = .ok (.aload_n 0, 1) := by decide +kernel
theorem dX12_paste_1 : decode cX12_paste 1 = .ok (.iconst 0, 1) := by decide +kernel
theorem dX12_paste_2 : decode cX12_paste 2 = .ok (.putfield 77, 3) := by decide +kernel
theorem dX12_paste_5 : decode cX12_paste 5 = .ok (.iload_n 1, 1) := by decide +kernel
theorem dX12_paste_6 : decode cX12_paste 6 = .ok (.invokestatic 86, 3) := by decide +kernel
theorem dX12_paste_9 : decode cX12_paste 9 = .ok (.ifCond .eq 10, 3) := by decide +kernel
theorem dX12_paste_12 : decode cX12_paste 12 = .ok (.iload_n 3, 1) := by decide +kernel
theorem dX12_paste_13 : decode cX12_paste 13 = .ok (.invokestatic 86, 3) := by decide +kernel
theorem dX12_paste_16 : decode cX12_paste 16 = .ok (.ifCond .ne 6, 3) := by decide +kernel
theorem dX12_paste_19 : decode cX12_paste 19 = .ok (.bipush (-2), 2) := by decide +kernel
theorem dX12_paste_21 : decode cX12_paste 21 = .ok (.ireturn, 1) := by decide +kernel
theorem dX12_paste_22 : decode cX12_paste 22 = .ok (.aload_n 0, 1) := by decide +kernel
theorem dX12_paste_23 : decode cX12_paste 23 = .ok (.getfield 7, 3) := by decide +kernel
theorem dX12_paste_26 : decode cX12_paste 26 = .ok (.iload_n 1, 1) := by decide +kernel
theorem dX12_paste_27 : decode cX12_paste 27 = .ok (.iaload, 1) := by decide +kernel
theorem dX12_paste_28 : decode cX12_paste 28 = .ok (.iconst (-1), 1) := by decide +kernel
theorem dX12_paste_29 : decode cX12_paste 29 = .ok (.if_icmp .eq 13, 3) := by decide +kernel
theorem dX12_paste_42 : decode cX12_paste 42 = .ok (.bipush (-6), 2) := by decide +kernel
theorem dX12_paste_44 : decode cX12_paste 44 = .ok (.ireturn, 1) := by decide +kernel
theorem dX12_row_0 : decode cX12_row 0 = .ok (.aload_n 0, 1) := by decide +kernel
theorem dX12_row_1 : decode cX12_row 1 = .ok (.iconst 0, 1) := by decide +kernel
theorem dX12_row_2 : decode cX12_row 2 = .ok (.putfield 77, 3) := by decide +kernel
theorem dX12_row_5 : decode cX12_row 5 = .ok (.iload_n 1, 1) := by decide +kernel
theorem dX12_row_6 : decode cX12_row 6 = .ok (.invokestatic 86, 3) := by decide +kernel
theorem dX12_row_9 : decode cX12_row 9 = .ok (.ifCond .eq 21, 3) := by decide +kernel
theorem dX12_row_12 : decode cX12_row 12 = .ok (.iload_n 2, 1) := by decide +kernel
theorem dX12_row_13 : decode cX12_row 13 = .ok (.i2l, 1) := by decide +kernel
theorem dX12_row_14 : decode cX12_row 14 = .ok (.lconst 0, 1) := by decide +kernel
theorem dX12_row_15 : decode cX12_row 15 = .ok (.ldc2_w 80, 3) := by decide +kernel
theorem dX12_row_18 : decode cX12_row 18 = .ok (.invokestatic 82, 3) := by decide +kernel
theorem dX12_row_21 : decode cX12_row 21 = .ok (.ifCond .eq 9, 3) := by decide +kernel
theorem dX12_row_24 : decode cX12_row 24 = .ok (.iload_n 3, 1) := by decide +kernel
theorem dX12_row_25 : decode cX12_row 25 = .ok (.bipush 60, 2) := by decide +kernel
theorem dX12_row_27 : decode cX12_row 27 = .ok (.if_icmp .le 6, 3) := by decide +kernel
theorem dX12_row_30 : decode cX12_row 30 = .ok (.bipush (-2), 2) := by decide +kernel
theorem dX12_row_32 : decode cX12_row 32 = .ok (.ireturn, 1) := by decide +kernel
theorem dX12_row_33 : decode cX12_row 33 = .ok (.iload_n 3, 1) := by decide +kernel
theorem dX12_row_34 : decode cX12_row 34 = .ok (.ifCond .ge 6, 3) := by decide +kernel
theorem dX12_row_37 : decode cX12_row 37 = .ok (.bipush (-3), 2) := by decide +kernel
theorem dX12_row_39 : decode cX12_row 39 = .ok (.ireturn, 1) := by decide +kernel
theorem dX12_row_40 : decode cX12_row 40 = .ok (.aload_n 0, 1) := by decide +kernel
theorem dX12_row_41 : decode cX12_row 41 = .ok (.getfield 7, 3) := by decide +kernel
theorem dX12_row_44 : decode cX12_row 44 = .ok (.iload_n 1, 1) := by decide +kernel
theorem dX12_row_45 : decode cX12_row 45 = .ok (.iload_n 2, 1) := by decide +kernel
theorem dX12_row_46 : decode cX12_row 46 = .ok (.iastore, 1) := by decide +kernel
theorem dX12_row_47 : decode cX12_row 47 = .ok (.aload_n 0, 1) := by decide +kernel
theorem dX12_row_48 : decode cX12_row 48 = .ok (.getfield 13, 3) := by decide +kernel
theorem dX12_row_51 : decode cX12_row 51 = .ok (.iload_n 1, 1) := by decide +kernel
theorem dX12_row_52 : decode cX12_row 52 = .ok (.iload_n 3, 1) := by decide +kernel
theorem dX12_row_53 : decode cX12_row 53 = .ok (.iastore, 1) := by decide +kernel
theorem dX12_row_54 : decode cX12_row 54 = .ok (.iconst 0, 1) := by decide +kernel
theorem dX12_row_55 : decode cX12_row 55 = .ok (.istore 4, 2) := by decide +kernel
theorem dX12_row_57 : decode cX12_row 57 = .ok (.iload 4, 2) := by decide +kernel
theorem dX12_row_59 : decode cX12_row 59 = .ok (.iload_n 3, 1) := by decide +kernel
theorem dX12_row_60 : decode cX12_row 60 = .ok (.if_icmp .ge 22, 3) := by decide +kernel
theorem dX12_row_63 : decode cX12_row 63 = .ok (.aload_n 0, 1) := by decide +kernel
theorem dX12_row_64 : decode cX12_row 64 = .ok (.getfield 16, 3) := by decide +kernel
theorem dX12_row_67 : decode cX12_row 67 = .ok (.bipush 60, 2) := by decide +kernel
theorem dX12_row_69 : decode cX12_row 69 = .ok (.iload_n 1, 1) := by decide +kernel
theorem dX12_row_70 : decode cX12_row 70 = .ok (.imul, 1) := by decide +kernel
theorem dX12_row_71 : decode cX12_row 71 = .ok (.iload 4, 2) := by decide +kernel
theorem dX12_row_73 : decode cX12_row 73 = .ok (.iadd, 1) := by decide +kernel
theorem dX12_row_74 : decode cX12_row 74 = .ok (.lconst 0, 1) := by decide +kernel
theorem dX12_row_75 : decode cX12_row 75 = .ok (.lastore, 1) := by decide +kernel
theorem dX12_row_76 : decode cX12_row 76 = .ok (.iinc 4 1, 3) := by decide +kernel
theorem dX12_row_79 : decode cX12_row 79 = .ok (.goto (-22), 3) := by decide +kernel
theorem dX12_row_82 : decode cX12_row 82 = .ok (.iconst 0, 1) := by decide +kernel
theorem dX12_row_83 : decode cX12_row 83 = .ok (.ireturn, 1) := by decide +kernel
theorem dX12_write_0 : decode cX12_write 0 = .ok (.aload_n 0, 1) := by decide +kernel
theorem dX12_write_1 : decode cX12_write 1 = .ok (.iconst 0, 1) := by decide +kernel
theorem dX12_write_2 : decode cX12_write 2 = .ok (.putfield 77, 3) := by decide +kernel
theorem dX12_write_5 : decode cX12_write 5 = .ok (.iload_n 1, 1) := by decide +kernel
theorem dX12_write_6 : decode cX12_write 6 = .ok (.invokestatic 86, 3) := by decide +kernel
theorem dX12_write_9 : decode cX12_write 9 = .ok (.ifCond .ne 6, 3) := by decide +kernel
theorem dX12_write_12 : decode cX12_write 12 = .ok (.bipush (-2), 2) := by decide +kernel
theorem dX12_write_14 : decode cX12_write 14 = .ok (.ireturn, 1) := by decide +kernel
theorem dX12_write_15 : decode cX12_write 15 = .ok (.aload_n 0, 1) := by decide +kernel
theorem dX12_write_16 : decode cX12_write 16 = .ok (.getfield 7, 3) := by decide +kernel
theorem dX12_write_19 : decode cX12_write 19 = .ok (.iload_n 1, 1) := by decide +kernel
theorem dX12_write_20 : decode cX12_write 20 = .ok (.iaload, 1) := by decide +kernel
theorem dX12_write_21 : decode cX12_write 21 = .ok (.iconst (-1), 1) := by decide +kernel
theorem dX12_write_22 : decode cX12_write 22 = .ok (.if_icmp .ne 6, 3) := by decide +kernel
theorem dX12_write_25 : decode cX12_write 25 = .ok (.bipush (-6), 2) := by decide +kernel
theorem dX12_write_27 : decode cX12_write 27 = .ok (.ireturn, 1) := by decide +kernel
theorem dX6_begin_0 : decode cX6_begin 0 = .ok (.aload_n 0, 1) := by decide +kernel
theorem dX6_begin_1 : decode cX6_begin 1 = .ok (.iconst 1, 1) := by decide +kernel
theorem dX6_begin_2 : decode cX6_begin 2 = .ok (.putfield 15, 3) := by decide +kernel
theorem dX6_begin_5 : decode cX6_begin 5 = .ok (.aload_n 0, 1) := by decide +kernel
theorem dX6_begin_6 : decode cX6_begin 6 = .ok (.iload_n 1, 1) := by decide +kernel
theorem dX6_begin_7 : decode cX6_begin 7 = .ok (.putfield 19, 3) := by decide +kernel
theorem dX6_begin_10 : decode cX6_begin 10 = .ok (.aload_n 0, 1) := by decide +kernel
theorem dX6_begin_11 : decode cX6_begin 11 = .ok (.iload_n 2, 1) := by decide +kernel
theorem dX6_begin_12 : decode cX6_begin 12 = .ok (.bipush 60, 2) := by decide +kernel
theorem dX6_begin_14 : decode cX6_begin 14 = .ok (.invokestatic 23, 3) := by decide +kernel
theorem dX6_begin_17 : decode cX6_begin 17 = .ok (.putfield 29, 3) := by decide +kernel
theorem dX6_begin_20 : decode cX6_begin 20 = .ok (.aload_n 0, 1) := by decide +kernel
theorem dX6_begin_21 : decode cX6_begin 21 = .ok (.getfield 9, 3) := by decide +kernel
theorem dX6_begin_24 : decode cX6_begin 24 = .ok (.lconst 0, 1) := by decide +kernel
theorem dX6_begin_25 : decode cX6_begin 25 = .ok (.invokestatic 32, 3) := by decide +kernel
theorem dX6_begin_28 : decode cX6_begin 28 = .ok (.return_, 1) := by decide +kernel
theorem mm_k60 : mm_rg 60 60 60 := ⟨by decide, by decide⟩
theorem hd_X6_begin : yX6_begin.cls = RX6 ∧ yX6_begin.cls ≠ "java/lang/invoke/MethodHandle" ∧ yX6_begin.cls ≠ "java/lang/invoke/VarHandle" ∧ (parseMethodDescriptor yX6_begin.desc).map (fun d => d.parameters.length) = some 2 := by decide +kernel
theorem hs_J7_fill_d0a16 : yJ7_fill_d0a16.cls ≠ "java/lang/invoke/MethodHandle" ∧ yJ7_fill_d0a16.cls ≠ "java/lang/invoke/VarHandle" ∧ (parseMethodDescriptor yJ7_fill_d0a16.desc).map (fun d => d.parameters.length) = some 2 := by decide +kernel
set_option maxHeartbeats 4000000 in
set_option maxRecDepth 100000 in
theorem K301_X12_copyBook (l : Launch) (G : va_G) (cy : Nat → ClassId) (sz : Nat) (a_0 : Nat) (i_0 : Int32) (k_0 : Int32) (a_1 : Nat) (a_2 : Nat) (a_3 : Nat) (a_4 : Nat) (a_5 : Nat) (i_1 : Int32) (i_2 : Int32) (i_3 : Int32) (i_4 : Int32) (i_5 : Int32) (j_0 : Int64) (i_6 : Int32) (i_7 : Int32) (i_8 : Int32) (i_9 : Int32) (a_6 : Nat) (a_7 : Nat) (a_8 : Nat) (a_9 : Nat) (a_10 : Nat) (a_11 : Nat) (a_12 : Nat) (a_13 : Nat) (a_14 : Nat) (a_15 : Nat) (a_16 : Nat) (a_17 : Nat) (a_18 : Nat) (i_10 : Int32) (i_11 : Int32) (i_12 : Int32) (i_13 : Int32) (i_14 : Int32) (i_15 : Int32) (a_19 : Nat) (i_16 : Int32) (a_20 : Nat) (h0 : mm_rg i_0 1 3)  : mm_CV l yX12_copyBook (mm_ws yX12_copyBook cX12_copyBook 3 (none)) ({ frames := 1, cells := 0, slots := 0, locals := 24 } : Room) G cy sz [(a_0, .inr (12, [.int k_0, .ref a_1, .ref a_2, .ref a_3, .ref a_4, .ref a_5, .int i_1, .int i_2, .int i_3, .int i_4, .int i_5, .long j_0, .int i_6, .int i_7, .int i_8, .int i_9, .ref a_6, .ref a_7, .ref a_8, .ref a_9, .ref a_10, .ref a_11, .ref a_12, .ref a_13, .ref a_14, .ref a_15, .ref a_16, .ref a_17, .ref a_18, .int i_10, .int i_11, .int i_12, .int i_13, .int i_14, .int i_15, .ref a_19, .int i_16, .ref a_20])), (a_6, .inl (cy 1, 5, .inl (fun _ => 0))), (a_7, .inl (cy 1, 30, .inl (fun _ => 0))), (a_8, .inl (cy 1, 90, .inl (fun _ => 0))), (a_9, .inl (cy 1, 15, .inl (fun _ => 0))), (a_10, .inl (cy 1, 1050, .inl (fun _ => 0))), (a_11, .inl (cy 1, 30, .inl (fun _ => 0))), (a_12, .inl (cy 1, 240, .inl (fun _ => 0))), (a_13, .inl (cy 1, 450, .inl (fun _ => 0)))] [.ref a_0, .int 0, .int i_0] (fun u : (Nat → Int32) × (Nat → Int32) × (Nat → Int32) × (Nat → Int32) × (Nat → Int32) × (Nat → Int32) × (Nat → Int32) × (Nat → Int32) => [(a_0, .inr (12, [.int k_0, .ref a_1, .ref a_2, .ref a_3, .ref a_4, .ref a_5, .int i_1, .int i_2, .int i_3, .int i_4, .int i_5, .long j_0, .int i_6, .int i_7, .int i_8, .int i_9, .ref a_6, .ref a_7, .ref a_8, .ref a_9, .ref a_10, .ref a_11, .ref a_12, .ref a_13, .ref a_14, .ref a_15, .ref a_16, .ref a_17, .ref a_18, .int i_10, .int i_11, .int i_12, .int i_13, .int i_14, .int i_15, .ref a_19, .int i_16, .ref a_20])), (a_6, .inl (cy 1, 5, .inl u.1)), (a_7, .inl (cy 1, 30, .inl u.2.1)), (a_8, .inl (cy 1, 90, .inl u.2.2.1)), (a_9, .inl (cy 1, 15, .inl u.2.2.2.1)), (a_10, .inl (cy 1, 1050, .inl u.2.2.2.2.1)), (a_11, .inl (cy 1, 30, .inl u.2.2.2.2.2.1)), (a_12, .inl (cy 1, 240, .inl u.2.2.2.2.2.2.1)), (a_13, .inl (cy 1, 450, .inl u.2.2.2.2.2.2.2))]) (fun u : (Nat → Int32) × (Nat → Int32) × (Nat → Int32) × (Nat → Int32) × (Nat → Int32) × (Nat → Int32) × (Nat → Int32) × (Nat → Int32) => mm_ar u.1 0 0 ∧ mm_ar u.2.1 0 0 ∧ mm_ar u.2.2.1 0 0 ∧ mm_ar u.2.2.2.1 0 0 ∧ mm_ar u.2.2.2.2.1 0 0 ∧ mm_ar u.2.2.2.2.2.1 0 0 ∧ mm_ar u.2.2.2.2.2.2.1 0 0 ∧ mm_ar u.2.2.2.2.2.2.2 0 0) 0 0 := by
  refine mm_begin (lv := [(0, .ref a_0), (1, .int 0), (2, .int i_0)]) (by decide) (Nat.le_of_ble_eq_true rfl) rfl ?_
  intro p e s m below meth c A ls R args Q H locs hRe hQ hAe hx hb hr hlocks hml hown hnm hts hsz hA hS hP hK hD hl
  have hRf : R.frames = 1 := by rw [hRe]
  have hRl : R.locals = 24 := by rw [hRe]
  have hRc : R.cells = 0 := by rw [hRe]
  have hRs : R.slots = 0 := by rw [hRe]
  refine lv_aload_n hx hb dX12_copyBook_0 rfl (lv_at hl 0 rfl) ?_
  refine va_get (D := G) (ci := 12) (v := .ref a_6) (C := RX12) (T := TX12) (N := 38) hx hb hts (mm_i inlX12) hown hK.1 hP 0 rfl rfl 16 (by decide) (mm_h hts mm_w148) (fun _ h9 => h9) rfl dX12_copyBook_1 ?_
  refine lv_iconst (v := 1) hx hb dX12_copyBook_4 (by decide) ?_
  refine lv_iload_n hx hb dX12_copyBook_5 rfl (lv_at hl 1 rfl) ?_
  refine lv_iload_n hx hb dX12_copyBook_6 rfl (lv_at hl 2 rfl) ?_
  refine mm_finv (va_runS (As := [.ref a_6, .int 1, .int 0, .int i_0]) (rest := []) ⟨hx, hb, hml, hown, hts⟩ (K292_X12_copyRow l G cy H.size a_6 i_0 h0) (va_cwS 4 hts (mm_gS mm_w557 mm_w558 mm_w5 mm_w559) rfl rfl rfl hs_X12_copyRow ⟨by rw [hRf]; exact Nat.le_of_ble_eq_true rfl, by rw [hRl]; exact Nat.le_of_ble_eq_true rfl⟩) (mm_preS hK hP hD [1] rfl rfl) rfl rfl hl.1 rfl (lv_room (Nat.le_of_ble_eq_true rfl)) dX12_copyBook_7 ⟨by rw [hRc]; exact Nat.le_of_ble_eq_true rfl, by rw [hRs]; exact Nat.le_of_ble_eq_true rfl⟩) hP hD hS hA (fun u : (Nat → Int32) => [(a_0, .inr (12, [.int k_0, .ref a_1, .ref a_2, .ref a_3, .ref a_4, .ref a_5, .int i_1, .int i_2, .int i_3, .int i_4, .int i_5, .long j_0, .int i_6, .int i_7, .int i_8, .int i_9, .ref a_6, .ref a_7, .ref a_8, .ref a_9, .ref a_10, .ref a_11, .ref a_12, .ref a_13, .ref a_14, .ref a_15, .ref a_16, .ref a_17, .ref a_18, .int i_10, .int i_11, .int i_12, .int i_13, .int i_14, .int i_15, .ref a_19, .int i_16, .ref a_20])), (a_6, .inl (cy 1, 5, .inl u)), (a_7, .inl (cy 1, 30, .inl (fun _ => 0))), (a_8, .inl (cy 1, 90, .inl (fun _ => 0))), (a_9, .inl (cy 1, 15, .inl (fun _ => 0))), (a_10, .inl (cy 1, 1050, .inl (fun _ => 0))), (a_11, .inl (cy 1, 30, .inl (fun _ => 0))), (a_12, .inl (cy 1, 240, .inl (fun _ => 0))), (a_13, .inl (cy 1, 450, .inl (fun _ => 0)))]) [1] [0, 2, 3, 4, 5, 6, 7, 8] (n := 9) (fun _ => rfl) (by decide +kernel) (by decide +kernel) rfl (fun _ => rfl) (wr := [(a_0, .inr (12, [.int k_0, .ref a_1, .ref a_2, .ref a_3, .ref a_4, .ref a_5, .int i_1, .int i_2, .int i_3, .int i_4, .int i_5, .long j_0, .int i_6, .int i_7, .int i_8, .int i_9, .ref a_6, .ref a_7, .ref a_8, .ref a_9, .ref a_10, .ref a_11, .ref a_12, .ref a_13, .ref a_14, .ref a_15, .ref a_16, .ref a_17, .ref a_18, .int i_10, .int i_11, .int i_12, .int i_13, .int i_14, .int i_15, .ref a_19, .int i_16, .ref a_20])), (a_7, .inl (cy 1, 30, .inl (fun _ => 0))), (a_8, .inl (cy 1, 90, .inl (fun _ => 0))), (a_9, .inl (cy 1, 15, .inl (fun _ => 0))), (a_10, .inl (cy 1, 1050, .inl (fun _ => 0))), (a_11, .inl (cy 1, 30, .inl (fun _ => 0))), (a_12, .inl (cy 1, 240, .inl (fun _ => 0))), (a_13, .inl (cy 1, 450, .inl (fun _ => 0)))]) rfl (fun _ => rfl) (fun _ => rfl) ?_
  clear hP hD hS
  clear H locs
  intro n1 H locs hw (hP : va_P G vwCl [(a_0, .inr (12, [.int k_0, .ref a_1, .ref a_2, .ref a_3, .ref a_4, .ref a_5, .int i_1, .int i_2, .int i_3, .int i_4, .int i_5, .long j_0, .int i_6, .int i_7, .int i_8, .int i_9, .ref a_6, .ref a_7, .ref a_8, .ref a_9, .ref a_10, .ref a_11, .ref a_12, .ref a_13, .ref a_14, .ref a_15, .ref a_16, .ref a_17, .ref a_18, .int i_10, .int i_11, .int i_12, .int i_13, .int i_14, .int i_15, .ref a_19, .int i_16, .ref a_20])), (a_6, .inl (cy 1, 5, .inl n1)), (a_7, .inl (cy 1, 30, .inl (fun _ => 0))), (a_8, .inl (cy 1, 90, .inl (fun _ => 0))), (a_9, .inl (cy 1, 15, .inl (fun _ => 0))), (a_10, .inl (cy 1, 1050, .inl (fun _ => 0))), (a_11, .inl (cy 1, 30, .inl (fun _ => 0))), (a_12, .inl (cy 1, 240, .inl (fun _ => 0))), (a_13, .inl (cy 1, 450, .inl (fun _ => 0)))] H) (hD : va_D A [(a_0, .inr (12, [.int k_0, .ref a_1, .ref a_2, .ref a_3, .ref a_4, .ref a_5, .int i_1, .int i_2, .int i_3, .int i_4, .int i_5, .long j_0, .int i_6, .int i_7, .int i_8, .int i_9, .ref a_6, .ref a_7, .ref a_8, .ref a_9, .ref a_10, .ref a_11, .ref a_12, .ref a_13, .ref a_14, .ref a_15, .ref a_16, .ref a_17, .ref a_18, .int i_10, .int i_11, .int i_12, .int i_13, .int i_14, .int i_15, .ref a_19, .int i_16, .ref a_20])), (a_6, .inl (cy 1, 5, .inl n1)), (a_7, .inl (cy 1, 30, .inl (fun _ => 0))), (a_8, .inl (cy 1, 90, .inl (fun _ => 0))), (a_9, .inl (cy 1, 15, .inl (fun _ => 0))), (a_10, .inl (cy 1, 1050, .inl (fun _ => 0))), (a_11, .inl (cy 1, 30, .inl (fun _ => 0))), (a_12, .inl (cy 1, 240, .inl (fun _ => 0))), (a_13, .inl (cy 1, 450, .inl (fun _ => 0)))]) hS
  have w2 := hw
  refine lv_aload_n hx hb dX12_copyBook_10 rfl (lv_at hl 0 rfl) ?_
  refine va_get (D := G) (ci := 12) (v := .ref a_7) (C := RX12) (T := TX12) (N := 38) hx hb hts (mm_i inlX12) hown hK.1 hP 0 rfl rfl 17 (by decide) (mm_h hts mm_w149) (fun _ h9 => h9) rfl dX12_copyBook_11 ?_
  refine lv_bipush (v := 6) hx hb dX12_copyBook_14 (by decide) ?_
  refine lv_iload_n hx hb dX12_copyBook_16 rfl (lv_at hl 1 rfl) ?_
  refine lv_iload_n hx hb dX12_copyBook_17 rfl (lv_at hl 2 rfl) ?_
  refine mm_finv (va_runS (As := [.ref a_7, .int 6, .int 0, .int i_0]) (rest := []) ⟨hx, hb, hml, hown, hts⟩ (K293_X12_copyRow l G cy H.size a_7 i_0 h0) (va_cwS 4 hts (mm_gS mm_w557 mm_w558 mm_w5 mm_w559) rfl rfl rfl hs_X12_copyRow ⟨by rw [hRf]; exact Nat.le_of_ble_eq_true rfl, by rw [hRl]; exact Nat.le_of_ble_eq_true rfl⟩) (mm_preS hK hP hD [2] rfl rfl) rfl rfl hl.1 rfl (lv_room (Nat.le_of_ble_eq_true rfl)) dX12_copyBook_18 ⟨by rw [hRc]; exact Nat.le_of_ble_eq_true rfl, by rw [hRs]; exact Nat.le_of_ble_eq_true rfl⟩) hP hD hS hA (fun u : (Nat → Int32) => [(a_0, .inr (12, [.int k_0, .ref a_1, .ref a_2, .ref a_3, .ref a_4, .ref a_5, .int i_1, .int i_2, .int i_3, .int i_4, .int i_5, .long j_0, .int i_6, .int i_7, .int i_8, .int i_9, .ref a_6, .ref a_7, .ref a_8, .ref a_9, .ref a_10, .ref a_11, .ref a_12, .ref a_13, .ref a_14, .ref a_15, .ref a_16, .ref a_17, .ref a_18, .int i_10, .int i_11, .int i_12, .int i_13, .int i_14, .int i_15, .ref a_19, .int i_16, .ref a_20])), (a_6, .inl (cy 1, 5, .inl n1)), (a_7, .inl (cy 1, 30, .inl u)), (a_8, .inl (cy 1, 90, .inl (fun _ => 0))), (a_9, .inl (cy 1, 15, .inl (fun _ => 0))), (a_10, .inl (cy 1, 1050, .inl (fun _ => 0))), (a_11, .inl (cy 1, 30, .inl (fun _ => 0))), (a_12, .inl (cy 1, 240, .inl (fun _ => 0))), (a_13, .inl (cy 1, 450, .inl (fun _ => 0)))]) [2] [0, 1, 3, 4, 5, 6, 7, 8] (n := 9) (fun _ => rfl) (by decide +kernel) (by decide +kernel) rfl (fun _ => rfl) (wr := [(a_0, .inr (12, [.int k_0, .ref a_1, .ref a_2, .ref a_3, .ref a_4, .ref a_5, .int i_1, .int i_2, .int i_3, .int i_4, .int i_5, .long j_0, .int i_6, .int i_7, .int i_8, .int i_9, .ref a_6, .ref a_7, .ref a_8, .ref a_9, .ref a_10, .ref a_11, .ref a_12, .ref a_13, .ref a_14, .ref a_15, .ref a_16, .ref a_17, .ref a_18, .int i_10, .int i_11, .int i_12, .int i_13, .int i_14, .int i_15, .ref a_19, .int i_16, .ref a_20])), (a_6, .inl (cy 1, 5, .inl n1)), (a_8, .inl (cy 1, 90, .inl (fun _ => 0))), (a_9, .inl (cy 1, 15, .inl (fun _ => 0))), (a_10, .inl (cy 1, 1050, .inl (fun _ => 0))), (a_11, .inl (cy 1, 30, .inl (fun _ => 0))), (a_12, .inl (cy 1, 240, .inl (fun _ => 0))), (a_13, .inl (cy 1, 450, .inl (fun _ => 0)))]) rfl (fun _ => rfl) (fun _ => rfl) ?_
  clear hP hD hS
  clear H locs
  intro n3 H locs hw (hP : va_P G vwCl [(a_0, .inr (12, [.int k_0, .ref a_1, .ref a_2, .ref a_3, .ref a_4, .ref a_5, .int i_1, .int i_2, .int i_3, .int i_4, .int i_5, .long j_0, .int i_6, .int i_7, .int i_8, .int i_9, .ref a_6, .ref a_7, .ref a_8, .ref a_9, .ref a_10, .ref a_11, .ref a_12, .ref a_13, .ref a_14, .ref a_15, .ref a_16, .ref a_17, .ref a_18, .int i_10, .int i_11, .int i_12, .int i_13, .int i_14, .int i_15, .ref a_19, .int i_16, .ref a_20])), (a_6, .inl (cy 1, 5, .inl n1)), (a_7, .inl (cy 1, 30, .inl n3)), (a_8, .inl (cy 1, 90, .inl (fun _ => 0))), (a_9, .inl (cy 1, 15, .inl (fun _ => 0))), (a_10, .inl (cy 1, 1050, .inl (fun _ => 0))), (a_11, .inl (cy 1, 30, .inl (fun _ => 0))), (a_12, .inl (cy 1, 240, .inl (fun _ => 0))), (a_13, .inl (cy 1, 450, .inl (fun _ => 0)))] H) (hD : va_D A [(a_0, .inr (12, [.int k_0, .ref a_1, .ref a_2, .ref a_3, .ref a_4, .ref a_5, .int i_1, .int i_2, .int i_3, .int i_4, .int i_5, .long j_0, .int i_6, .int i_7, .int i_8, .int i_9, .ref a_6, .ref a_7, .ref a_8, .ref a_9, .ref a_10, .ref a_11, .ref a_12, .ref a_13, .ref a_14, .ref a_15, .ref a_16, .ref a_17, .ref a_18, .int i_10, .int i_11, .int i_12, .int i_13, .int i_14, .int i_15, .ref a_19, .int i_16, .ref a_20])), (a_6, .inl (cy 1, 5, .inl n1)), (a_7, .inl (cy 1, 30, .inl n3)), (a_8, .inl (cy 1, 90, .inl (fun _ => 0))), (a_9, .inl (cy 1, 15, .inl (fun _ => 0))), (a_10, .inl (cy 1, 1050, .inl (fun _ => 0))), (a_11, .inl (cy 1, 30, .inl (fun _ => 0))), (a_12, .inl (cy 1, 240, .inl (fun _ => 0))), (a_13, .inl (cy 1, 450, .inl (fun _ => 0)))]) hS
  have w4 := hw
  refine lv_aload_n hx hb dX12_copyBook_21 rfl (lv_at hl 0 rfl) ?_
  refine va_get (D := G) (ci := 12) (v := .ref a_8) (C := RX12) (T := TX12) (N := 38) hx hb hts (mm_i inlX12) hown hK.1 hP 0 rfl rfl 18 (by decide) (mm_h hts mm_w150) (fun _ h9 => h9) rfl dX12_copyBook_22 ?_
  refine lv_bipush (v := 18) hx hb dX12_copyBook_25 (by decide) ?_
  refine lv_iload_n hx hb dX12_copyBook_27 rfl (lv_at hl 1 rfl) ?_
  refine lv_iload_n hx hb dX12_copyBook_28 rfl (lv_at hl 2 rfl) ?_
  refine mm_finv (va_runS (As := [.ref a_8, .int 18, .int 0, .int i_0]) (rest := []) ⟨hx, hb, hml, hown, hts⟩ (K294_X12_copyRow l G cy H.size a_8 i_0 h0) (va_cwS 4 hts (mm_gS mm_w557 mm_w558 mm_w5 mm_w559) rfl rfl rfl hs_X12_copyRow ⟨by rw [hRf]; exact Nat.le_of_ble_eq_true rfl, by rw [hRl]; exact Nat.le_of_ble_eq_true rfl⟩) (mm_preS hK hP hD [3] rfl rfl) rfl rfl hl.1 rfl (lv_room (Nat.le_of_ble_eq_true rfl)) dX12_copyBook_29 ⟨by rw [hRc]; exact Nat.le_of_ble_eq_true rfl, by rw [hRs]; exact Nat.le_of_ble_eq_true rfl⟩) hP hD hS hA (fun u : (Nat → Int32) => [(a_0, .inr (12, [.int k_0, .ref a_1, .ref a_2, .ref a_3, .ref a_4, .ref a_5, .int i_1, .int i_2, .int i_3, .int i_4, .int i_5, .long j_0, .int i_6, .int i_7, .int i_8, .int i_9, .ref a_6, .ref a_7, .ref a_8, .ref a_9, .ref a_10, .ref a_11, .ref a_12, .ref a_13, .ref a_14, .ref a_15, .ref a_16, .ref a_17, .ref a_18, .int i_10, .int i_11, .int i_12, .int i_13, .int i_14, .int i_15, .ref a_19, .int i_16, .ref a_20])), (a_6, .inl (cy 1, 5, .inl n1)), (a_7, .inl (cy 1, 30, .inl n3)), (a_8, .inl (cy 1, 90, .inl u)), (a_9, .inl (cy 1, 15, .inl (fun _ => 0))), (a_10, .inl (cy 1, 1050, .inl (fun _ => 0))), (a_11, .inl (cy 1, 30, .inl (fun _ => 0))), (a_12, .inl (cy 1, 240, .inl (fun _ => 0))), (a_13, .inl (cy 1, 450, .inl (fun _ => 0)))]) [3] [0, 1, 2, 4, 5, 6, 7, 8] (n := 9) (fun _ => rfl) (by decide +kernel) (by decide +kernel) rfl (fun _ => rfl) (wr := [(a_0, .inr (12, [.int k_0, .ref a_1, .ref a_2, .ref a_3, .ref a_4, .ref a_5, .int i_1, .int i_2, .int i_3, .int i_4, .int i_5, .long j_0, .int i_6, .int i_7, .int i_8, .int i_9, .ref a_6, .ref a_7, .ref a_8, .ref a_9, .ref a_10, .ref a_11, .ref a_12, .ref a_13, .ref a_14, .ref a_15, .ref a_16, .ref a_17, .ref a_18, .int i_10, .int i_11, .int i_12, .int i_13, .int i_14, .int i_15, .ref a_19, .int i_16, .ref a_20])), (a_6, .inl (cy 1, 5, .inl n1)), (a_7, .inl (cy 1, 30, .inl n3)), (a_9, .inl (cy 1, 15, .inl (fun _ => 0))), (a_10, .inl (cy 1, 1050, .inl (fun _ => 0))), (a_11, .inl (cy 1, 30, .inl (fun _ => 0))), (a_12, .inl (cy 1, 240, .inl (fun _ => 0))), (a_13, .inl (cy 1, 450, .inl (fun _ => 0)))]) rfl (fun _ => rfl) (fun _ => rfl) ?_
  clear hP hD hS
  clear H locs
  intro n5 H locs hw (hP : va_P G vwCl [(a_0, .inr (12, [.int k_0, .ref a_1, .ref a_2, .ref a_3, .ref a_4, .ref a_5, .int i_1, .int i_2, .int i_3, .int i_4, .int i_5, .long j_0, .int i_6, .int i_7, .int i_8, .int i_9, .ref a_6, .ref a_7, .ref a_8, .ref a_9, .ref a_10, .ref a_11, .ref a_12, .ref a_13, .ref a_14, .ref a_15, .ref a_16, .ref a_17, .ref a_18, .int i_10, .int i_11, .int i_12, .int i_13, .int i_14, .int i_15, .ref a_19, .int i_16, .ref a_20])), (a_6, .inl (cy 1, 5, .inl n1)), (a_7, .inl (cy 1, 30, .inl n3)), (a_8, .inl (cy 1, 90, .inl n5)), (a_9, .inl (cy 1, 15, .inl (fun _ => 0))), (a_10, .inl (cy 1, 1050, .inl (fun _ => 0))), (a_11, .inl (cy 1, 30, .inl (fun _ => 0))), (a_12, .inl (cy 1, 240, .inl (fun _ => 0))), (a_13, .inl (cy 1, 450, .inl (fun _ => 0)))] H) (hD : va_D A [(a_0, .inr (12, [.int k_0, .ref a_1, .ref a_2, .ref a_3, .ref a_4, .ref a_5, .int i_1, .int i_2, .int i_3, .int i_4, .int i_5, .long j_0, .int i_6, .int i_7, .int i_8, .int i_9, .ref a_6, .ref a_7, .ref a_8, .ref a_9, .ref a_10, .ref a_11, .ref a_12, .ref a_13, .ref a_14, .ref a_15, .ref a_16, .ref a_17, .ref a_18, .int i_10, .int i_11, .int i_12, .int i_13, .int i_14, .int i_15, .ref a_19, .int i_16, .ref a_20])), (a_6, .inl (cy 1, 5, .inl n1)), (a_7, .inl (cy 1, 30, .inl n3)), (a_8, .inl (cy 1, 90, .inl n5)), (a_9, .inl (cy 1, 15, .inl (fun _ => 0))), (a_10, .inl (cy 1, 1050, .inl (fun _ => 0))), (a_11, .inl (cy 1, 30, .inl (fun _ => 0))), (a_12, .inl (cy 1, 240, .inl (fun _ => 0))), (a_13, .inl (cy 1, 450, .inl (fun _ => 0)))]) hS
  have w6 := hw
  refine lv_aload_n hx hb dX12_copyBook_32 rfl (lv_at hl 0 rfl) ?_
  refine va_get (D := G) (ci := 12) (v := .ref a_9) (C := RX12) (T := TX12) (N := 38) hx hb hts (mm_i inlX12) hown hK.1 hP 0 rfl rfl 19 (by decide) (mm_h hts mm_w151) (fun _ h9 => h9) rfl dX12_copyBook_33 ?_
  refine lv_iconst (v := 3) hx hb dX12_copyBook_36 (by decide) ?_
  refine lv_iload_n hx hb dX12_copyBook_37 rfl (lv_at hl 1 rfl) ?_
  refine lv_iload_n hx hb dX12_copyBook_38 rfl (lv_at hl 2 rfl) ?_
  refine mm_finv (va_runS (As := [.ref a_9, .int 3, .int 0, .int i_0]) (rest := []) ⟨hx, hb, hml, hown, hts⟩ (K295_X12_copyRow l G cy H.size a_9 i_0 h0) (va_cwS 4 hts (mm_gS mm_w557 mm_w558 mm_w5 mm_w559) rfl rfl rfl hs_X12_copyRow ⟨by rw [hRf]; exact Nat.le_of_ble_eq_true rfl, by rw [hRl]; exact Nat.le_of_ble_eq_true rfl⟩) (mm_preS hK hP hD [4] rfl rfl) rfl rfl hl.1 rfl (lv_room (Nat.le_of_ble_eq_true rfl)) dX12_copyBook_39 ⟨by rw [hRc]; exact Nat.le_of_ble_eq_true rfl, by rw [hRs]; exact Nat.le_of_ble_eq_true rfl⟩) hP hD hS hA (fun u : (Nat → Int32) => [(a_0, .inr (12, [.int k_0, .ref a_1, .ref a_2, .ref a_3, .ref a_4, .ref a_5, .int i_1, .int i_2, .int i_3, .int i_4, .int i_5, .long j_0, .int i_6, .int i_7, .int i_8, .int i_9, .ref a_6, .ref a_7, .ref a_8, .ref a_9, .ref a_10, .ref a_11, .ref a_12, .ref a_13, .ref a_14, .ref a_15, .ref a_16, .ref a_17, .ref a_18, .int i_10, .int i_11, .int i_12, .int i_13, .int i_14, .int i_15, .ref a_19, .int i_16, .ref a_20])), (a_6, .inl (cy 1, 5, .inl n1)), (a_7, .inl (cy 1, 30, .inl n3)), (a_8, .inl (cy 1, 90, .inl n5)), (a_9, .inl (cy 1, 15, .inl u)), (a_10, .inl (cy 1, 1050, .inl (fun _ => 0))), (a_11, .inl (cy 1, 30, .inl (fun _ => 0))), (a_12, .inl (cy 1, 240, .inl (fun _ => 0))), (a_13, .inl (cy 1, 450, .inl (fun _ => 0)))]) [4] [0, 1, 2, 3, 5, 6, 7, 8] (n := 9) (fun _ => rfl) (by decide +kernel) (by decide +kernel) rfl (fun _ => rfl) (wr := [(a_0, .inr (12, [.int k_0, .ref a_1, .ref a_2, .ref a_3, .ref a_4, .ref a_5, .int i_1, .int i_2, .int i_3, .int i_4, .int i_5, .long j_0, .int i_6, .int i_7, .int i_8, .int i_9, .ref a_6, .ref a_7, .ref a_8, .ref a_9, .ref a_10, .ref a_11, .ref a_12, .ref a_13, .ref a_14, .ref a_15, .ref a_16, .ref a_17, .ref a_18, .int i_10, .int i_11, .int i_12, .int i_13, .int i_14, .int i_15, .ref a_19, .int i_16, .ref a_20])), (a_6, .inl (cy 1, 5, .inl n1)), (a_7, .inl (cy 1, 30, .inl n3)), (a_8, .inl (cy 1, 90, .inl n5)), (a_10, .inl (cy 1, 1050, .inl (fun _ => 0))), (a_11, .inl (cy 1, 30, .inl (fun _ => 0))), (a_12, .inl (cy 1, 240, .inl (fun _ => 0))), (a_13, .inl (cy 1, 450, .inl (fun _ => 0)))]) rfl (fun _ => rfl) (fun _ => rfl) ?_
  clear hP hD hS
  clear H locs
  intro n7 H locs hw (hP : va_P G vwCl [(a_0, .inr (12, [.int k_0, .ref a_1, .ref a_2, .ref a_3, .ref a_4, .ref a_5, .int i_1, .int i_2, .int i_3, .int i_4, .int i_5, .long j_0, .int i_6, .int i_7, .int i_8, .int i_9, .ref a_6, .ref a_7, .ref a_8, .ref a_9, .ref a_10, .ref a_11, .ref a_12, .ref a_13, .ref a_14, .ref a_15, .ref a_16, .ref a_17, .ref a_18, .int i_10, .int i_11, .int i_12, .int i_13, .int i_14, .int i_15, .ref a_19, .int i_16, .ref a_20])), (a_6, .inl (cy 1, 5, .inl n1)), (a_7, .inl (cy 1, 30, .inl n3)), (a_8, .inl (cy 1, 90, .inl n5)), (a_9, .inl (cy 1, 15, .inl n7)), (a_10, .inl (cy 1, 1050, .inl (fun _ => 0))), (a_11, .inl (cy 1, 30, .inl (fun _ => 0))), (a_12, .inl (cy 1, 240, .inl (fun _ => 0))), (a_13, .inl (cy 1, 450, .inl (fun _ => 0)))] H) (hD : va_D A [(a_0, .inr (12, [.int k_0, .ref a_1, .ref a_2, .ref a_3, .ref a_4, .ref a_5, .int i_1, .int i_2, .int i_3, .int i_4, .int i_5, .long j_0, .int i_6, .int i_7, .int i_8, .int i_9, .ref a_6, .ref a_7, .ref a_8, .ref a_9, .ref a_10, .ref a_11, .ref a_12, .ref a_13, .ref a_14, .ref a_15, .ref a_16, .ref a_17, .ref a_18, .int i_10, .int i_11, .int i_12, .int i_13, .int i_14, .int i_15, .ref a_19, .int i_16, .ref a_20])), (a_6, .inl (cy 1, 5, .inl n1)), (a_7, .inl (cy 1, 30, .inl n3)), (a_8, .inl (cy 1, 90, .inl n5)), (a_9, .inl (cy 1, 15, .inl n7)), (a_10, .inl (cy 1, 1050, .inl (fun _ => 0))), (a_11, .inl (cy 1, 30, .inl (fun _ => 0))), (a_12, .inl (cy 1, 240, .inl (fun _ => 0))), (a_13, .inl (cy 1, 450, .inl (fun _ => 0)))]) hS
  have w8 := hw
  refine lv_aload_n hx hb dX12_copyBook_42 rfl (lv_at hl 0 rfl) ?_
  refine va_get (D := G) (ci := 12) (v := .ref a_10) (C := RX12) (T := TX12) (N := 38) hx hb hts (mm_i inlX12) hown hK.1 hP 0 rfl rfl 20 (by decide) (mm_h hts mm_w152) (fun _ h9 => h9) rfl dX12_copyBook_43 ?_
  refine lv_sipush (v := 210) hx hb dX12_copyBook_46 (by decide) ?_
  refine lv_iload_n hx hb dX12_copyBook_49 rfl (lv_at hl 1 rfl) ?_
  refine lv_iload_n hx hb dX12_copyBook_50 rfl (lv_at hl 2 rfl) ?_
  refine mm_finv (va_runS (As := [.ref a_10, .int 210, .int 0, .int i_0]) (rest := []) ⟨hx, hb, hml, hown, hts⟩ (K296_X12_copyRow l G cy H.size a_10 i_0 h0) (va_cwS 4 hts (mm_gS mm_w557 mm_w558 mm_w5 mm_w559) rfl rfl rfl hs_X12_copyRow ⟨by rw [hRf]; exact Nat.le_of_ble_eq_true rfl, by rw [hRl]; exact Nat.le_of_ble_eq_true rfl⟩) (mm_preS hK hP hD [5] rfl rfl) rfl rfl hl.1 rfl (lv_room (Nat.le_of_ble_eq_true rfl)) dX12_copyBook_51 ⟨by rw [hRc]; exact Nat.le_of_ble_eq_true rfl, by rw [hRs]; exact Nat.le_of_ble_eq_true rfl⟩) hP hD hS hA (fun u : (Nat → Int32) => [(a_0, .inr (12, [.int k_0, .ref a_1, .ref a_2, .ref a_3, .ref a_4, .ref a_5, .int i_1, .int i_2, .int i_3, .int i_4, .int i_5, .long j_0, .int i_6, .int i_7, .int i_8, .int i_9, .ref a_6, .ref a_7, .ref a_8, .ref a_9, .ref a_10, .ref a_11, .ref a_12, .ref a_13, .ref a_14, .ref a_15, .ref a_16, .ref a_17, .ref a_18, .int i_10, .int i_11, .int i_12, .int i_13, .int i_14, .int i_15, .ref a_19, .int i_16, .ref a_20])), (a_6, .inl (cy 1, 5, .inl n1)), (a_7, .inl (cy 1, 30, .inl n3)), (a_8, .inl (cy 1, 90, .inl n5)), (a_9, .inl (cy 1, 15, .inl n7)), (a_10, .inl (cy 1, 1050, .inl u)), (a_11, .inl (cy 1, 30, .inl (fun _ => 0))), (a_12, .inl (cy 1, 240, .inl (fun _ => 0))), (a_13, .inl (cy 1, 450, .inl (fun _ => 0)))]) [5] [0, 1, 2, 3, 4, 6, 7, 8] (n := 9) (fun _ => rfl) (by decide +kernel) (by decide +kernel) rfl (fun _ => rfl) (wr := [(a_0, .inr (12, [.int k_0, .ref a_1, .ref a_2, .ref a_3, .ref a_4, .ref a_5, .int i_1, .int i_2, .int i_3, .int i_4, .int i_5, .long j_0, .int i_6, .int i_7, .int i_8, .int i_9, .ref a_6, .ref a_7, .ref a_8, .ref a_9, .ref a_10, .ref a_11, .ref a_12, .ref a_13, .ref a_14, .ref a_15, .ref a_16, .ref a_17, .ref a_18, .int i_10, .int i_11, .int i_12, .int i_13, .int i_14, .int i_15, .ref a_19, .int i_16, .ref a_20])), (a_6, .inl (cy 1, 5, .inl n1)), (a_7, .inl (cy 1, 30, .inl n3)), (a_8, .inl (cy 1, 90, .inl n5)), (a_9, .inl (cy 1, 15, .inl n7)), (a_11, .inl (cy 1, 30, .inl (fun _ => 0))), (a_12, .inl (cy 1, 240, .inl (fun _ => 0))), (a_13, .inl (cy 1, 450, .inl (fun _ => 0)))]) rfl (fun _ => rfl) (fun _ => rfl) ?_
  clear hP hD hS
  clear H locs
  intro n9 H locs hw (hP : va_P G vwCl [(a_0, .inr (12, [.int k_0, .ref a_1, .ref a_2, .ref a_3, .ref a_4, .ref a_5, .int i_1, .int i_2, .int i_3, .int i_4, .int i_5, .long j_0, .int i_6, .int i_7, .int i_8, .int i_9, .ref a_6, .ref a_7, .ref a_8, .ref a_9, .ref a_10, .ref a_11, .ref a_12, .ref a_13, .ref a_14, .ref a_15, .ref a_16, .ref a_17, .ref a_18, .int i_10, .int i_11, .int i_12, .int i_13, .int i_14, .int i_15, .ref a_19, .int i_16, .ref a_20])), (a_6, .inl (cy 1, 5, .inl n1)), (a_7, .inl (cy 1, 30, .inl n3)), (a_8, .inl (cy 1, 90, .inl n5)), (a_9, .inl (cy 1, 15, .inl n7)), (a_10, .inl (cy 1, 1050, .inl n9)), (a_11, .inl (cy 1, 30, .inl (fun _ => 0))), (a_12, .inl (cy 1, 240, .inl (fun _ => 0))), (a_13, .inl (cy 1, 450, .inl (fun _ => 0)))] H) (hD : va_D A [(a_0, .inr (12, [.int k_0, .ref a_1, .ref a_2, .ref a_3, .ref a_4, .ref a_5, .int i_1, .int i_2, .int i_3, .int i_4, .int i_5, .long j_0, .int i_6, .int i_7, .int i_8, .int i_9, .ref a_6, .ref a_7, .ref a_8, .ref a_9, .ref a_10, .ref a_11, .ref a_12, .ref a_13, .ref a_14, .ref a_15, .ref a_16, .ref a_17, .ref a_18, .int i_10, .int i_11, .int i_12, .int i_13, .int i_14, .int i_15, .ref a_19, .int i_16, .ref a_20])), (a_6, .inl (cy 1, 5, .inl n1)), (a_7, .inl (cy 1, 30, .inl n3)), (a_8, .inl (cy 1, 90, .inl n5)), (a_9, .inl (cy 1, 15, .inl n7)), (a_10, .inl (cy 1, 1050, .inl n9)), (a_11, .inl (cy 1, 30, .inl (fun _ => 0))), (a_12, .inl (cy 1, 240, .inl (fun _ => 0))), (a_13, .inl (cy 1, 450, .inl (fun _ => 0)))]) hS
  have w10 := hw
  refine lv_aload_n hx hb dX12_copyBook_54 rfl (lv_at hl 0 rfl) ?_
  refine va_get (D := G) (ci := 12) (v := .ref a_11) (C := RX12) (T := TX12) (N := 38) hx hb hts (mm_i inlX12) hown hK.1 hP 0 rfl rfl 21 (by decide) (mm_h hts mm_w153) (fun _ h9 => h9) rfl dX12_copyBook_55 ?_
  refine lv_bipush (v := 6) hx hb dX12_copyBook_58 (by decide) ?_
  refine lv_iload_n hx hb dX12_copyBook_60 rfl (lv_at hl 1 rfl) ?_
  refine lv_iload_n hx hb dX12_copyBook_61 rfl (lv_at hl 2 rfl) ?_
  refine mm_finv (va_runS (As := [.ref a_11, .int 6, .int 0, .int i_0]) (rest := []) ⟨hx, hb, hml, hown, hts⟩ (K293_X12_copyRow l G cy H.size a_11 i_0 h0) (va_cwS 4 hts (mm_gS mm_w557 mm_w558 mm_w5 mm_w559) rfl rfl rfl hs_X12_copyRow ⟨by rw [hRf]; exact Nat.le_of_ble_eq_true rfl, by rw [hRl]; exact Nat.le_of_ble_eq_true rfl⟩) (mm_preS hK hP hD [6] rfl rfl) rfl rfl hl.1 rfl (lv_room (Nat.le_of_ble_eq_true rfl)) dX12_copyBook_62 ⟨by rw [hRc]; exact Nat.le_of_ble_eq_true rfl, by rw [hRs]; exact Nat.le_of_ble_eq_true rfl⟩) hP hD hS hA (fun u : (Nat → Int32) => [(a_0, .inr (12, [.int k_0, .ref a_1, .ref a_2, .ref a_3, .ref a_4, .ref a_5, .int i_1, .int i_2, .int i_3, .int i_4, .int i_5, .long j_0, .int i_6, .int i_7, .int i_8, .int i_9, .ref a_6, .ref a_7, .ref a_8, .ref a_9, .ref a_10, .ref a_11, .ref a_12, .ref a_13, .ref a_14, .ref a_15, .ref a_16, .ref a_17, .ref a_18, .int i_10, .int i_11, .int i_12, .int i_13, .int i_14, .int i_15, .ref a_19, .int i_16, .ref a_20])), (a_6, .inl (cy 1, 5, .inl n1)), (a_7, .inl (cy 1, 30, .inl n3)), (a_8, .inl (cy 1, 90, .inl n5)), (a_9, .inl (cy 1, 15, .inl n7)), (a_10, .inl (cy 1, 1050, .inl n9)), (a_11, .inl (cy 1, 30, .inl u)), (a_12, .inl (cy 1, 240, .inl (fun _ => 0))), (a_13, .inl (cy 1, 450, .inl (fun _ => 0)))]) [6] [0, 1, 2, 3, 4, 5, 7, 8] (n := 9) (fun _ => rfl) (by decide +kernel) (by decide +kernel) rfl (fun _ => rfl) (wr := [(a_0, .inr (12, [.int k_0, .ref a_1, .ref a_2, .ref a_3, .ref a_4, .ref a_5, .int i_1, .int i_2, .int i_3, .int i_4, .int i_5, .long j_0, .int i_6, .int i_7, .int i_8, .int i_9, .ref a_6, .ref a_7, .ref a_8, .ref a_9, .ref a_10, .ref a_11, .ref a_12, .ref a_13, .ref a_14, .ref a_15, .ref a_16, .ref a_17, .ref a_18, .int i_10, .int i_11, .int i_12, .int i_13, .int i_14, .int i_15, .ref a_19, .int i_16, .ref a_20])), (a_6, .inl (cy 1, 5, .inl n1)), (a_7, .inl (cy 1, 30, .inl n3)), (a_8, .inl (cy 1, 90, .inl n5)), (a_9, .inl (cy 1, 15, .inl n7)), (a_10, .inl (cy 1, 1050, .inl n9)), (a_12, .inl (cy 1, 240, .inl (fun _ => 0))), (a_13, .inl (cy 1, 450, .inl (fun _ => 0)))]) rfl (fun _ => rfl) (fun _ => rfl) ?_
  clear hP hD hS
  clear H locs
  intro n11 H locs hw (hP : va_P G vwCl [(a_0, .inr (12, [.int k_0, .ref a_1, .ref a_2, .ref a_3, .ref a_4, .ref a_5, .int i_1, .int i_2, .int i_3, .int i_4, .int i_5, .long j_0, .int i_6, .int i_7, .int i_8, .int i_9, .ref a_6, .ref a_7, .ref a_8, .ref a_9, .ref a_10, .ref a_11, .ref a_12, .ref a_13, .ref a_14, .ref a_15, .ref a_16, .ref a_17, .ref a_18, .int i_10, .int i_11, .int i_12, .int i_13, .int i_14, .int i_15, .ref a_19, .int i_16, .ref a_20])), (a_6, .inl (cy 1, 5, .inl n1)), (a_7, .inl (cy 1, 30, .inl n3)), (a_8, .inl (cy 1, 90, .inl n5)), (a_9, .inl (cy 1, 15, .inl n7)), (a_10, .inl (cy 1, 1050, .inl n9)), (a_11, .inl (cy 1, 30, .inl n11)), (a_12, .inl (cy 1, 240, .inl (fun _ => 0))), (a_13, .inl (cy 1, 450, .inl (fun _ => 0)))] H) (hD : va_D A [(a_0, .inr (12, [.int k_0, .ref a_1, .ref a_2, .ref a_3, .ref a_4, .ref a_5, .int i_1, .int i_2, .int i_3, .int i_4, .int i_5, .long j_0, .int i_6, .int i_7, .int i_8, .int i_9, .ref a_6, .ref a_7, .ref a_8, .ref a_9, .ref a_10, .ref a_11, .ref a_12, .ref a_13, .ref a_14, .ref a_15, .ref a_16, .ref a_17, .ref a_18, .int i_10, .int i_11, .int i_12, .int i_13, .int i_14, .int i_15, .ref a_19, .int i_16, .ref a_20])), (a_6, .inl (cy 1, 5, .inl n1)), (a_7, .inl (cy 1, 30, .inl n3)), (a_8, .inl (cy 1, 90, .inl n5)), (a_9, .inl (cy 1, 15, .inl n7)), (a_10, .inl (cy 1, 1050, .inl n9)), (a_11, .inl (cy 1, 30, .inl n11)), (a_12, .inl (cy 1, 240, .inl (fun _ => 0))), (a_13, .inl (cy 1, 450, .inl (fun _ => 0)))]) hS
  have w12 := hw
  refine lv_aload_n hx hb dX12_copyBook_65 rfl (lv_at hl 0 rfl) ?_
  refine va_get (D := G) (ci := 12) (v := .ref a_12) (C := RX12) (T := TX12) (N := 38) hx hb hts (mm_i inlX12) hown hK.1 hP 0 rfl rfl 22 (by decide) (mm_h hts mm_w154) (fun _ h9 => h9) rfl dX12_copyBook_66 ?_
  refine lv_bipush (v := 48) hx hb dX12_copyBook_69 (by decide) ?_
  refine lv_iload_n hx hb dX12_copyBook_71 rfl (lv_at hl 1 rfl) ?_
  refine lv_iload_n hx hb dX12_copyBook_72 rfl (lv_at hl 2 rfl) ?_
  refine mm_finv (va_runS (As := [.ref a_12, .int 48, .int 0, .int i_0]) (rest := []) ⟨hx, hb, hml, hown, hts⟩ (K297_X12_copyRow l G cy H.size a_12 i_0 h0) (va_cwS 4 hts (mm_gS mm_w557 mm_w558 mm_w5 mm_w559) rfl rfl rfl hs_X12_copyRow ⟨by rw [hRf]; exact Nat.le_of_ble_eq_true rfl, by rw [hRl]; exact Nat.le_of_ble_eq_true rfl⟩) (mm_preS hK hP hD [7] rfl rfl) rfl rfl hl.1 rfl (lv_room (Nat.le_of_ble_eq_true rfl)) dX12_copyBook_73 ⟨by rw [hRc]; exact Nat.le_of_ble_eq_true rfl, by rw [hRs]; exact Nat.le_of_ble_eq_true rfl⟩) hP hD hS hA (fun u : (Nat → Int32) => [(a_0, .inr (12, [.int k_0, .ref a_1, .ref a_2, .ref a_3, .ref a_4, .ref a_5, .int i_1, .int i_2, .int i_3, .int i_4, .int i_5, .long j_0, .int i_6, .int i_7, .int i_8, .int i_9, .ref a_6, .ref a_7, .ref a_8, .ref a_9, .ref a_10, .ref a_11, .ref a_12, .ref a_13, .ref a_14, .ref a_15, .ref a_16, .ref a_17, .ref a_18, .int i_10, .int i_11, .int i_12, .int i_13, .int i_14, .int i_15, .ref a_19, .int i_16, .ref a_20])), (a_6, .inl (cy 1, 5, .inl n1)), (a_7, .inl (cy 1, 30, .inl n3)), (a_8, .inl (cy 1, 90, .inl n5)), (a_9, .inl (cy 1, 15, .inl n7)), (a_10, .inl (cy 1, 1050, .inl n9)), (a_11, .inl (cy 1, 30, .inl n11)), (a_12, .inl (cy 1, 240, .inl u)), (a_13, .inl (cy 1, 450, .inl (fun _ => 0)))]) [7] [0, 1, 2, 3, 4, 5, 6, 8] (n := 9) (fun _ => rfl) (by decide +kernel) (by decide +kernel) rfl (fun _ => rfl) (wr := [(a_0, .inr (12, [.int k_0, .ref a_1, .ref a_2, .ref a_3, .ref a_4, .ref a_5, .int i_1, .int i_2, .int i_3, .int i_4, .int i_5, .long j_0, .int i_6, .int i_7, .int i_8, .int i_9, .ref a_6, .ref a_7, .ref a_8, .ref a_9, .ref a_10, .ref a_11, .ref a_12, .ref a_13, .ref a_14, .ref a_15, .ref a_16, .ref a_17, .ref a_18, .int i_10, .int i_11, .int i_12, .int i_13, .int i_14, .int i_15, .ref a_19, .int i_16, .ref a_20])), (a_6, .inl (cy 1, 5, .inl n1)), (a_7, .inl (cy 1, 30, .inl n3)), (a_8, .inl (cy 1, 90, .inl n5)), (a_9, .inl (cy 1, 15, .inl n7)), (a_10, .inl (cy 1, 1050, .inl n9)), (a_11, .inl (cy 1, 30, .inl n11)), (a_13, .inl (cy 1, 450, .inl (fun _ => 0)))]) rfl (fun _ => rfl) (fun _ => rfl) ?_
  clear hP hD hS
  clear H locs
  intro n13 H locs hw (hP : va_P G vwCl [(a_0, .inr (12, [.int k_0, .ref a_1, .ref a_2, .ref a_3, .ref a_4, .ref a_5, .int i_1, .int i_2, .int i_3, .int i_4, .int i_5, .long j_0, .int i_6, .int i_7, .int i_8, .int i_9, .ref a_6, .ref a_7, .ref a_8, .ref a_9, .ref a_10, .ref a_11, .ref a_12, .ref a_13, .ref a_14, .ref a_15, .ref a_16, .ref a_17, .ref a_18, .int i_10, .int i_11, .int i_12, .int i_13, .int i_14, .int i_15, .ref a_19, .int i_16, .ref a_20])), (a_6, .inl (cy 1, 5, .inl n1)), (a_7, .inl (cy 1, 30, .inl n3)), (a_8, .inl (cy 1, 90, .inl n5)), (a_9, .inl (cy 1, 15, .inl n7)), (a_10, .inl (cy 1, 1050, .inl n9)), (a_11, .inl (cy 1, 30, .inl n11)), (a_12, .inl (cy 1, 240, .inl n13)), (a_13, .inl (cy 1, 450, .inl (fun _ => 0)))] H) (hD : va_D A [(a_0, .inr (12, [.int k_0, .ref a_1, .ref a_2, .ref a_3, .ref a_4, .ref a_5, .int i_1, .int i_2, .int i_3, .int i_4, .int i_5, .long j_0, .int i_6, .int i_7, .int i_8, .int i_9, .ref a_6, .ref a_7, .ref a_8, .ref a_9, .ref a_10, .ref a_11, .ref a_12, .ref a_13, .ref a_14, .ref a_15, .ref a_16, .ref a_17, .ref a_18, .int i_10, .int i_11, .int i_12, .int i_13, .int i_14, .int i_15, .ref a_19, .int i_16, .ref a_20])), (a_6, .inl (cy 1, 5, .inl n1)), (a_7, .inl (cy 1, 30, .inl n3)), (a_8, .inl (cy 1, 90, .inl n5)), (a_9, .inl (cy 1, 15, .inl n7)), (a_10, .inl (cy 1, 1050, .inl n9)), (a_11, .inl (cy 1, 30, .inl n11)), (a_12, .inl (cy 1, 240, .inl n13)), (a_13, .inl (cy 1, 450, .inl (fun _ => 0)))]) hS
  have w14 := hw
  refine lv_aload_n hx hb dX12_copyBook_76 rfl (lv_at hl 0 rfl) ?_
  refine va_get (D := G) (ci := 12) (v := .ref a_13) (C := RX12) (T := TX12) (N := 38) hx hb hts (mm_i inlX12) hown hK.1 hP 0 rfl rfl 23 (by decide) (mm_h hts mm_w155) (fun _ h9 => h9) rfl dX12_copyBook_77 ?_
  refine lv_bipush (v := 90) hx hb dX12_copyBook_80 (by decide) ?_
  refine lv_iload_n hx hb dX12_copyBook_82 rfl (lv_at hl 1 rfl) ?_
  refine lv_iload_n hx hb dX12_copyBook_83 rfl (lv_at hl 2 rfl) ?_
  refine mm_finv (va_runS (As := [.ref a_13, .int 90, .int 0, .int i_0]) (rest := []) ⟨hx, hb, hml, hown, hts⟩ (K298_X12_copyRow l G cy H.size a_13 i_0 h0) (va_cwS 4 hts (mm_gS mm_w557 mm_w558 mm_w5 mm_w559) rfl rfl rfl hs_X12_copyRow ⟨by rw [hRf]; exact Nat.le_of_ble_eq_true rfl, by rw [hRl]; exact Nat.le_of_ble_eq_true rfl⟩) (mm_preS hK hP hD [8] rfl rfl) rfl rfl hl.1 rfl (lv_room (Nat.le_of_ble_eq_true rfl)) dX12_copyBook_84 ⟨by rw [hRc]; exact Nat.le_of_ble_eq_true rfl, by rw [hRs]; exact Nat.le_of_ble_eq_true rfl⟩) hP hD hS hA (fun u : (Nat → Int32) => [(a_0, .inr (12, [.int k_0, .ref a_1, .ref a_2, .ref a_3, .ref a_4, .ref a_5, .int i_1, .int i_2, .int i_3, .int i_4, .int i_5, .long j_0, .int i_6, .int i_7, .int i_8, .int i_9, .ref a_6, .ref a_7, .ref a_8, .ref a_9, .ref a_10, .ref a_11, .ref a_12, .ref a_13, .ref a_14, .ref a_15, .ref a_16, .ref a_17, .ref a_18, .int i_10, .int i_11, .int i_12, .int i_13, .int i_14, .int i_15, .ref a_19, .int i_16, .ref a_20])), (a_6, .inl (cy 1, 5, .inl n1)), (a_7, .inl (cy 1, 30, .inl n3)), (a_8, .inl (cy 1, 90, .inl n5)), (a_9, .inl (cy 1, 15, .inl n7)), (a_10, .inl (cy 1, 1050, .inl n9)), (a_11, .inl (cy 1, 30, .inl n11)), (a_12, .inl (cy 1, 240, .inl n13)), (a_13, .inl (cy 1, 450, .inl u))]) [8] [0, 1, 2, 3, 4, 5, 6, 7] (n := 9) (fun _ => rfl) (by decide +kernel) (by decide +kernel) rfl (fun _ => rfl) (wr := [(a_0, .inr (12, [.int k_0, .ref a_1, .ref a_2, .ref a_3, .ref a_4, .ref a_5, .int i_1, .int i_2, .int i_3, .int i_4, .int i_5, .long j_0, .int i_6, .int i_7, .int i_8, .int i_9, .ref a_6, .ref a_7, .ref a_8, .ref a_9, .ref a_10, .ref a_11, .ref a_12, .ref a_13, .ref a_14, .ref a_15, .ref a_16, .ref a_17, .ref a_18, .int i_10, .int i_11, .int i_12, .int i_13, .int i_14, .int i_15, .ref a_19, .int i_16, .ref a_20])), (a_6, .inl (cy 1, 5, .inl n1)), (a_7, .inl (cy 1, 30, .inl n3)), (a_8, .inl (cy 1, 90, .inl n5)), (a_9, .inl (cy 1, 15, .inl n7)), (a_10, .inl (cy 1, 1050, .inl n9)), (a_11, .inl (cy 1, 30, .inl n11)), (a_12, .inl (cy 1, 240, .inl n13))]) rfl (fun _ => rfl) (fun _ => rfl) ?_
  clear hP hD hS
  clear H locs
  intro n15 H locs hw (hP : va_P G vwCl [(a_0, .inr (12, [.int k_0, .ref a_1, .ref a_2, .ref a_3, .ref a_4, .ref a_5, .int i_1, .int i_2, .int i_3, .int i_4, .int i_5, .long j_0, .int i_6, .int i_7, .int i_8, .int i_9, .ref a_6, .ref a_7, .ref a_8, .ref a_9, .ref a_10, .ref a_11, .ref a_12, .ref a_13, .ref a_14, .ref a_15, .ref a_16, .ref a_17, .ref a_18, .int i_10, .int i_11, .int i_12, .int i_13, .int i_14, .int i_15, .ref a_19, .int i_16, .ref a_20])), (a_6, .inl (cy 1, 5, .inl n1)), (a_7, .inl (cy 1, 30, .inl n3)), (a_8, .inl (cy 1, 90, .inl n5)), (a_9, .inl (cy 1, 15, .inl n7)), (a_10, .inl (cy 1, 1050, .inl n9)), (a_11, .inl (cy 1, 30, .inl n11)), (a_12, .inl (cy 1, 240, .inl n13)), (a_13, .inl (cy 1, 450, .inl n15))] H) (hD : va_D A [(a_0, .inr (12, [.int k_0, .ref a_1, .ref a_2, .ref a_3, .ref a_4, .ref a_5, .int i_1, .int i_2, .int i_3, .int i_4, .int i_5, .long j_0, .int i_6, .int i_7, .int i_8, .int i_9, .ref a_6, .ref a_7, .ref a_8, .ref a_9, .ref a_10, .ref a_11, .ref a_12, .ref a_13, .ref a_14, .ref a_15, .ref a_16, .ref a_17, .ref a_18, .int i_10, .int i_11, .int i_12, .int i_13, .int i_14, .int i_15, .ref a_19, .int i_16, .ref a_20])), (a_6, .inl (cy 1, 5, .inl n1)), (a_7, .inl (cy 1, 30, .inl n3)), (a_8, .inl (cy 1, 90, .inl n5)), (a_9, .inl (cy 1, 15, .inl n7)), (a_10, .inl (cy 1, 1050, .inl n9)), (a_11, .inl (cy 1, 30, .inl n11)), (a_12, .inl (cy 1, 240, .inl n13)), (a_13, .inl (cy 1, 450, .inl n15))]) hS
  have w16 := hw
  subst hAe
  rw [hQ]
  exact W.vret hx hb hr (fun t ht hW => ⟨⟨(n1, n3, n5, n7, n9, n11, n13, n15), rfl, ⟨w2, w4, w6, w8, w10, w12, w14, w16⟩, by rw [ht]; exact hP, hK.warm hW, hD⟩, hS.F ht⟩) hS.2.2 dX12_copyBook_87

set_option maxHeartbeats 4000000 in
set_option maxRecDepth 100000 in
theorem K300_X12_image (l : Launch) (G : va_G) (cy : Nat → ClassId) (sz : Nat) (a_0 : Nat) (i_0 : Int32) (a_1 : Nat) (a_2 : Nat) (a_3 : Nat) (a_4 : Nat) (a_5 : Nat) (k_0 : Int32) (k_1 : Int32) (k_2 : Int32) (k_3 : Int32) (k_4 : Int32) (k_5 : Int64) (k_6 : Int32) (k_7 : Int32) (k_8 : Int32) (k_9 : Int32) (a_6 : Nat) (a_7 : Nat) (a_8 : Nat) (a_9 : Nat) (a_10 : Nat) (a_11 : Nat) (a_12 : Nat) (a_13 : Nat) (a_14 : Nat) (a_15 : Nat) (a_16 : Nat) (a_17 : Nat) (a_18 : Nat) (k_10 : Int32) (k_11 : Int32) (k_12 : Int32) (k_13 : Int32) (k_14 : Int32) (k_15 : Int32) (a_19 : Nat) (k_16 : Int32) (a_20 : Nat)   : mm_CI l yX12_image (mm_ws yX12_image cX12_image 2 (some .int)) ({ frames := 2, cells := 0, slots := 0, locals := 46 } : Room) G cy sz [(a_0, .inr (12, [.int 0, .ref a_1, .ref a_2, .ref a_3, .ref a_4, .ref a_5, .int k_0, .int k_1, .int k_2, .int k_3, .int k_4, .long k_5, .int k_6, .int k_7, .int k_8, .int k_9, .ref a_6, .ref a_7, .ref a_8, .ref a_9, .ref a_10, .ref a_11, .ref a_12, .ref a_13, .ref a_14, .ref a_15, .ref a_16, .ref a_17, .ref a_18, .int k_10, .int k_11, .int k_12, .int k_13, .int k_14, .int k_15, .ref a_19, .int k_16, .ref a_20])), (a_6, .inl (cy 1, 5, .inl (fun _ => 0))), (a_7, .inl (cy 1, 30, .inl (fun _ => 0))), (a_8, .inl (cy 1, 90, .inl (fun _ => 0))), (a_9, .inl (cy 1, 15, .inl (fun _ => 0))), (a_10, .inl (cy 1, 1050, .inl (fun _ => 0))), (a_11, .inl (cy 1, 30, .inl (fun _ => 0))), (a_12, .inl (cy 1, 240, .inl (fun _ => 0))), (a_13, .inl (cy 1, 450, .inl (fun _ => 0))), (a_14, .inl (cy 3, 3, .inl (fun _ => 0)))] [.ref a_0, .int i_0] (fun u : (Nat → Int32) × (Nat → Int32) × (Nat → Int32) × (Nat → Int32) × (Nat → Int32) × (Nat → Int32) × (Nat → Int32) × (Nat → Int32) × (Nat → Int32) => [(a_0, .inr (12, [.int 0, .ref a_1, .ref a_2, .ref a_3, .ref a_4, .ref a_5, .int k_0, .int k_1, .int k_2, .int k_3, .int k_4, .long k_5, .int k_6, .int k_7, .int k_8, .int k_9, .ref a_6, .ref a_7, .ref a_8, .ref a_9, .ref a_10, .ref a_11, .ref a_12, .ref a_13, .ref a_14, .ref a_15, .ref a_16, .ref a_17, .ref a_18, .int k_10, .int k_11, .int k_12, .int k_13, .int k_14, .int k_15, .ref a_19, .int k_16, .ref a_20])), (a_6, .inl (cy 1, 5, .inl u.1)), (a_7, .inl (cy 1, 30, .inl u.2.1)), (a_8, .inl (cy 1, 90, .inl u.2.2.1)), (a_9, .inl (cy 1, 15, .inl u.2.2.2.1)), (a_10, .inl (cy 1, 1050, .inl u.2.2.2.2.1)), (a_11, .inl (cy 1, 30, .inl u.2.2.2.2.2.1)), (a_12, .inl (cy 1, 240, .inl u.2.2.2.2.2.2.1)), (a_13, .inl (cy 1, 450, .inl u.2.2.2.2.2.2.2.1)), (a_14, .inl (cy 3, 3, .inl u.2.2.2.2.2.2.2.2))]) (fun (r : Int32) (u : (Nat → Int32) × (Nat → Int32) × (Nat → Int32) × (Nat → Int32) × (Nat → Int32) × (Nat → Int32) × (Nat → Int32) × (Nat → Int32) × (Nat → Int32)) => mm_ar u.1 0 0 ∧ mm_ar u.2.1 0 0 ∧ mm_ar u.2.2.1 0 0 ∧ mm_ar u.2.2.2.1 0 0 ∧ mm_ar u.2.2.2.2.1 0 0 ∧ mm_ar u.2.2.2.2.2.1 0 0 ∧ mm_ar u.2.2.2.2.2.2.1 0 0 ∧ mm_ar u.2.2.2.2.2.2.2.1 0 0 ∧ mm_ar u.2.2.2.2.2.2.2.2 0 1 ∧ (((-2) = r ∧ mm_rg i_0 (-2147483648) (-1)) ∨ ((-2) = r ∧ mm_rg i_0 3 2147483647) ∨ (0 = r ∧ mm_rg i_0 0 2))) 0 0 := by
  refine mm_begin (lv := [(0, .ref a_0), (1, .int i_0)]) (by decide) (Nat.le_of_ble_eq_true rfl) rfl ?_
  intro p e s m below meth c A ls R args Q H locs hRe hQ hAe hx hb hr hlocks hml hown hnm hts hsz hA hS hP hK hD hl
  have hRf : R.frames = 2 := by rw [hRe]
  have hRl : R.locals = 46 := by rw [hRe]
  have hRc : R.cells = 0 := by rw [hRe]
  have hRs : R.slots = 0 := by rw [hRe]
  refine lv_aload_n hx hb dX12_image_0 rfl (lv_at hl 0 rfl) ?_
  refine lv_iconst (v := 0) hx hb dX12_image_1 (by decide) ?_
  refine va_put (D := G) (ci := 12) (v := .int 0) (ty := tyX12 0) (C := RX12) (T := TX12) (N := 38) hx hb hts (mm_i inlX12) tyX12 tyX12_ok nmX12 hown hK.1 hP hD hS 0 rfl rfl 0 (by decide) (mm_h hts mm_w177) (fun _ h9 => h9) rfl (tyX12_ok 0 (by decide)) rfl rfl (Nat.le_of_ble_eq_true rfl) dX12_image_2 ?_
  clear hP hD hS
  clear H locs
  intro H locs (hP : va_P G vwCl [(a_0, .inr (12, [.int 0, .ref a_1, .ref a_2, .ref a_3, .ref a_4, .ref a_5, .int k_0, .int k_1, .int k_2, .int k_3, .int k_4, .long k_5, .int k_6, .int k_7, .int k_8, .int k_9, .ref a_6, .ref a_7, .ref a_8, .ref a_9, .ref a_10, .ref a_11, .ref a_12, .ref a_13, .ref a_14, .ref a_15, .ref a_16, .ref a_17, .ref a_18, .int k_10, .int k_11, .int k_12, .int k_13, .int k_14, .int k_15, .ref a_19, .int k_16, .ref a_20])), (a_6, .inl (cy 1, 5, .inl (fun _ => 0))), (a_7, .inl (cy 1, 30, .inl (fun _ => 0))), (a_8, .inl (cy 1, 90, .inl (fun _ => 0))), (a_9, .inl (cy 1, 15, .inl (fun _ => 0))), (a_10, .inl (cy 1, 1050, .inl (fun _ => 0))), (a_11, .inl (cy 1, 30, .inl (fun _ => 0))), (a_12, .inl (cy 1, 240, .inl (fun _ => 0))), (a_13, .inl (cy 1, 450, .inl (fun _ => 0))), (a_14, .inl (cy 3, 3, .inl (fun _ => 0)))] H) (hD : va_D A [(a_0, .inr (12, [.int 0, .ref a_1, .ref a_2, .ref a_3, .ref a_4, .ref a_5, .int k_0, .int k_1, .int k_2, .int k_3, .int k_4, .long k_5, .int k_6, .int k_7, .int k_8, .int k_9, .ref a_6, .ref a_7, .ref a_8, .ref a_9, .ref a_10, .ref a_11, .ref a_12, .ref a_13, .ref a_14, .ref a_15, .ref a_16, .ref a_17, .ref a_18, .int k_10, .int k_11, .int k_12, .int k_13, .int k_14, .int k_15, .ref a_19, .int k_16, .ref a_20])), (a_6, .inl (cy 1, 5, .inl (fun _ => 0))), (a_7, .inl (cy 1, 30, .inl (fun _ => 0))), (a_8, .inl (cy 1, 90, .inl (fun _ => 0))), (a_9, .inl (cy 1, 15, .inl (fun _ => 0))), (a_10, .inl (cy 1, 1050, .inl (fun _ => 0))), (a_11, .inl (cy 1, 30, .inl (fun _ => 0))), (a_12, .inl (cy 1, 240, .inl (fun _ => 0))), (a_13, .inl (cy 1, 450, .inl (fun _ => 0))), (a_14, .inl (cy 3, 3, .inl (fun _ => 0)))]) hS
  refine lv_iload_n hx hb dX12_image_5 rfl (lv_at hl 1 rfl) ?_
  obtain ⟨v1, ev1⟩ : ∃ y : Int64, y = i_0.toInt64 := ⟨_, rfl⟩
  refine lv_i2l hx hb dX12_image_6 ev1.symm ?_
  have rv1 : mm_rl v1 (-2147483648) 2147483647 := mm_i2l ev1 (mm_top i_0)
  refine lv_lconst (v := 0) hx hb dX12_image_7 (by decide) ?_
  refine lv_ldc2 (v := 2) hx hb hown (mm_h hts mm_w1664) dX12_image_8 ?_
  refine mm_finir (va_runS (As := [.long v1, .long 0, .long 2]) (rest := []) ⟨hx, hb, hml, hown, hts⟩ (K291_X12_in l G cy H.size v1 rv1) (va_cwS 3 hts (mm_gS mm_w191 mm_w192 mm_w5 mm_w193) rfl rfl rfl hs_X12_in ⟨by rw [hRf]; exact Nat.le_of_ble_eq_true rfl, by rw [hRl]; exact Nat.le_of_ble_eq_true rfl⟩) (mm_preS hK hP hD [] rfl rfl) rfl rfl hl.1 rfl (lv_room (Nat.le_of_ble_eq_true rfl)) dX12_image_11 ⟨by rw [hRc]; exact Nat.le_of_ble_eq_true rfl, by rw [hRs]; exact Nat.le_of_ble_eq_true rfl⟩) hP hD hS hA [] rfl (fun _ => rfl) ?_
  clear hP hD hS
  clear H locs
  intro v2 _u H locs hw hP hD hS
  rcases hw with ⟨rfl, w3⟩ | ⟨rfl, w4⟩ | ⟨rfl, w5⟩
  · have q6 := mm_meet (lo := (-2147483648)) (hi := (-1)) (mm_l2x ev1 w3) (mm_top i_0) (by decide)
    refine lv_if_ne (tgt := 20) hx hb dX12_image_14 (by decide) (fun c7 => ?_) (fun c7 => ?_)
    · have q8 := mm_neL (lo := 1) (mm_ne c7) mm_k0 mm_k0 (by decide) (by decide)
      exact mm_no q8 (by decide)
    · refine lv_bipush (v := (-2)) hx hb dX12_image_17 (by decide) ?_
      subst hAe
      rw [hQ]
      exact W.iret (v := (-2)) hx hb hr (fun t ht hW => ⟨⟨(-2), ((fun _ => 0), (fun _ => 0), (fun _ => 0), (fun _ => 0), (fun _ => 0), (fun _ => 0), (fun _ => 0), (fun _ => 0), (fun _ => 0)), rfl, ⟨(mm_ar_c mm_k0), (mm_ar_c mm_k0), (mm_ar_c mm_k0), (mm_ar_c mm_k0), (mm_ar_c mm_k0), (mm_ar_c mm_k0), (mm_ar_c mm_k0), (mm_ar_c mm_k0), (mm_ar_wk (mm_ar_c mm_k0) (by decide)), (Or.inl ⟨rfl, q6⟩)⟩, by rw [ht]; exact hP, hK.warm hW, hD⟩, hS.F ht⟩) hS.2.2 dX12_image_19
  · have q9 := mm_meet (lo := 3) (hi := 2147483647) (mm_l2x ev1 w4) (mm_top i_0) (by decide)
    refine lv_if_ne (tgt := 20) hx hb dX12_image_14 (by decide) (fun c10 => ?_) (fun c10 => ?_)
    · have q11 := mm_neL (lo := 1) (mm_ne c10) mm_k0 mm_k0 (by decide) (by decide)
      exact mm_no q11 (by decide)
    · refine lv_bipush (v := (-2)) hx hb dX12_image_17 (by decide) ?_
      subst hAe
      rw [hQ]
      exact W.iret (v := (-2)) hx hb hr (fun t ht hW => ⟨⟨(-2), ((fun _ => 0), (fun _ => 0), (fun _ => 0), (fun _ => 0), (fun _ => 0), (fun _ => 0), (fun _ => 0), (fun _ => 0), (fun _ => 0)), rfl, ⟨(mm_ar_c mm_k0), (mm_ar_c mm_k0), (mm_ar_c mm_k0), (mm_ar_c mm_k0), (mm_ar_c mm_k0), (mm_ar_c mm_k0), (mm_ar_c mm_k0), (mm_ar_c mm_k0), (mm_ar_wk (mm_ar_c mm_k0) (by decide)), (Or.inr (Or.inl ⟨rfl, q9⟩))⟩, by rw [ht]; exact hP, hK.warm hW, hD⟩, hS.F ht⟩) hS.2.2 dX12_image_19
  · have q12 := mm_meet (lo := 0) (hi := 2) (mm_l2x ev1 w5) (mm_top i_0) (by decide)
    refine lv_if_ne (tgt := 20) hx hb dX12_image_14 (by decide) (fun c13 => ?_) (fun c13 => ?_)
    · refine lv_aload_n hx hb dX12_image_20 rfl (lv_at hl 0 rfl) ?_
      refine lv_iconst (v := 0) hx hb dX12_image_21 (by decide) ?_
      refine lv_iconst (v := 1) hx hb dX12_image_22 (by decide) ?_
      refine lv_iload_n hx hb dX12_image_23 rfl (lv_at hl 1 rfl) ?_
      refine lv_iadd hx hb dX12_image_24 ?_
      refine lv_topi (fun v14 ev14 => ?_)
      have rv14 : mm_rg v14 1 3 := mm_add ev14 mm_k1 q12 (by decide) (by decide)
      have tv14 := mm_addE ev14 mm_k1 q12 (by decide)
      refine mm_finv (va_runV (As := [.int 0, .int v14]) (rest := []) ⟨hx, hb, hml, hown, hts⟩ (K301_X12_copyBook l G cy H.size a_0 v14 0 a_1 a_2 a_3 a_4 a_5 k_0 k_1 k_2 k_3 k_4 k_5 k_6 k_7 k_8 k_9 a_6 a_7 a_8 a_9 a_10 a_11 a_12 a_13 a_14 a_15 a_16 a_17 a_18 k_10 k_11 k_12 k_13 k_14 k_15 a_19 k_16 a_20 rv14) (cwV 2 hts (mm_gV mm_w553 mm_w554 mm_w555 mm_w5 mm_w556) rfl rfl rfl hd_X12_copyBook ⟨by rw [hRf]; exact Nat.le_of_ble_eq_true rfl, by rw [hRl]; exact Nat.le_of_ble_eq_true rfl⟩) (mm_preV hK hP hD [0, 1, 2, 3, 4, 5, 6, 7, 8] rfl rfl 0 rfl rfl rfl) rfl rfl hl.1 rfl (lv_room (Nat.le_of_ble_eq_true rfl)) dX12_image_25 ⟨by rw [hRc]; exact Nat.le_of_ble_eq_true rfl, by rw [hRs]; exact Nat.le_of_ble_eq_true rfl⟩) hP hD hS hA (fun u : (Nat → Int32) × (Nat → Int32) × (Nat → Int32) × (Nat → Int32) × (Nat → Int32) × (Nat → Int32) × (Nat → Int32) × (Nat → Int32) => [(a_0, .inr (12, [.int 0, .ref a_1, .ref a_2, .ref a_3, .ref a_4, .ref a_5, .int k_0, .int k_1, .int k_2, .int k_3, .int k_4, .long k_5, .int k_6, .int k_7, .int k_8, .int k_9, .ref a_6, .ref a_7, .ref a_8, .ref a_9, .ref a_10, .ref a_11, .ref a_12, .ref a_13, .ref a_14, .ref a_15, .ref a_16, .ref a_17, .ref a_18, .int k_10, .int k_11, .int k_12, .int k_13, .int k_14, .int k_15, .ref a_19, .int k_16, .ref a_20])), (a_6, .inl (cy 1, 5, .inl u.1)), (a_7, .inl (cy 1, 30, .inl u.2.1)), (a_8, .inl (cy 1, 90, .inl u.2.2.1)), (a_9, .inl (cy 1, 15, .inl u.2.2.2.1)), (a_10, .inl (cy 1, 1050, .inl u.2.2.2.2.1)), (a_11, .inl (cy 1, 30, .inl u.2.2.2.2.2.1)), (a_12, .inl (cy 1, 240, .inl u.2.2.2.2.2.2.1)), (a_13, .inl (cy 1, 450, .inl u.2.2.2.2.2.2.2)), (a_14, .inl (cy 3, 3, .inl (fun _ => 0)))]) [0, 1, 2, 3, 4, 5, 6, 7, 8] [9] (n := 10) (fun _ => rfl) (by decide +kernel) (by decide +kernel) rfl (fun _ => rfl) (wr := [(a_14, .inl (cy 3, 3, .inl (fun _ => 0)))]) rfl (fun _ => rfl) (fun _ => rfl) ?_
      clear hP hD hS
      clear H locs
      intro u
      obtain ⟨n15, n16, n17, n18, n19, n20, n21, n22⟩ := u
      intro H locs hw (hP : va_P G vwCl [(a_0, .inr (12, [.int 0, .ref a_1, .ref a_2, .ref a_3, .ref a_4, .ref a_5, .int k_0, .int k_1, .int k_2, .int k_3, .int k_4, .long k_5, .int k_6, .int k_7, .int k_8, .int k_9, .ref a_6, .ref a_7, .ref a_8, .ref a_9, .ref a_10, .ref a_11, .ref a_12, .ref a_13, .ref a_14, .ref a_15, .ref a_16, .ref a_17, .ref a_18, .int k_10, .int k_11, .int k_12, .int k_13, .int k_14, .int k_15, .ref a_19, .int k_16, .ref a_20])), (a_6, .inl (cy 1, 5, .inl n15)), (a_7, .inl (cy 1, 30, .inl n16)), (a_8, .inl (cy 1, 90, .inl n17)), (a_9, .inl (cy 1, 15, .inl n18)), (a_10, .inl (cy 1, 1050, .inl n19)), (a_11, .inl (cy 1, 30, .inl n20)), (a_12, .inl (cy 1, 240, .inl n21)), (a_13, .inl (cy 1, 450, .inl n22)), (a_14, .inl (cy 3, 3, .inl (fun _ => 0)))] H) (hD : va_D A [(a_0, .inr (12, [.int 0, .ref a_1, .ref a_2, .ref a_3, .ref a_4, .ref a_5, .int k_0, .int k_1, .int k_2, .int k_3, .int k_4, .long k_5, .int k_6, .int k_7, .int k_8, .int k_9, .ref a_6, .ref a_7, .ref a_8, .ref a_9, .ref a_10, .ref a_11, .ref a_12, .ref a_13, .ref a_14, .ref a_15, .ref a_16, .ref a_17, .ref a_18, .int k_10, .int k_11, .int k_12, .int k_13, .int k_14, .int k_15, .ref a_19, .int k_16, .ref a_20])), (a_6, .inl (cy 1, 5, .inl n15)), (a_7, .inl (cy 1, 30, .inl n16)), (a_8, .inl (cy 1, 90, .inl n17)), (a_9, .inl (cy 1, 15, .inl n18)), (a_10, .inl (cy 1, 1050, .inl n19)), (a_11, .inl (cy 1, 30, .inl n20)), (a_12, .inl (cy 1, 240, .inl n21)), (a_13, .inl (cy 1, 450, .inl n22)), (a_14, .inl (cy 3, 3, .inl (fun _ => 0)))]) hS
      obtain ⟨w23, w24, w25, w26, w27, w28, w29, w30⟩ := hw
      refine lv_aload_n hx hb dX12_image_28 rfl (lv_at hl 0 rfl) ?_
      refine va_get (D := G) (ci := 12) (v := .ref a_14) (C := RX12) (T := TX12) (N := 38) hx hb hts (mm_i inlX12) hown hK.1 hP 0 rfl rfl 24 (by decide) (mm_h hts mm_w156) (fun _ h9 => h9) rfl dX12_image_29 ?_
      refine lv_iload_n hx hb dX12_image_32 rfl (lv_at hl 1 rfl) ?_
      refine lv_iconst (v := 1) hx hb dX12_image_33 (by decide) ?_
      refine va_zast hx hb hK.1 hP hD hS 9 3 rfl rfl (mm_in q12 (by decide)) dX12_image_34 ?_
      clear hP hD hS
      clear H locs
      obtain ⟨g31, eg31⟩ : ∃ z : Nat → Int32, z = upd (fun _ => 0) i_0.toNatClampNeg (vp_nar .boolean 1) := ⟨_, rfl⟩
      rw [← eg31]
      intro H locs (hP : va_P G vwCl [(a_0, .inr (12, [.int 0, .ref a_1, .ref a_2, .ref a_3, .ref a_4, .ref a_5, .int k_0, .int k_1, .int k_2, .int k_3, .int k_4, .long k_5, .int k_6, .int k_7, .int k_8, .int k_9, .ref a_6, .ref a_7, .ref a_8, .ref a_9, .ref a_10, .ref a_11, .ref a_12, .ref a_13, .ref a_14, .ref a_15, .ref a_16, .ref a_17, .ref a_18, .int k_10, .int k_11, .int k_12, .int k_13, .int k_14, .int k_15, .ref a_19, .int k_16, .ref a_20])), (a_6, .inl (cy 1, 5, .inl n15)), (a_7, .inl (cy 1, 30, .inl n16)), (a_8, .inl (cy 1, 90, .inl n17)), (a_9, .inl (cy 1, 15, .inl n18)), (a_10, .inl (cy 1, 1050, .inl n19)), (a_11, .inl (cy 1, 30, .inl n20)), (a_12, .inl (cy 1, 240, .inl n21)), (a_13, .inl (cy 1, 450, .inl n22)), (a_14, .inl (cy 3, 3, .inl g31))] H) (hD : va_D A [(a_0, .inr (12, [.int 0, .ref a_1, .ref a_2, .ref a_3, .ref a_4, .ref a_5, .int k_0, .int k_1, .int k_2, .int k_3, .int k_4, .long k_5, .int k_6, .int k_7, .int k_8, .int k_9, .ref a_6, .ref a_7, .ref a_8, .ref a_9, .ref a_10, .ref a_11, .ref a_12, .ref a_13, .ref a_14, .ref a_15, .ref a_16, .ref a_17, .ref a_18, .int k_10, .int k_11, .int k_12, .int k_13, .int k_14, .int k_15, .ref a_19, .int k_16, .ref a_20])), (a_6, .inl (cy 1, 5, .inl n15)), (a_7, .inl (cy 1, 30, .inl n16)), (a_8, .inl (cy 1, 90, .inl n17)), (a_9, .inl (cy 1, 15, .inl n18)), (a_10, .inl (cy 1, 1050, .inl n19)), (a_11, .inl (cy 1, 30, .inl n20)), (a_12, .inl (cy 1, 240, .inl n21)), (a_13, .inl (cy 1, 450, .inl n22)), (a_14, .inl (cy 3, 3, .inl g31))]) hS
      have rg31 : mm_ar g31 0 1 := by rw [eg31]; exact mm_ar_upd (mm_ar_wk (mm_ar_c mm_k0) (by decide)) (mm_nz1 1) _
      refine lv_iconst (v := 0) hx hb dX12_image_35 (by decide) ?_
      subst hAe
      rw [hQ]
      exact W.iret (v := 0) hx hb hr (fun t ht hW => ⟨⟨0, (n15, n16, n17, n18, n19, n20, n21, n22, g31), rfl, ⟨w23, w24, w25, w26, w27, w28, w29, w30, rg31, (Or.inr (Or.inr ⟨rfl, q12⟩))⟩, by rw [ht]; exact hP, hK.warm hW, hD⟩, hS.F ht⟩) hS.2.2 dX12_image_36
    · exact mm_eqN c13.symm mm_k0 mm_k1 (by decide)

set_option maxHeartbeats 4000000 in
set_option maxRecDepth 100000 in
theorem K302_X11_back (l : Launch) (G : va_G) (cy : Nat → ClassId) (sz : Nat) (a_0 : Nat) (i_0 : Int32) (a_1 : Nat) (a_2 : Nat) (a_3 : Nat) (a_4 : Nat) (a_5 : Nat) (a_6 : Nat) (a_7 : Nat) (a_8 : Nat) (a_9 : Nat) (a_10 : Nat) (a_11 : Nat)   : mm_CI l yX11_back (mm_ws yX11_back cX11_back 2 (some .int)) ({ frames := 0, cells := 0, slots := 0, locals := 0 } : Room) G cy sz [(a_0, .inr (11, [.ref a_1, .ref a_2, .ref a_3, .ref a_4, .ref a_5, .ref a_6, .ref a_7, .ref a_8, .ref a_9, .ref a_10, .ref a_11])), (a_5, .inl (cy 3, 3, .inl (fun _ => 0)))] [.ref a_0, .int i_0] (fun u : Unit => [(a_0, .inr (11, [.ref a_1, .ref a_2, .ref a_3, .ref a_4, .ref a_5, .ref a_6, .ref a_7, .ref a_8, .ref a_9, .ref a_10, .ref a_11])), (a_5, .inl (cy 3, 3, .inl (fun _ => 0)))]) (fun (r : Int32) (u : Unit) => (((-2) = r ∧ mm_rg i_0 (-2147483648) (-1)) ∨ ((-6) = r ∧ mm_rg i_0 0 2) ∨ ((-2) = r ∧ mm_rg i_0 3 2147483647))) 0 0 := by
  refine mm_begin (lv := [(0, .ref a_0), (1, .int i_0)]) (by decide) (Nat.le_of_ble_eq_true rfl) rfl ?_
  intro p e s m below meth c A ls R args Q H locs hRe hQ hAe hx hb hr hlocks hml hown hnm hts hsz hA hS hP hK hD hl
  have hRf : R.frames = 0 := by rw [hRe]
  have hRl : R.locals = 0 := by rw [hRe]
  have hRc : R.cells = 0 := by rw [hRe]
  have hRs : R.slots = 0 := by rw [hRe]
  refine lv_iload_n hx hb dX11_back_0 rfl (lv_at hl 1 rfl) ?_
  refine lv_if_lt (tgt := 9) hx hb dX11_back_1 (by decide) (fun c1 => ?_) (fun c1 => ?_)
  · have q2 := mm_ltL (h := (-1)) (mm_lt c1) (mm_top i_0) mm_k0 (by decide)
    refine lv_bipush (v := (-2)) hx hb dX11_back_9 (by decide) ?_
    subst hAe
    rw [hQ]
    exact W.iret (v := (-2)) hx hb hr (fun t ht hW => ⟨⟨(-2), (), rfl, (Or.inl ⟨rfl, q2⟩), by rw [ht]; exact hP, hK.warm hW, hD⟩, hS.F ht⟩) hS.2.2 dX11_back_11
  · have q3 := mm_leR (mm_nlt c1) mm_k0 (mm_top i_0)
    refine lv_iload_n hx hb dX11_back_4 rfl (lv_at hl 1 rfl) ?_
    refine lv_iconst (v := 3) hx hb dX11_back_5 (by decide) ?_
    refine lv_icmp_lt (tgt := 12) hx hb dX11_back_6 (by decide) (fun c4 => ?_) (fun c4 => ?_)
    · have q5 := mm_ltL (h := 2) (mm_lt c4) q3 mm_k3 (by decide)
      refine lv_aload_n hx hb dX11_back_12 rfl (lv_at hl 0 rfl) ?_
      refine va_get (D := G) (ci := 11) (v := .ref a_5) (C := RX11) (T := TX11) (N := 11) hx hb hts (mm_i inlX11) hown hK.1 hP 0 rfl rfl 4 (by decide) (mm_h hts mm_w30) (fun _ h9 => h9) rfl dX11_back_13 ?_
      refine lv_iload_n hx hb dX11_back_16 rfl (lv_at hl 1 rfl) ?_
      refine va_zald hx hb hK.1 hP 1 3 rfl rfl (mm_in q5 (by decide)) dX11_back_17 ?_
      refine lv_topi (fun v6 ev6 => ?_)
      obtain rfl : v6 = 0 := ev6
      refine lv_if_ne (tgt := 24) hx hb dX11_back_18 (by decide) (fun c7 => ?_) (fun c7 => ?_)
      · have q8 := mm_neL (lo := 1) (mm_ne c7) mm_k0 mm_k0 (by decide) (by decide)
        exact mm_no q8 (by decide)
      · refine lv_bipush (v := (-6)) hx hb dX11_back_21 (by decide) ?_
        subst hAe
        rw [hQ]
        exact W.iret (v := (-6)) hx hb hr (fun t ht hW => ⟨⟨(-6), (), rfl, (Or.inr (Or.inl ⟨rfl, q5⟩)), by rw [ht]; exact hP, hK.warm hW, hD⟩, hS.F ht⟩) hS.2.2 dX11_back_23
    · have q9 := mm_leR (mm_nlt c4) mm_k3 q3
      refine lv_bipush (v := (-2)) hx hb dX11_back_9 (by decide) ?_
      subst hAe
      rw [hQ]
      exact W.iret (v := (-2)) hx hb hr (fun t ht hW => ⟨⟨(-2), (), rfl, (Or.inr (Or.inr ⟨rfl, q9⟩)), by rw [ht]; exact hP, hK.warm hW, hD⟩, hS.F ht⟩) hS.2.2 dX11_back_11

set_option maxHeartbeats 4000000 in
set_option maxRecDepth 100000 in
theorem K303_X12_back (l : Launch) (G : va_G) (cy : Nat → ClassId) (sz : Nat) (a_0 : Nat) (i_0 : Int32) (a_1 : Nat) (a_2 : Nat) (a_3 : Nat) (a_4 : Nat) (a_5 : Nat) (k_0 : Int32) (k_1 : Int32) (k_2 : Int32) (k_3 : Int32) (k_4 : Int32) (k_5 : Int64) (k_6 : Int32) (k_7 : Int32) (k_8 : Int32) (k_9 : Int32) (a_6 : Nat) (a_7 : Nat) (a_8 : Nat) (a_9 : Nat) (a_10 : Nat) (a_11 : Nat) (a_12 : Nat) (a_13 : Nat) (a_14 : Nat) (a_15 : Nat) (a_16 : Nat) (a_17 : Nat) (a_18 : Nat) (k_10 : Int32) (k_11 : Int32) (k_12 : Int32) (k_13 : Int32) (k_14 : Int32) (k_15 : Int32) (a_19 : Nat) (k_16 : Int32) (a_20 : Nat)   : mm_CI l yX12_back (mm_ws yX12_back cX12_back 2 (some .int)) ({ frames := 1, cells := 0, slots := 0, locals := 25 } : Room) G cy sz [(a_0, .inr (12, [.int 0, .ref a_1, .ref a_2, .ref a_3, .ref a_4, .ref a_5, .int k_0, .int k_1, .int k_2, .int k_3, .int k_4, .long k_5, .int k_6, .int k_7, .int k_8, .int k_9, .ref a_6, .ref a_7, .ref a_8, .ref a_9, .ref a_10, .ref a_11, .ref a_12, .ref a_13, .ref a_14, .ref a_15, .ref a_16, .ref a_17, .ref a_18, .int k_10, .int k_11, .int k_12, .int k_13, .int k_14, .int k_15, .ref a_19, .int k_16, .ref a_20])), (a_14, .inl (cy 3, 3, .inl (fun _ => 0)))] [.ref a_0, .int i_0] (fun u : Unit => [(a_0, .inr (12, [.int 0, .ref a_1, .ref a_2, .ref a_3, .ref a_4, .ref a_5, .int k_0, .int k_1, .int k_2, .int k_3, .int k_4, .long k_5, .int k_6, .int k_7, .int k_8, .int k_9, .ref a_6, .ref a_7, .ref a_8, .ref a_9, .ref a_10, .ref a_11, .ref a_12, .ref a_13, .ref a_14, .ref a_15, .ref a_16, .ref a_17, .ref a_18, .int k_10, .int k_11, .int k_12, .int k_13, .int k_14, .int k_15, .ref a_19, .int k_16, .ref a_20])), (a_14, .inl (cy 3, 3, .inl (fun _ => 0)))]) (fun (r : Int32) (u : Unit) => (((-2) = r ∧ mm_rg i_0 (-2147483648) (-1)) ∨ ((-2) = r ∧ mm_rg i_0 3 2147483647) ∨ ((-6) = r ∧ mm_rg i_0 0 2))) 0 0 := by
  refine mm_begin (lv := [(0, .ref a_0), (1, .int i_0)]) (by decide) (Nat.le_of_ble_eq_true rfl) rfl ?_
  intro p e s m below meth c A ls R args Q H locs hRe hQ hAe hx hb hr hlocks hml hown hnm hts hsz hA hS hP hK hD hl
  have hRf : R.frames = 1 := by rw [hRe]
  have hRl : R.locals = 25 := by rw [hRe]
  have hRc : R.cells = 0 := by rw [hRe]
  have hRs : R.slots = 0 := by rw [hRe]
  refine lv_aload_n hx hb dX12_back_0 rfl (lv_at hl 0 rfl) ?_
  refine lv_iconst (v := 0) hx hb dX12_back_1 (by decide) ?_
  refine va_put (D := G) (ci := 12) (v := .int 0) (ty := tyX12 0) (C := RX12) (T := TX12) (N := 38) hx hb hts (mm_i inlX12) tyX12 tyX12_ok nmX12 hown hK.1 hP hD hS 0 rfl rfl 0 (by decide) (mm_h hts mm_w177) (fun _ h9 => h9) rfl (tyX12_ok 0 (by decide)) rfl rfl (Nat.le_of_ble_eq_true rfl) dX12_back_2 ?_
  clear hP hD hS
  clear H locs
  intro H locs (hP : va_P G vwCl [(a_0, .inr (12, [.int 0, .ref a_1, .ref a_2, .ref a_3, .ref a_4, .ref a_5, .int k_0, .int k_1, .int k_2, .int k_3, .int k_4, .long k_5, .int k_6, .int k_7, .int k_8, .int k_9, .ref a_6, .ref a_7, .ref a_8, .ref a_9, .ref a_10, .ref a_11, .ref a_12, .ref a_13, .ref a_14, .ref a_15, .ref a_16, .ref a_17, .ref a_18, .int k_10, .int k_11, .int k_12, .int k_13, .int k_14, .int k_15, .ref a_19, .int k_16, .ref a_20])), (a_14, .inl (cy 3, 3, .inl (fun _ => 0)))] H) (hD : va_D A [(a_0, .inr (12, [.int 0, .ref a_1, .ref a_2, .ref a_3, .ref a_4, .ref a_5, .int k_0, .int k_1, .int k_2, .int k_3, .int k_4, .long k_5, .int k_6, .int k_7, .int k_8, .int k_9, .ref a_6, .ref a_7, .ref a_8, .ref a_9, .ref a_10, .ref a_11, .ref a_12, .ref a_13, .ref a_14, .ref a_15, .ref a_16, .ref a_17, .ref a_18, .int k_10, .int k_11, .int k_12, .int k_13, .int k_14, .int k_15, .ref a_19, .int k_16, .ref a_20])), (a_14, .inl (cy 3, 3, .inl (fun _ => 0)))]) hS
  refine lv_iload_n hx hb dX12_back_5 rfl (lv_at hl 1 rfl) ?_
  obtain ⟨v1, ev1⟩ : ∃ y : Int64, y = i_0.toInt64 := ⟨_, rfl⟩
  refine lv_i2l hx hb dX12_back_6 ev1.symm ?_
  have rv1 : mm_rl v1 (-2147483648) 2147483647 := mm_i2l ev1 (mm_top i_0)
  refine lv_lconst (v := 0) hx hb dX12_back_7 (by decide) ?_
  refine lv_ldc2 (v := 2) hx hb hown (mm_h hts mm_w1664) dX12_back_8 ?_
  refine mm_finir (va_runS (As := [.long v1, .long 0, .long 2]) (rest := []) ⟨hx, hb, hml, hown, hts⟩ (K291_X12_in l G cy H.size v1 rv1) (va_cwS 3 hts (mm_gS mm_w191 mm_w192 mm_w5 mm_w193) rfl rfl rfl hs_X12_in ⟨by rw [hRf]; exact Nat.le_of_ble_eq_true rfl, by rw [hRl]; exact Nat.le_of_ble_eq_true rfl⟩) (mm_preS hK hP hD [] rfl rfl) rfl rfl hl.1 rfl (lv_room (Nat.le_of_ble_eq_true rfl)) dX12_back_11 ⟨by rw [hRc]; exact Nat.le_of_ble_eq_true rfl, by rw [hRs]; exact Nat.le_of_ble_eq_true rfl⟩) hP hD hS hA [] rfl (fun _ => rfl) ?_
  clear hP hD hS
  clear H locs
  intro v2 _u H locs hw hP hD hS
  rcases hw with ⟨rfl, w3⟩ | ⟨rfl, w4⟩ | ⟨rfl, w5⟩
  · have q6 := mm_meet (lo := (-2147483648)) (hi := (-1)) (mm_l2x ev1 w3) (mm_top i_0) (by decide)
    refine lv_if_ne (tgt := 20) hx hb dX12_back_14 (by decide) (fun c7 => ?_) (fun c7 => ?_)
    · have q8 := mm_neL (lo := 1) (mm_ne c7) mm_k0 mm_k0 (by decide) (by decide)
      exact mm_no q8 (by decide)
    · refine lv_bipush (v := (-2)) hx hb dX12_back_17 (by decide) ?_
      subst hAe
      rw [hQ]
      exact W.iret (v := (-2)) hx hb hr (fun t ht hW => ⟨⟨(-2), (), rfl, (Or.inl ⟨rfl, q6⟩), by rw [ht]; exact hP, hK.warm hW, hD⟩, hS.F ht⟩) hS.2.2 dX12_back_19
  · have q9 := mm_meet (lo := 3) (hi := 2147483647) (mm_l2x ev1 w4) (mm_top i_0) (by decide)
    refine lv_if_ne (tgt := 20) hx hb dX12_back_14 (by decide) (fun c10 => ?_) (fun c10 => ?_)
    · have q11 := mm_neL (lo := 1) (mm_ne c10) mm_k0 mm_k0 (by decide) (by decide)
      exact mm_no q11 (by decide)
    · refine lv_bipush (v := (-2)) hx hb dX12_back_17 (by decide) ?_
      subst hAe
      rw [hQ]
      exact W.iret (v := (-2)) hx hb hr (fun t ht hW => ⟨⟨(-2), (), rfl, (Or.inr (Or.inl ⟨rfl, q9⟩)), by rw [ht]; exact hP, hK.warm hW, hD⟩, hS.F ht⟩) hS.2.2 dX12_back_19
  · have q12 := mm_meet (lo := 0) (hi := 2) (mm_l2x ev1 w5) (mm_top i_0) (by decide)
    refine lv_if_ne (tgt := 20) hx hb dX12_back_14 (by decide) (fun c13 => ?_) (fun c13 => ?_)
    · refine lv_aload_n hx hb dX12_back_20 rfl (lv_at hl 0 rfl) ?_
      refine va_get (D := G) (ci := 12) (v := .ref a_14) (C := RX12) (T := TX12) (N := 38) hx hb hts (mm_i inlX12) hown hK.1 hP 0 rfl rfl 24 (by decide) (mm_h hts mm_w156) (fun _ h9 => h9) rfl dX12_back_21 ?_
      refine lv_iload_n hx hb dX12_back_24 rfl (lv_at hl 1 rfl) ?_
      refine va_zald hx hb hK.1 hP 1 3 rfl rfl (mm_in q12 (by decide)) dX12_back_25 ?_
      refine lv_topi (fun v14 ev14 => ?_)
      obtain rfl : v14 = 0 := ev14
      refine lv_if_ne (tgt := 32) hx hb dX12_back_26 (by decide) (fun c15 => ?_) (fun c15 => ?_)
      · have q16 := mm_neL (lo := 1) (mm_ne c15) mm_k0 mm_k0 (by decide) (by decide)
        exact mm_no q16 (by decide)
      · refine lv_bipush (v := (-6)) hx hb dX12_back_29 (by decide) ?_
        subst hAe
        rw [hQ]
        exact W.iret (v := (-6)) hx hb hr (fun t ht hW => ⟨⟨(-6), (), rfl, (Or.inr (Or.inr ⟨rfl, q12⟩)), by rw [ht]; exact hP, hK.warm hW, hD⟩, hS.F ht⟩) hS.2.2 dX12_back_31
    · exact mm_eqN c13.symm mm_k0 mm_k1 (by decide)

set_option maxHeartbeats 4000000 in
set_option maxRecDepth 100000 in
theorem K304_J7_fill_d0a16 (l : Launch) (G : va_G) (cy : Nat → ClassId) (sz : Nat) (a_0 : Nat)   : mm_CV l yJ7_fill_d0a16 (mm_ws yJ7_fill_d0a16 cJ7_fill_d0a16 5 (none)) ({ frames := 0, cells := 0, slots := 0, locals := 0 } : Room) G cy sz [(a_0, .inl (cy 2, 60, .inr (.inl (fun _ => 0))))] [.ref a_0, .long 0] (fun u : (Nat → Int64) => [(a_0, .inl (cy 2, 60, .inr (.inl u)))]) (fun u : (Nat → Int64) => True) 0 0 := by
  refine mm_begin (lv := [(0, .ref a_0), (1, .long 0)]) (by decide) (Nat.le_of_ble_eq_true rfl) rfl ?_
  intro p e s m below meth c A ls R args Q H locs hRe hQ hAe hx hb hr hlocks hml hown hnm hts hsz hA hS hP hK hD hl
  have hRf : R.frames = 0 := by rw [hRe]
  have hRl : R.locals = 0 := by rw [hRe]
  have hRc : R.cells = 0 := by rw [hRe]
  have hRs : R.slots = 0 := by rw [hRe]
  refine lv_iconst (v := 0) hx hb dJ7_fill_d0a16_0 (by decide) ?_
  refine lv_istore_n (lv' := [(3, .int 0), (0, .ref a_0), (1, .long 0)]) hx hb dJ7_fill_d0a16_1 rfl hl (by decide) rfl ?_
  clear hl
  clear ls
  intro ls hl
  refine lv_aload_n hx hb dJ7_fill_d0a16_2 rfl (lv_at hl 1 rfl) ?_
  refine va_alen (v := 60) hx hb hK.1 hP 0 2 rfl rfl rfl dJ7_fill_d0a16_3 ?_
  refine lv_istore (lv' := [(4, .int 60), (3, .int 0), (0, .ref a_0), (1, .long 0)]) hx hb dJ7_fill_d0a16_4 hl (by decide) rfl ?_
  clear hl
  clear ls
  intro ls hl
  have L6_27 : ∀ (n : Nat) (x6_3_26 : Int32) (z6_0_27 : Nat → Int64), mm_rg x6_3_26 0 60 → (60 - x6_3_26.toInt).toNat < n → ∀ (H : Heap) (locs : List Loc), va_P G vwCl [(a_0, .inl (cy 2, 60, .inr (.inl z6_0_27)))] H → va_D A [(a_0, .inl (cy 2, 60, .inr (.inl z6_0_27)))] → va_S A s.heap H locs → ∀ (ls : Array Slot), lv_has ls 5 [(4, .int 60), (3, .int x6_3_26), (0, .ref a_0), (1, .long 0)] → W p l e R s m args below meth c H locs 0 0 Q (F0 m 6 ls []) := by
    intro n
    induction n with
    | zero => intro x6_3_26 z6_0_27 rx6_3_26 hm; exact absurd hm (Nat.not_lt_zero _)
    | succ n ih6 =>
      intro x6_3_26 z6_0_27 rx6_3_26 hm6 H locs hP hD hS ls hl
      refine lv_iload_n hx hb dJ7_fill_d0a16_6 rfl (lv_at hl 1 rfl) ?_
      refine lv_iload hx hb dJ7_fill_d0a16_7 (lv_at hl 0 rfl) ?_
      refine lv_icmp_ge (tgt := 22) hx hb dJ7_fill_d0a16_9 (by decide) (fun c29 => ?_) (fun c29 => ?_)
      · have q30 := mm_leR (mm_le c29) mm_k60 rx6_3_26
        subst hAe
        rw [hQ]
        exact W.vret hx hb hr (fun t ht hW => ⟨⟨z6_0_27, rfl, trivial, by rw [ht]; exact hP, hK.warm hW, hD⟩, hS.F ht⟩) hS.2.2 dJ7_fill_d0a16_22
      · have q31 := mm_ltL (h := 59) (mm_nle c29) rx6_3_26 mm_k60 (by decide)
        refine lv_aload_n hx hb dJ7_fill_d0a16_12 rfl (lv_at hl 2 rfl) ?_
        refine lv_iload_n hx hb dJ7_fill_d0a16_13 rfl (lv_at hl 1 rfl) ?_
        refine lv_lload_n hx hb dJ7_fill_d0a16_14 rfl (lv_at hl 3 rfl) ?_
        refine va_last hx hb hK.1 hP hD hS 0 2 rfl rfl (mm_in q31 (by decide)) dJ7_fill_d0a16_15 ?_
        clear hP hD hS
        clear H locs
        obtain ⟨g32, eg32⟩ : ∃ z : Nat → Int64, z = vp_updL z6_0_27 x6_3_26.toNatClampNeg 0 := ⟨_, rfl⟩
        rw [← eg32]
        intro H locs (hP : va_P G vwCl [(a_0, .inl (cy 2, 60, .inr (.inl g32)))] H) (hD : va_D A [(a_0, .inl (cy 2, 60, .inr (.inl g32)))]) hS
        obtain ⟨v33, ev33⟩ : ∃ y : Int32, y = x6_3_26 + 1 := ⟨_, rfl⟩
        refine lv_iinc (v := v33) (lv' := [(3, .int v33), (4, .int 60), (0, .ref a_0), (1, .long 0)]) hx hb dJ7_fill_d0a16_16 hl (k := 1) rfl (by rw [ev33]; rfl) (by decide) rfl ?_
        clear hl
        clear ls
        intro ls hl
        have rv33 : mm_rg v33 1 60 := mm_add ev33 q31 mm_k1 (by decide) (by decide)
        have tv33 := mm_addE ev33 q31 mm_k1 (by decide)
        refine lv_goto (tgt := 6) hx hb dJ7_fill_d0a16_19 (by decide) ?_
        exact ih6 v33 g32 (mm_wk rv33 (by decide)) (mm_mu hm6 tv33 (by decide) (rv33).2 (by decide)) H locs hP hD hS ls (lv_sub hl [1, 0, 2, 3] rfl)
  exact L6_27 _ 0 (fun _ => 0) (mm_wk mm_k0 (by decide)) (Nat.lt_succ_self _) H locs hP hD hS ls (lv_sub hl [0, 1, 2, 3] rfl)

set_option maxHeartbeats 4000000 in
set_option maxRecDepth 100000 in
theorem K305_X6_begin (l : Launch) (G : va_G) (cy : Nat → ClassId) (sz : Nat) (a_0 : Nat) (i_0 : Int32) (i_1 : Int32) (a_82 : Nat) (h0 : mm_rg i_0 0 3) (h1 : mm_rg i_1 0 60)  : mm_CV l yX6_begin (mm_ws yX6_begin cX6_begin 3 (none)) ({ frames := 1, cells := 0, slots := 0, locals := 40 } : Room) G cy sz [(a_0, .inr (6, [.int 0, .int 0, .int 0, .ref a_82])), (a_82, .inl (cy 2, 60, .inr (.inl (fun _ => 0))))] [.ref a_0, .int i_0, .int i_1] (fun u : Int32 × (Nat → Int64) => [(a_0, .inr (6, [.int 1, .int i_0, .int u.1, .ref a_82])), (a_82, .inl (cy 2, 60, .inr (.inl u.2)))]) (fun u : Int32 × (Nat → Int64) => mm_rg u.1 0 60) 0 0 := by
  refine mm_begin (lv := [(0, .ref a_0), (1, .int i_0), (2, .int i_1)]) (by decide) (Nat.le_of_ble_eq_true rfl) rfl ?_
  intro p e s m below meth c A ls R args Q H locs hRe hQ hAe hx hb hr hlocks hml hown hnm hts hsz hA hS hP hK hD hl
  have hRf : R.frames = 1 := by rw [hRe]
  have hRl : R.locals = 40 := by rw [hRe]
  have hRc : R.cells = 0 := by rw [hRe]
  have hRs : R.slots = 0 := by rw [hRe]
  refine lv_aload_n hx hb dX6_begin_0 rfl (lv_at hl 0 rfl) ?_
  refine lv_iconst (v := 1) hx hb dX6_begin_1 (by decide) ?_
  refine va_put (D := G) (ci := 6) (v := .int 1) (ty := tyX6 0) (C := RX6) (T := TX6) (N := 4) hx hb hts (mm_i inlX6) tyX6 tyX6_ok nmX6 hown hK.1 hP hD hS 0 rfl rfl 0 (by decide) (mm_h hts mm_w1681) (fun _ h9 => h9) rfl (tyX6_ok 0 (by decide)) rfl rfl (Nat.le_of_ble_eq_true rfl) dX6_begin_2 ?_
  clear hP hD hS
  clear H locs
  intro H locs (hP : va_P G vwCl [(a_0, .inr (6, [.int 1, .int 0, .int 0, .ref a_82])), (a_82, .inl (cy 2, 60, .inr (.inl (fun _ => 0))))] H) (hD : va_D A [(a_0, .inr (6, [.int 1, .int 0, .int 0, .ref a_82])), (a_82, .inl (cy 2, 60, .inr (.inl (fun _ => 0))))]) hS
  refine lv_aload_n hx hb dX6_begin_5 rfl (lv_at hl 0 rfl) ?_
  refine lv_iload_n hx hb dX6_begin_6 rfl (lv_at hl 1 rfl) ?_
  refine va_put (D := G) (ci := 6) (v := .int i_0) (ty := tyX6 1) (C := RX6) (T := TX6) (N := 4) hx hb hts (mm_i inlX6) tyX6 tyX6_ok nmX6 hown hK.1 hP hD hS 0 rfl rfl 1 (by decide) (mm_h hts mm_w1682) (fun _ h9 => h9) rfl (tyX6_ok 1 (by decide)) rfl rfl (Nat.le_of_ble_eq_true rfl) dX6_begin_7 ?_
  clear hP hD hS
  clear H locs
  intro H locs (hP : va_P G vwCl [(a_0, .inr (6, [.int 1, .int i_0, .int 0, .ref a_82])), (a_82, .inl (cy 2, 60, .inr (.inl (fun _ => 0))))] H) (hD : va_D A [(a_0, .inr (6, [.int 1, .int i_0, .int 0, .ref a_82])), (a_82, .inl (cy 2, 60, .inr (.inl (fun _ => 0))))]) hS
  refine lv_aload_n hx hb dX6_begin_10 rfl (lv_at hl 0 rfl) ?_
  refine lv_iload_n hx hb dX6_begin_11 rfl (lv_at hl 2 rfl) ?_
  refine lv_bipush (v := 60) hx hb dX6_begin_12 (by decide) ?_
  refine va_mmin hx hb (by rw [hml]; exact hl.1.symm) hown (mm_h hts mm_w1683) (mm_h hts mm_w385) (mm_h hts mm_w346) (mm_h hts mm_w386) (by rw [hRf]; exact Nat.le_of_ble_eq_true rfl) (by rw [hRl]; exact Nat.le_of_ble_eq_true rfl) (by rw [hRc]; exact Nat.le_of_ble_eq_true rfl) (by rw [hRs]; exact Nat.le_of_ble_eq_true rfl) dX6_begin_14 ?_
  refine lv_topi (fun v1 ev1 => ?_)
  have rv1 : mm_rg v1 0 60 := mm_min ev1 h1 mm_k60 (by decide)
  refine va_put (D := G) (ci := 6) (v := .int v1) (ty := tyX6 2) (C := RX6) (T := TX6) (N := 4) hx hb hts (mm_i inlX6) tyX6 tyX6_ok nmX6 hown hK.1 hP hD hS 0 rfl rfl 2 (by decide) (mm_h hts mm_w1684) (fun _ h9 => h9) rfl (tyX6_ok 2 (by decide)) rfl rfl (Nat.le_of_ble_eq_true rfl) dX6_begin_17 ?_
  clear hP hD hS
  clear H locs
  intro H locs (hP : va_P G vwCl [(a_0, .inr (6, [.int 1, .int i_0, .int v1, .ref a_82])), (a_82, .inl (cy 2, 60, .inr (.inl (fun _ => 0))))] H) (hD : va_D A [(a_0, .inr (6, [.int 1, .int i_0, .int v1, .ref a_82])), (a_82, .inl (cy 2, 60, .inr (.inl (fun _ => 0))))]) hS
  refine lv_aload_n hx hb dX6_begin_20 rfl (lv_at hl 0 rfl) ?_
  refine va_get (D := G) (ci := 6) (v := .ref a_82) (C := RX6) (T := TX6) (N := 4) hx hb hts (mm_i inlX6) hown hK.1 hP 0 rfl rfl 3 (by decide) (mm_h hts mm_w104) (fun _ h9 => h9) rfl dX6_begin_21 ?_
  refine lv_lconst (v := 0) hx hb dX6_begin_24 (by decide) ?_
  refine mm_finv (va_runS (As := [.ref a_82, .long 0]) (rest := []) ⟨hx, hb, hml, hown, hts⟩ (K304_J7_fill_d0a16 l G cy H.size a_82 ) (va_cwS 2 hts (mm_gS mm_w1685 mm_w1505 mm_w225 mm_w1506) rfl rfl rfl hs_J7_fill_d0a16 ⟨by rw [hRf]; exact Nat.le_of_ble_eq_true rfl, by rw [hRl]; exact Nat.le_of_ble_eq_true rfl⟩) (mm_preS hK hP hD [1] rfl rfl) rfl rfl hl.1 rfl (lv_room (Nat.le_of_ble_eq_true rfl)) dX6_begin_25 ⟨by rw [hRc]; exact Nat.le_of_ble_eq_true rfl, by rw [hRs]; exact Nat.le_of_ble_eq_true rfl⟩) hP hD hS hA (fun u : (Nat → Int64) => [(a_0, .inr (6, [.int 1, .int i_0, .int v1, .ref a_82])), (a_82, .inl (cy 2, 60, .inr (.inl u)))]) [1] [0] (n := 2) (fun _ => rfl) (by decide +kernel) (by decide +kernel) rfl (fun _ => rfl) (wr := [(a_0, .inr (6, [.int 1, .int i_0, .int v1, .ref a_82]))]) rfl (fun _ => rfl) (fun _ => rfl) ?_
  clear hP hD hS
  clear H locs
  intro n2 H locs hw (hP : va_P G vwCl [(a_0, .inr (6, [.int 1, .int i_0, .int v1, .ref a_82])), (a_82, .inl (cy 2, 60, .inr (.inl n2)))] H) (hD : va_D A [(a_0, .inr (6, [.int 1, .int i_0, .int v1, .ref a_82])), (a_82, .inl (cy 2, 60, .inr (.inl n2)))]) hS
  subst hAe
  rw [hQ]
  exact W.vret hx hb hr (fun t ht hW => ⟨⟨(v1, n2), rfl, rv1, by rw [ht]; exact hP, hK.warm hW, hD⟩, hS.F ht⟩) hS.2.2 dX6_begin_28

set_option maxHeartbeats 4000000 in
set_option maxRecDepth 100000 in
theorem K306_X6_begin (l : Launch) (G : va_G) (cy : Nat → ClassId) (sz : Nat) (a_0 : Nat) (i_0 : Int32) (i_1 : Int32) (a_83 : Nat) (h0 : mm_rg i_0 0 3) (h1 : mm_rg i_1 0 60)  : mm_CV l yX6_begin (mm_ws yX6_begin cX6_begin 3 (none)) ({ frames := 1, cells := 0, slots := 0, locals := 40 } : Room) G cy sz [(a_0, .inr (6, [.int 0, .int 0, .int 0, .ref a_83])), (a_83, .inl (cy 2, 60, .inr (.inl (fun _ => 0))))] [.ref a_0, .int i_0, .int i_1] (fun u : Int32 × (Nat → Int64) => [(a_0, .inr (6, [.int 1, .int i_0, .int u.1, .ref a_83])), (a_83, .inl (cy 2, 60, .inr (.inl u.2)))]) (fun u : Int32 × (Nat → Int64) => mm_rg u.1 0 60) 0 0 := by
  refine mm_begin (lv := [(0, .ref a_0), (1, .int i_0), (2, .int i_1)]) (by decide) (Nat.le_of_ble_eq_true rfl) rfl ?_
  intro p e s m below meth c A ls R args Q H locs hRe hQ hAe hx hb hr hlocks hml hown hnm hts hsz hA hS hP hK hD hl
  have hRf : R.frames = 1 := by rw [hRe]
  have hRl : R.locals = 40 := by rw [hRe]
  have hRc : R.cells = 0 := by rw [hRe]
  have hRs : R.slots = 0 := by rw [hRe]
  refine lv_aload_n hx hb dX6_begin_0 rfl (lv_at hl 0 rfl) ?_
  refine lv_iconst (v := 1) hx hb dX6_begin_1 (by decide) ?_
  refine va_put (D := G) (ci := 6) (v := .int 1) (ty := tyX6 0) (C := RX6) (T := TX6) (N := 4) hx hb hts (mm_i inlX6) tyX6 tyX6_ok nmX6 hown hK.1 hP hD hS 0 rfl rfl 0 (by decide) (mm_h hts mm_w1681) (fun _ h9 => h9) rfl (tyX6_ok 0 (by decide)) rfl rfl (Nat.le_of_ble_eq_true rfl) dX6_begin_2 ?_
  clear hP hD hS
  clear H locs
  intro H locs (hP : va_P G vwCl [(a_0, .inr (6, [.int 1, .int 0, .int 0, .ref a_83])), (a_83, .inl (cy 2, 60, .inr (.inl (fun _ => 0))))] H) (hD : va_D A [(a_0, .inr (6, [.int 1, .int 0, .int 0, .ref a_83])), (a_83, .inl (cy 2, 60, .inr (.inl (fun _ => 0))))]) hS
  refine lv_aload_n hx hb dX6_begin_5 rfl (lv_at hl 0 rfl) ?_
  refine lv_iload_n hx hb dX6_begin_6 rfl (lv_at hl 1 rfl) ?_
  refine va_put (D := G) (ci := 6) (v := .int i_0) (ty := tyX6 1) (C := RX6) (T := TX6) (N := 4) hx hb hts (mm_i inlX6) tyX6 tyX6_ok nmX6 hown hK.1 hP hD hS 0 rfl rfl 1 (by decide) (mm_h hts mm_w1682) (fun _ h9 => h9) rfl (tyX6_ok 1 (by decide)) rfl rfl (Nat.le_of_ble_eq_true rfl) dX6_begin_7 ?_
  clear hP hD hS
  clear H locs
  intro H locs (hP : va_P G vwCl [(a_0, .inr (6, [.int 1, .int i_0, .int 0, .ref a_83])), (a_83, .inl (cy 2, 60, .inr (.inl (fun _ => 0))))] H) (hD : va_D A [(a_0, .inr (6, [.int 1, .int i_0, .int 0, .ref a_83])), (a_83, .inl (cy 2, 60, .inr (.inl (fun _ => 0))))]) hS
  refine lv_aload_n hx hb dX6_begin_10 rfl (lv_at hl 0 rfl) ?_
  refine lv_iload_n hx hb dX6_begin_11 rfl (lv_at hl 2 rfl) ?_
  refine lv_bipush (v := 60) hx hb dX6_begin_12 (by decide) ?_
  refine va_mmin hx hb (by rw [hml]; exact hl.1.symm) hown (mm_h hts mm_w1683) (mm_h hts mm_w385) (mm_h hts mm_w346) (mm_h hts mm_w386) (by rw [hRf]; exact Nat.le_of_ble_eq_true rfl) (by rw [hRl]; exact Nat.le_of_ble_eq_true rfl) (by rw [hRc]; exact Nat.le_of_ble_eq_true rfl) (by rw [hRs]; exact Nat.le_of_ble_eq_true rfl) dX6_begin_14 ?_
  refine lv_topi (fun v1 ev1 => ?_)
  have rv1 : mm_rg v1 0 60 := mm_min ev1 h1 mm_k60 (by decide)
  refine va_put (D := G) (ci := 6) (v := .int v1) (ty := tyX6 2) (C := RX6) (T := TX6) (N := 4) hx hb hts (mm_i inlX6) tyX6 tyX6_ok nmX6 hown hK.1 hP hD hS 0 rfl rfl 2 (by decide) (mm_h hts mm_w1684) (fun _ h9 => h9) rfl (tyX6_ok 2 (by decide)) rfl rfl (Nat.le_of_ble_eq_true rfl) dX6_begin_17 ?_
  clear hP hD hS
  clear H locs
  intro H locs (hP : va_P G vwCl [(a_0, .inr (6, [.int 1, .int i_0, .int v1, .ref a_83])), (a_83, .inl (cy 2, 60, .inr (.inl (fun _ => 0))))] H) (hD : va_D A [(a_0, .inr (6, [.int 1, .int i_0, .int v1, .ref a_83])), (a_83, .inl (cy 2, 60, .inr (.inl (fun _ => 0))))]) hS
  refine lv_aload_n hx hb dX6_begin_20 rfl (lv_at hl 0 rfl) ?_
  refine va_get (D := G) (ci := 6) (v := .ref a_83) (C := RX6) (T := TX6) (N := 4) hx hb hts (mm_i inlX6) hown hK.1 hP 0 rfl rfl 3 (by decide) (mm_h hts mm_w104) (fun _ h9 => h9) rfl dX6_begin_21 ?_
  refine lv_lconst (v := 0) hx hb dX6_begin_24 (by decide) ?_
  refine mm_finv (va_runS (As := [.ref a_83, .long 0]) (rest := []) ⟨hx, hb, hml, hown, hts⟩ (K304_J7_fill_d0a16 l G cy H.size a_83 ) (va_cwS 2 hts (mm_gS mm_w1685 mm_w1505 mm_w225 mm_w1506) rfl rfl rfl hs_J7_fill_d0a16 ⟨by rw [hRf]; exact Nat.le_of_ble_eq_true rfl, by rw [hRl]; exact Nat.le_of_ble_eq_true rfl⟩) (mm_preS hK hP hD [1] rfl rfl) rfl rfl hl.1 rfl (lv_room (Nat.le_of_ble_eq_true rfl)) dX6_begin_25 ⟨by rw [hRc]; exact Nat.le_of_ble_eq_true rfl, by rw [hRs]; exact Nat.le_of_ble_eq_true rfl⟩) hP hD hS hA (fun u : (Nat → Int64) => [(a_0, .inr (6, [.int 1, .int i_0, .int v1, .ref a_83])), (a_83, .inl (cy 2, 60, .inr (.inl u)))]) [1] [0] (n := 2) (fun _ => rfl) (by decide +kernel) (by decide +kernel) rfl (fun _ => rfl) (wr := [(a_0, .inr (6, [.int 1, .int i_0, .int v1, .ref a_83]))]) rfl (fun _ => rfl) (fun _ => rfl) ?_
  clear hP hD hS
  clear H locs
  intro n2 H locs hw (hP : va_P G vwCl [(a_0, .inr (6, [.int 1, .int i_0, .int v1, .ref a_83])), (a_83, .inl (cy 2, 60, .inr (.inl n2)))] H) (hD : va_D A [(a_0, .inr (6, [.int 1, .int i_0, .int v1, .ref a_83])), (a_83, .inl (cy 2, 60, .inr (.inl n2)))]) hS
  subst hAe
  rw [hQ]
  exact W.vret hx hb hr (fun t ht hW => ⟨⟨(v1, n2), rfl, rv1, by rw [ht]; exact hP, hK.warm hW, hD⟩, hS.F ht⟩) hS.2.2 dX6_begin_28

set_option maxHeartbeats 4000000 in
set_option maxRecDepth 100000 in
theorem K307_X6_begin (l : Launch) (G : va_G) (cy : Nat → ClassId) (sz : Nat) (a_0 : Nat) (i_0 : Int32) (i_1 : Int32) (a_84 : Nat) (h0 : mm_rg i_0 0 3) (h1 : mm_rg i_1 0 60)  : mm_CV l yX6_begin (mm_ws yX6_begin cX6_begin 3 (none)) ({ frames := 1, cells := 0, slots := 0, locals := 40 } : Room) G cy sz [(a_0, .inr (6, [.int 0, .int 0, .int 0, .ref a_84])), (a_84, .inl (cy 2, 60, .inr (.inl (fun _ => 0))))] [.ref a_0, .int i_0, .int i_1] (fun u : Int32 × (Nat → Int64) => [(a_0, .inr (6, [.int 1, .int i_0, .int u.1, .ref a_84])), (a_84, .inl (cy 2, 60, .inr (.inl u.2)))]) (fun u : Int32 × (Nat → Int64) => mm_rg u.1 0 60) 0 0 := by
  refine mm_begin (lv := [(0, .ref a_0), (1, .int i_0), (2, .int i_1)]) (by decide) (Nat.le_of_ble_eq_true rfl) rfl ?_
  intro p e s m below meth c A ls R args Q H locs hRe hQ hAe hx hb hr hlocks hml hown hnm hts hsz hA hS hP hK hD hl
  have hRf : R.frames = 1 := by rw [hRe]
  have hRl : R.locals = 40 := by rw [hRe]
  have hRc : R.cells = 0 := by rw [hRe]
  have hRs : R.slots = 0 := by rw [hRe]
  refine lv_aload_n hx hb dX6_begin_0 rfl (lv_at hl 0 rfl) ?_
  refine lv_iconst (v := 1) hx hb dX6_begin_1 (by decide) ?_
  refine va_put (D := G) (ci := 6) (v := .int 1) (ty := tyX6 0) (C := RX6) (T := TX6) (N := 4) hx hb hts (mm_i inlX6) tyX6 tyX6_ok nmX6 hown hK.1 hP hD hS 0 rfl rfl 0 (by decide) (mm_h hts mm_w1681) (fun _ h9 => h9) rfl (tyX6_ok 0 (by decide)) rfl rfl (Nat.le_of_ble_eq_true rfl) dX6_begin_2 ?_
  clear hP hD hS
  clear H locs
  intro H locs (hP : va_P G vwCl [(a_0, .inr (6, [.int 1, .int 0, .int 0, .ref a_84])), (a_84, .inl (cy 2, 60, .inr (.inl (fun _ => 0))))] H) (hD : va_D A [(a_0, .inr (6, [.int 1, .int 0, .int 0, .ref a_84])), (a_84, .inl (cy 2, 60, .inr (.inl (fun _ => 0))))]) hS
  refine lv_aload_n hx hb dX6_begin_5 rfl (lv_at hl 0 rfl) ?_
  refine lv_iload_n hx hb dX6_begin_6 rfl (lv_at hl 1 rfl) ?_
  refine va_put (D := G) (ci := 6) (v := .int i_0) (ty := tyX6 1) (C := RX6) (T := TX6) (N := 4) hx hb hts (mm_i inlX6) tyX6 tyX6_ok nmX6 hown hK.1 hP hD hS 0 rfl rfl 1 (by decide) (mm_h hts mm_w1682) (fun _ h9 => h9) rfl (tyX6_ok 1 (by decide)) rfl rfl (Nat.le_of_ble_eq_true rfl) dX6_begin_7 ?_
  clear hP hD hS
  clear H locs
  intro H locs (hP : va_P G vwCl [(a_0, .inr (6, [.int 1, .int i_0, .int 0, .ref a_84])), (a_84, .inl (cy 2, 60, .inr (.inl (fun _ => 0))))] H) (hD : va_D A [(a_0, .inr (6, [.int 1, .int i_0, .int 0, .ref a_84])), (a_84, .inl (cy 2, 60, .inr (.inl (fun _ => 0))))]) hS
  refine lv_aload_n hx hb dX6_begin_10 rfl (lv_at hl 0 rfl) ?_
  refine lv_iload_n hx hb dX6_begin_11 rfl (lv_at hl 2 rfl) ?_
  refine lv_bipush (v := 60) hx hb dX6_begin_12 (by decide) ?_
  refine va_mmin hx hb (by rw [hml]; exact hl.1.symm) hown (mm_h hts mm_w1683) (mm_h hts mm_w385) (mm_h hts mm_w346) (mm_h hts mm_w386) (by rw [hRf]; exact Nat.le_of_ble_eq_true rfl) (by rw [hRl]; exact Nat.le_of_ble_eq_true rfl) (by rw [hRc]; exact Nat.le_of_ble_eq_true rfl) (by rw [hRs]; exact Nat.le_of_ble_eq_true rfl) dX6_begin_14 ?_
  refine lv_topi (fun v1 ev1 => ?_)
  have rv1 : mm_rg v1 0 60 := mm_min ev1 h1 mm_k60 (by decide)
  refine va_put (D := G) (ci := 6) (v := .int v1) (ty := tyX6 2) (C := RX6) (T := TX6) (N := 4) hx hb hts (mm_i inlX6) tyX6 tyX6_ok nmX6 hown hK.1 hP hD hS 0 rfl rfl 2 (by decide) (mm_h hts mm_w1684) (fun _ h9 => h9) rfl (tyX6_ok 2 (by decide)) rfl rfl (Nat.le_of_ble_eq_true rfl) dX6_begin_17 ?_
  clear hP hD hS
  clear H locs
  intro H locs (hP : va_P G vwCl [(a_0, .inr (6, [.int 1, .int i_0, .int v1, .ref a_84])), (a_84, .inl (cy 2, 60, .inr (.inl (fun _ => 0))))] H) (hD : va_D A [(a_0, .inr (6, [.int 1, .int i_0, .int v1, .ref a_84])), (a_84, .inl (cy 2, 60, .inr (.inl (fun _ => 0))))]) hS
  refine lv_aload_n hx hb dX6_begin_20 rfl (lv_at hl 0 rfl) ?_
  refine va_get (D := G) (ci := 6) (v := .ref a_84) (C := RX6) (T := TX6) (N := 4) hx hb hts (mm_i inlX6) hown hK.1 hP 0 rfl rfl 3 (by decide) (mm_h hts mm_w104) (fun _ h9 => h9) rfl dX6_begin_21 ?_
  refine lv_lconst (v := 0) hx hb dX6_begin_24 (by decide) ?_
  refine mm_finv (va_runS (As := [.ref a_84, .long 0]) (rest := []) ⟨hx, hb, hml, hown, hts⟩ (K304_J7_fill_d0a16 l G cy H.size a_84 ) (va_cwS 2 hts (mm_gS mm_w1685 mm_w1505 mm_w225 mm_w1506) rfl rfl rfl hs_J7_fill_d0a16 ⟨by rw [hRf]; exact Nat.le_of_ble_eq_true rfl, by rw [hRl]; exact Nat.le_of_ble_eq_true rfl⟩) (mm_preS hK hP hD [1] rfl rfl) rfl rfl hl.1 rfl (lv_room (Nat.le_of_ble_eq_true rfl)) dX6_begin_25 ⟨by rw [hRc]; exact Nat.le_of_ble_eq_true rfl, by rw [hRs]; exact Nat.le_of_ble_eq_true rfl⟩) hP hD hS hA (fun u : (Nat → Int64) => [(a_0, .inr (6, [.int 1, .int i_0, .int v1, .ref a_84])), (a_84, .inl (cy 2, 60, .inr (.inl u)))]) [1] [0] (n := 2) (fun _ => rfl) (by decide +kernel) (by decide +kernel) rfl (fun _ => rfl) (wr := [(a_0, .inr (6, [.int 1, .int i_0, .int v1, .ref a_84]))]) rfl (fun _ => rfl) (fun _ => rfl) ?_
  clear hP hD hS
  clear H locs
  intro n2 H locs hw (hP : va_P G vwCl [(a_0, .inr (6, [.int 1, .int i_0, .int v1, .ref a_84])), (a_84, .inl (cy 2, 60, .inr (.inl n2)))] H) (hD : va_D A [(a_0, .inr (6, [.int 1, .int i_0, .int v1, .ref a_84])), (a_84, .inl (cy 2, 60, .inr (.inl n2)))]) hS
  subst hAe
  rw [hQ]
  exact W.vret hx hb hr (fun t ht hW => ⟨⟨(v1, n2), rfl, rv1, by rw [ht]; exact hP, hK.warm hW, hD⟩, hS.F ht⟩) hS.2.2 dX6_begin_28

set_option maxHeartbeats 4000000 in
set_option maxRecDepth 100000 in
theorem K308_X6_begin (l : Launch) (G : va_G) (cy : Nat → ClassId) (sz : Nat) (a_0 : Nat) (i_0 : Int32) (i_1 : Int32) (a_85 : Nat) (h0 : mm_rg i_0 0 3) (h1 : mm_rg i_1 0 60)  : mm_CV l yX6_begin (mm_ws yX6_begin cX6_begin 3 (none)) ({ frames := 1, cells := 0, slots := 0, locals := 40 } : Room) G cy sz [(a_0, .inr (6, [.int 0, .int 0, .int 0, .ref a_85])), (a_85, .inl (cy 2, 60, .inr (.inl (fun _ => 0))))] [.ref a_0, .int i_0, .int i_1] (fun u : Int32 × (Nat → Int64) => [(a_0, .inr (6, [.int 1, .int i_0, .int u.1, .ref a_85])), (a_85, .inl (cy 2, 60, .inr (.inl u.2)))]) (fun u : Int32 × (Nat → Int64) => mm_rg u.1 0 60) 0 0 := by
  refine mm_begin (lv := [(0, .ref a_0), (1, .int i_0), (2, .int i_1)]) (by decide) (Nat.le_of_ble_eq_true rfl) rfl ?_
  intro p e s m below meth c A ls R args Q H locs hRe hQ hAe hx hb hr hlocks hml hown hnm hts hsz hA hS hP hK hD hl
  have hRf : R.frames = 1 := by rw [hRe]
  have hRl : R.locals = 40 := by rw [hRe]
  have hRc : R.cells = 0 := by rw [hRe]
  have hRs : R.slots = 0 := by rw [hRe]
  refine lv_aload_n hx hb dX6_begin_0 rfl (lv_at hl 0 rfl) ?_
  refine lv_iconst (v := 1) hx hb dX6_begin_1 (by decide) ?_
  refine va_put (D := G) (ci := 6) (v := .int 1) (ty := tyX6 0) (C := RX6) (T := TX6) (N := 4) hx hb hts (mm_i inlX6) tyX6 tyX6_ok nmX6 hown hK.1 hP hD hS 0 rfl rfl 0 (by decide) (mm_h hts mm_w1681) (fun _ h9 => h9) rfl (tyX6_ok 0 (by decide)) rfl rfl (Nat.le_of_ble_eq_true rfl) dX6_begin_2 ?_
  clear hP hD hS
  clear H locs
  intro H locs (hP : va_P G vwCl [(a_0, .inr (6, [.int 1, .int 0, .int 0, .ref a_85])), (a_85, .inl (cy 2, 60, .inr (.inl (fun _ => 0))))] H) (hD : va_D A [(a_0, .inr (6, [.int 1, .int 0, .int 0, .ref a_85])), (a_85, .inl (cy 2, 60, .inr (.inl (fun _ => 0))))]) hS
  refine lv_aload_n hx hb dX6_begin_5 rfl (lv_at hl 0 rfl) ?_
  refine lv_iload_n hx hb dX6_begin_6 rfl (lv_at hl 1 rfl) ?_
  refine va_put (D := G) (ci := 6) (v := .int i_0) (ty := tyX6 1) (C := RX6) (T := TX6) (N := 4) hx hb hts (mm_i inlX6) tyX6 tyX6_ok nmX6 hown hK.1 hP hD hS 0 rfl rfl 1 (by decide) (mm_h hts mm_w1682) (fun _ h9 => h9) rfl (tyX6_ok 1 (by decide)) rfl rfl (Nat.le_of_ble_eq_true rfl) dX6_begin_7 ?_
  clear hP hD hS
  clear H locs
  intro H locs (hP : va_P G vwCl [(a_0, .inr (6, [.int 1, .int i_0, .int 0, .ref a_85])), (a_85, .inl (cy 2, 60, .inr (.inl (fun _ => 0))))] H) (hD : va_D A [(a_0, .inr (6, [.int 1, .int i_0, .int 0, .ref a_85])), (a_85, .inl (cy 2, 60, .inr (.inl (fun _ => 0))))]) hS
  refine lv_aload_n hx hb dX6_begin_10 rfl (lv_at hl 0 rfl) ?_
  refine lv_iload_n hx hb dX6_begin_11 rfl (lv_at hl 2 rfl) ?_
  refine lv_bipush (v := 60) hx hb dX6_begin_12 (by decide) ?_
  refine va_mmin hx hb (by rw [hml]; exact hl.1.symm) hown (mm_h hts mm_w1683) (mm_h hts mm_w385) (mm_h hts mm_w346) (mm_h hts mm_w386) (by rw [hRf]; exact Nat.le_of_ble_eq_true rfl) (by rw [hRl]; exact Nat.le_of_ble_eq_true rfl) (by rw [hRc]; exact Nat.le_of_ble_eq_true rfl) (by rw [hRs]; exact Nat.le_of_ble_eq_true rfl) dX6_begin_14 ?_
  refine lv_topi (fun v1 ev1 => ?_)
  have rv1 : mm_rg v1 0 60 := mm_min ev1 h1 mm_k60 (by decide)
  refine va_put (D := G) (ci := 6) (v := .int v1) (ty := tyX6 2) (C := RX6) (T := TX6) (N := 4) hx hb hts (mm_i inlX6) tyX6 tyX6_ok nmX6 hown hK.1 hP hD hS 0 rfl rfl 2 (by decide) (mm_h hts mm_w1684) (fun _ h9 => h9) rfl (tyX6_ok 2 (by decide)) rfl rfl (Nat.le_of_ble_eq_true rfl) dX6_begin_17 ?_
  clear hP hD hS
  clear H locs
  intro H locs (hP : va_P G vwCl [(a_0, .inr (6, [.int 1, .int i_0, .int v1, .ref a_85])), (a_85, .inl (cy 2, 60, .inr (.inl (fun _ => 0))))] H) (hD : va_D A [(a_0, .inr (6, [.int 1, .int i_0, .int v1, .ref a_85])), (a_85, .inl (cy 2, 60, .inr (.inl (fun _ => 0))))]) hS
  refine lv_aload_n hx hb dX6_begin_20 rfl (lv_at hl 0 rfl) ?_
  refine va_get (D := G) (ci := 6) (v := .ref a_85) (C := RX6) (T := TX6) (N := 4) hx hb hts (mm_i inlX6) hown hK.1 hP 0 rfl rfl 3 (by decide) (mm_h hts mm_w104) (fun _ h9 => h9) rfl dX6_begin_21 ?_
  refine lv_lconst (v := 0) hx hb dX6_begin_24 (by decide) ?_
  refine mm_finv (va_runS (As := [.ref a_85, .long 0]) (rest := []) ⟨hx, hb, hml, hown, hts⟩ (K304_J7_fill_d0a16 l G cy H.size a_85 ) (va_cwS 2 hts (mm_gS mm_w1685 mm_w1505 mm_w225 mm_w1506) rfl rfl rfl hs_J7_fill_d0a16 ⟨by rw [hRf]; exact Nat.le_of_ble_eq_true rfl, by rw [hRl]; exact Nat.le_of_ble_eq_true rfl⟩) (mm_preS hK hP hD [1] rfl rfl) rfl rfl hl.1 rfl (lv_room (Nat.le_of_ble_eq_true rfl)) dX6_begin_25 ⟨by rw [hRc]; exact Nat.le_of_ble_eq_true rfl, by rw [hRs]; exact Nat.le_of_ble_eq_true rfl⟩) hP hD hS hA (fun u : (Nat → Int64) => [(a_0, .inr (6, [.int 1, .int i_0, .int v1, .ref a_85])), (a_85, .inl (cy 2, 60, .inr (.inl u)))]) [1] [0] (n := 2) (fun _ => rfl) (by decide +kernel) (by decide +kernel) rfl (fun _ => rfl) (wr := [(a_0, .inr (6, [.int 1, .int i_0, .int v1, .ref a_85]))]) rfl (fun _ => rfl) (fun _ => rfl) ?_
  clear hP hD hS
  clear H locs
  intro n2 H locs hw (hP : va_P G vwCl [(a_0, .inr (6, [.int 1, .int i_0, .int v1, .ref a_85])), (a_85, .inl (cy 2, 60, .inr (.inl n2)))] H) (hD : va_D A [(a_0, .inr (6, [.int 1, .int i_0, .int v1, .ref a_85])), (a_85, .inl (cy 2, 60, .inr (.inl n2)))]) hS
  subst hAe
  rw [hQ]
  exact W.vret hx hb hr (fun t ht hW => ⟨⟨(v1, n2), rfl, rv1, by rw [ht]; exact hP, hK.warm hW, hD⟩, hS.F ht⟩) hS.2.2 dX6_begin_28

set_option maxHeartbeats 4000000 in
set_option maxRecDepth 100000 in
theorem K310_X6_begin (l : Launch) (G : va_G) (cy : Nat → ClassId) (sz : Nat) (a_0 : Nat) (i_0 : Int32) (i_1 : Int32) (a_16 : Nat) (h0 : mm_rg i_0 0 3) (h1 : mm_rg i_1 0 60)  : mm_CV l yX6_begin (mm_ws yX6_begin cX6_begin 3 (none)) ({ frames := 1, cells := 0, slots := 0, locals := 40 } : Room) G cy sz [(a_0, .inr (6, [.int 0, .int 0, .int 0, .ref a_16])), (a_16, .inl (cy 2, 60, .inr (.inl (fun _ => 0))))] [.ref a_0, .int i_0, .int i_1] (fun u : Int32 × (Nat → Int64) => [(a_0, .inr (6, [.int 1, .int i_0, .int u.1, .ref a_16])), (a_16, .inl (cy 2, 60, .inr (.inl u.2)))]) (fun u : Int32 × (Nat → Int64) => mm_rg u.1 0 60) 0 0 := by
  refine mm_begin (lv := [(0, .ref a_0), (1, .int i_0), (2, .int i_1)]) (by decide) (Nat.le_of_ble_eq_true rfl) rfl ?_
  intro p e s m below meth c A ls R args Q H locs hRe hQ hAe hx hb hr hlocks hml hown hnm hts hsz hA hS hP hK hD hl
  have hRf : R.frames = 1 := by rw [hRe]
  have hRl : R.locals = 40 := by rw [hRe]
  have hRc : R.cells = 0 := by rw [hRe]
  have hRs : R.slots = 0 := by rw [hRe]
  refine lv_aload_n hx hb dX6_begin_0 rfl (lv_at hl 0 rfl) ?_
  refine lv_iconst (v := 1) hx hb dX6_begin_1 (by decide) ?_
  refine va_put (D := G) (ci := 6) (v := .int 1) (ty := tyX6 0) (C := RX6) (T := TX6) (N := 4) hx hb hts (mm_i inlX6) tyX6 tyX6_ok nmX6 hown hK.1 hP hD hS 0 rfl rfl 0 (by decide) (mm_h hts mm_w1681) (fun _ h9 => h9) rfl (tyX6_ok 0 (by decide)) rfl rfl (Nat.le_of_ble_eq_true rfl) dX6_begin_2 ?_
  clear hP hD hS
  clear H locs
  intro H locs (hP : va_P G vwCl [(a_0, .inr (6, [.int 1, .int 0, .int 0, .ref a_16])), (a_16, .inl (cy 2, 60, .inr (.inl (fun _ => 0))))] H) (hD : va_D A [(a_0, .inr (6, [.int 1, .int 0, .int 0, .ref a_16])), (a_16, .inl (cy 2, 60, .inr (.inl (fun _ => 0))))]) hS
  refine lv_aload_n hx hb dX6_begin_5 rfl (lv_at hl 0 rfl) ?_
  refine lv_iload_n hx hb dX6_begin_6 rfl (lv_at hl 1 rfl) ?_
  refine va_put (D := G) (ci := 6) (v := .int i_0) (ty := tyX6 1) (C := RX6) (T := TX6) (N := 4) hx hb hts (mm_i inlX6) tyX6 tyX6_ok nmX6 hown hK.1 hP hD hS 0 rfl rfl 1 (by decide) (mm_h hts mm_w1682) (fun _ h9 => h9) rfl (tyX6_ok 1 (by decide)) rfl rfl (Nat.le_of_ble_eq_true rfl) dX6_begin_7 ?_
  clear hP hD hS
  clear H locs
  intro H locs (hP : va_P G vwCl [(a_0, .inr (6, [.int 1, .int i_0, .int 0, .ref a_16])), (a_16, .inl (cy 2, 60, .inr (.inl (fun _ => 0))))] H) (hD : va_D A [(a_0, .inr (6, [.int 1, .int i_0, .int 0, .ref a_16])), (a_16, .inl (cy 2, 60, .inr (.inl (fun _ => 0))))]) hS
  refine lv_aload_n hx hb dX6_begin_10 rfl (lv_at hl 0 rfl) ?_
  refine lv_iload_n hx hb dX6_begin_11 rfl (lv_at hl 2 rfl) ?_
  refine lv_bipush (v := 60) hx hb dX6_begin_12 (by decide) ?_
  refine va_mmin hx hb (by rw [hml]; exact hl.1.symm) hown (mm_h hts mm_w1683) (mm_h hts mm_w385) (mm_h hts mm_w346) (mm_h hts mm_w386) (by rw [hRf]; exact Nat.le_of_ble_eq_true rfl) (by rw [hRl]; exact Nat.le_of_ble_eq_true rfl) (by rw [hRc]; exact Nat.le_of_ble_eq_true rfl) (by rw [hRs]; exact Nat.le_of_ble_eq_true rfl) dX6_begin_14 ?_
  refine lv_topi (fun v1 ev1 => ?_)
  have rv1 : mm_rg v1 0 60 := mm_min ev1 h1 mm_k60 (by decide)
  refine va_put (D := G) (ci := 6) (v := .int v1) (ty := tyX6 2) (C := RX6) (T := TX6) (N := 4) hx hb hts (mm_i inlX6) tyX6 tyX6_ok nmX6 hown hK.1 hP hD hS 0 rfl rfl 2 (by decide) (mm_h hts mm_w1684) (fun _ h9 => h9) rfl (tyX6_ok 2 (by decide)) rfl rfl (Nat.le_of_ble_eq_true rfl) dX6_begin_17 ?_
  clear hP hD hS
  clear H locs
  intro H locs (hP : va_P G vwCl [(a_0, .inr (6, [.int 1, .int i_0, .int v1, .ref a_16])), (a_16, .inl (cy 2, 60, .inr (.inl (fun _ => 0))))] H) (hD : va_D A [(a_0, .inr (6, [.int 1, .int i_0, .int v1, .ref a_16])), (a_16, .inl (cy 2, 60, .inr (.inl (fun _ => 0))))]) hS
  refine lv_aload_n hx hb dX6_begin_20 rfl (lv_at hl 0 rfl) ?_
  refine va_get (D := G) (ci := 6) (v := .ref a_16) (C := RX6) (T := TX6) (N := 4) hx hb hts (mm_i inlX6) hown hK.1 hP 0 rfl rfl 3 (by decide) (mm_h hts mm_w104) (fun _ h9 => h9) rfl dX6_begin_21 ?_
  refine lv_lconst (v := 0) hx hb dX6_begin_24 (by decide) ?_
  refine mm_finv (va_runS (As := [.ref a_16, .long 0]) (rest := []) ⟨hx, hb, hml, hown, hts⟩ (K304_J7_fill_d0a16 l G cy H.size a_16 ) (va_cwS 2 hts (mm_gS mm_w1685 mm_w1505 mm_w225 mm_w1506) rfl rfl rfl hs_J7_fill_d0a16 ⟨by rw [hRf]; exact Nat.le_of_ble_eq_true rfl, by rw [hRl]; exact Nat.le_of_ble_eq_true rfl⟩) (mm_preS hK hP hD [1] rfl rfl) rfl rfl hl.1 rfl (lv_room (Nat.le_of_ble_eq_true rfl)) dX6_begin_25 ⟨by rw [hRc]; exact Nat.le_of_ble_eq_true rfl, by rw [hRs]; exact Nat.le_of_ble_eq_true rfl⟩) hP hD hS hA (fun u : (Nat → Int64) => [(a_0, .inr (6, [.int 1, .int i_0, .int v1, .ref a_16])), (a_16, .inl (cy 2, 60, .inr (.inl u)))]) [1] [0] (n := 2) (fun _ => rfl) (by decide +kernel) (by decide +kernel) rfl (fun _ => rfl) (wr := [(a_0, .inr (6, [.int 1, .int i_0, .int v1, .ref a_16]))]) rfl (fun _ => rfl) (fun _ => rfl) ?_
  clear hP hD hS
  clear H locs
  intro n2 H locs hw (hP : va_P G vwCl [(a_0, .inr (6, [.int 1, .int i_0, .int v1, .ref a_16])), (a_16, .inl (cy 2, 60, .inr (.inl n2)))] H) (hD : va_D A [(a_0, .inr (6, [.int 1, .int i_0, .int v1, .ref a_16])), (a_16, .inl (cy 2, 60, .inr (.inl n2)))]) hS
  subst hAe
  rw [hQ]
  exact W.vret hx hb hr (fun t ht hW => ⟨⟨(v1, n2), rfl, rv1, by rw [ht]; exact hP, hK.warm hW, hD⟩, hS.F ht⟩) hS.2.2 dX6_begin_28

set_option maxHeartbeats 4000000 in
set_option maxRecDepth 100000 in
theorem K311_X6_begin (l : Launch) (G : va_G) (cy : Nat → ClassId) (sz : Nat) (a_0 : Nat) (i_0 : Int32) (i_1 : Int32) (a_17 : Nat) (h0 : mm_rg i_0 0 3) (h1 : mm_rg i_1 0 60)  : mm_CV l yX6_begin (mm_ws yX6_begin cX6_begin 3 (none)) ({ frames := 1, cells := 0, slots := 0, locals := 40 } : Room) G cy sz [(a_0, .inr (6, [.int 0, .int 0, .int 0, .ref a_17])), (a_17, .inl (cy 2, 60, .inr (.inl (fun _ => 0))))] [.ref a_0, .int i_0, .int i_1] (fun u : Int32 × (Nat → Int64) => [(a_0, .inr (6, [.int 1, .int i_0, .int u.1, .ref a_17])), (a_17, .inl (cy 2, 60, .inr (.inl u.2)))]) (fun u : Int32 × (Nat → Int64) => mm_rg u.1 0 60) 0 0 := by
  refine mm_begin (lv := [(0, .ref a_0), (1, .int i_0), (2, .int i_1)]) (by decide) (Nat.le_of_ble_eq_true rfl) rfl ?_
  intro p e s m below meth c A ls R args Q H locs hRe hQ hAe hx hb hr hlocks hml hown hnm hts hsz hA hS hP hK hD hl
  have hRf : R.frames = 1 := by rw [hRe]
  have hRl : R.locals = 40 := by rw [hRe]
  have hRc : R.cells = 0 := by rw [hRe]
  have hRs : R.slots = 0 := by rw [hRe]
  refine lv_aload_n hx hb dX6_begin_0 rfl (lv_at hl 0 rfl) ?_
  refine lv_iconst (v := 1) hx hb dX6_begin_1 (by decide) ?_
  refine va_put (D := G) (ci := 6) (v := .int 1) (ty := tyX6 0) (C := RX6) (T := TX6) (N := 4) hx hb hts (mm_i inlX6) tyX6 tyX6_ok nmX6 hown hK.1 hP hD hS 0 rfl rfl 0 (by decide) (mm_h hts mm_w1681) (fun _ h9 => h9) rfl (tyX6_ok 0 (by decide)) rfl rfl (Nat.le_of_ble_eq_true rfl) dX6_begin_2 ?_
  clear hP hD hS
  clear H locs
  intro H locs (hP : va_P G vwCl [(a_0, .inr (6, [.int 1, .int 0, .int 0, .ref a_17])), (a_17, .inl (cy 2, 60, .inr (.inl (fun _ => 0))))] H) (hD : va_D A [(a_0, .inr (6, [.int 1, .int 0, .int 0, .ref a_17])), (a_17, .inl (cy 2, 60, .inr (.inl (fun _ => 0))))]) hS
  refine lv_aload_n hx hb dX6_begin_5 rfl (lv_at hl 0 rfl) ?_
  refine lv_iload_n hx hb dX6_begin_6 rfl (lv_at hl 1 rfl) ?_
  refine va_put (D := G) (ci := 6) (v := .int i_0) (ty := tyX6 1) (C := RX6) (T := TX6) (N := 4) hx hb hts (mm_i inlX6) tyX6 tyX6_ok nmX6 hown hK.1 hP hD hS 0 rfl rfl 1 (by decide) (mm_h hts mm_w1682) (fun _ h9 => h9) rfl (tyX6_ok 1 (by decide)) rfl rfl (Nat.le_of_ble_eq_true rfl) dX6_begin_7 ?_
  clear hP hD hS
  clear H locs
  intro H locs (hP : va_P G vwCl [(a_0, .inr (6, [.int 1, .int i_0, .int 0, .ref a_17])), (a_17, .inl (cy 2, 60, .inr (.inl (fun _ => 0))))] H) (hD : va_D A [(a_0, .inr (6, [.int 1, .int i_0, .int 0, .ref a_17])), (a_17, .inl (cy 2, 60, .inr (.inl (fun _ => 0))))]) hS
  refine lv_aload_n hx hb dX6_begin_10 rfl (lv_at hl 0 rfl) ?_
  refine lv_iload_n hx hb dX6_begin_11 rfl (lv_at hl 2 rfl) ?_
  refine lv_bipush (v := 60) hx hb dX6_begin_12 (by decide) ?_
  refine va_mmin hx hb (by rw [hml]; exact hl.1.symm) hown (mm_h hts mm_w1683) (mm_h hts mm_w385) (mm_h hts mm_w346) (mm_h hts mm_w386) (by rw [hRf]; exact Nat.le_of_ble_eq_true rfl) (by rw [hRl]; exact Nat.le_of_ble_eq_true rfl) (by rw [hRc]; exact Nat.le_of_ble_eq_true rfl) (by rw [hRs]; exact Nat.le_of_ble_eq_true rfl) dX6_begin_14 ?_
  refine lv_topi (fun v1 ev1 => ?_)
  have rv1 : mm_rg v1 0 60 := mm_min ev1 h1 mm_k60 (by decide)
  refine va_put (D := G) (ci := 6) (v := .int v1) (ty := tyX6 2) (C := RX6) (T := TX6) (N := 4) hx hb hts (mm_i inlX6) tyX6 tyX6_ok nmX6 hown hK.1 hP hD hS 0 rfl rfl 2 (by decide) (mm_h hts mm_w1684) (fun _ h9 => h9) rfl (tyX6_ok 2 (by decide)) rfl rfl (Nat.le_of_ble_eq_true rfl) dX6_begin_17 ?_
  clear hP hD hS
  clear H locs
  intro H locs (hP : va_P G vwCl [(a_0, .inr (6, [.int 1, .int i_0, .int v1, .ref a_17])), (a_17, .inl (cy 2, 60, .inr (.inl (fun _ => 0))))] H) (hD : va_D A [(a_0, .inr (6, [.int 1, .int i_0, .int v1, .ref a_17])), (a_17, .inl (cy 2, 60, .inr (.inl (fun _ => 0))))]) hS
  refine lv_aload_n hx hb dX6_begin_20 rfl (lv_at hl 0 rfl) ?_
  refine va_get (D := G) (ci := 6) (v := .ref a_17) (C := RX6) (T := TX6) (N := 4) hx hb hts (mm_i inlX6) hown hK.1 hP 0 rfl rfl 3 (by decide) (mm_h hts mm_w104) (fun _ h9 => h9) rfl dX6_begin_21 ?_
  refine lv_lconst (v := 0) hx hb dX6_begin_24 (by decide) ?_
  refine mm_finv (va_runS (As := [.ref a_17, .long 0]) (rest := []) ⟨hx, hb, hml, hown, hts⟩ (K304_J7_fill_d0a16 l G cy H.size a_17 ) (va_cwS 2 hts (mm_gS mm_w1685 mm_w1505 mm_w225 mm_w1506) rfl rfl rfl hs_J7_fill_d0a16 ⟨by rw [hRf]; exact Nat.le_of_ble_eq_true rfl, by rw [hRl]; exact Nat.le_of_ble_eq_true rfl⟩) (mm_preS hK hP hD [1] rfl rfl) rfl rfl hl.1 rfl (lv_room (Nat.le_of_ble_eq_true rfl)) dX6_begin_25 ⟨by rw [hRc]; exact Nat.le_of_ble_eq_true rfl, by rw [hRs]; exact Nat.le_of_ble_eq_true rfl⟩) hP hD hS hA (fun u : (Nat → Int64) => [(a_0, .inr (6, [.int 1, .int i_0, .int v1, .ref a_17])), (a_17, .inl (cy 2, 60, .inr (.inl u)))]) [1] [0] (n := 2) (fun _ => rfl) (by decide +kernel) (by decide +kernel) rfl (fun _ => rfl) (wr := [(a_0, .inr (6, [.int 1, .int i_0, .int v1, .ref a_17]))]) rfl (fun _ => rfl) (fun _ => rfl) ?_
  clear hP hD hS
  clear H locs
  intro n2 H locs hw (hP : va_P G vwCl [(a_0, .inr (6, [.int 1, .int i_0, .int v1, .ref a_17])), (a_17, .inl (cy 2, 60, .inr (.inl n2)))] H) (hD : va_D A [(a_0, .inr (6, [.int 1, .int i_0, .int v1, .ref a_17])), (a_17, .inl (cy 2, 60, .inr (.inl n2)))]) hS
  subst hAe
  rw [hQ]
  exact W.vret hx hb hr (fun t ht hW => ⟨⟨(v1, n2), rfl, rv1, by rw [ht]; exact hP, hK.warm hW, hD⟩, hS.F ht⟩) hS.2.2 dX6_begin_28

set_option maxHeartbeats 4000000 in
set_option maxRecDepth 100000 in
theorem K312_X6_begin (l : Launch) (G : va_G) (cy : Nat → ClassId) (sz : Nat) (a_0 : Nat) (i_0 : Int32) (i_1 : Int32) (a_18 : Nat) (h0 : mm_rg i_0 0 3) (h1 : mm_rg i_1 0 60)  : mm_CV l yX6_begin (mm_ws yX6_begin cX6_begin 3 (none)) ({ frames := 1, cells := 0, slots := 0, locals := 40 } : Room) G cy sz [(a_0, .inr (6, [.int 0, .int 0, .int 0, .ref a_18])), (a_18, .inl (cy 2, 60, .inr (.inl (fun _ => 0))))] [.ref a_0, .int i_0, .int i_1] (fun u : Int32 × (Nat → Int64) => [(a_0, .inr (6, [.int 1, .int i_0, .int u.1, .ref a_18])), (a_18, .inl (cy 2, 60, .inr (.inl u.2)))]) (fun u : Int32 × (Nat → Int64) => mm_rg u.1 0 60) 0 0 := by
  refine mm_begin (lv := [(0, .ref a_0), (1, .int i_0), (2, .int i_1)]) (by decide) (Nat.le_of_ble_eq_true rfl) rfl ?_
  intro p e s m below meth c A ls R args Q H locs hRe hQ hAe hx hb hr hlocks hml hown hnm hts hsz hA hS hP hK hD hl
  have hRf : R.frames = 1 := by rw [hRe]
  have hRl : R.locals = 40 := by rw [hRe]
  have hRc : R.cells = 0 := by rw [hRe]
  have hRs : R.slots = 0 := by rw [hRe]
  refine lv_aload_n hx hb dX6_begin_0 rfl (lv_at hl 0 rfl) ?_
  refine lv_iconst (v := 1) hx hb dX6_begin_1 (by decide) ?_
  refine va_put (D := G) (ci := 6) (v := .int 1) (ty := tyX6 0) (C := RX6) (T := TX6) (N := 4) hx hb hts (mm_i inlX6) tyX6 tyX6_ok nmX6 hown hK.1 hP hD hS 0 rfl rfl 0 (by decide) (mm_h hts mm_w1681) (fun _ h9 => h9) rfl (tyX6_ok 0 (by decide)) rfl rfl (Nat.le_of_ble_eq_true rfl) dX6_begin_2 ?_
  clear hP hD hS
  clear H locs
  intro H locs (hP : va_P G vwCl [(a_0, .inr (6, [.int 1, .int 0, .int 0, .ref a_18])), (a_18, .inl (cy 2, 60, .inr (.inl (fun _ => 0))))] H) (hD : va_D A [(a_0, .inr (6, [.int 1, .int 0, .int 0, .ref a_18])), (a_18, .inl (cy 2, 60, .inr (.inl (fun _ => 0))))]) hS
  refine lv_aload_n hx hb dX6_begin_5 rfl (lv_at hl 0 rfl) ?_
  refine lv_iload_n hx hb dX6_begin_6 rfl (lv_at hl 1 rfl) ?_
  refine va_put (D := G) (ci := 6) (v := .int i_0) (ty := tyX6 1) (C := RX6) (T := TX6) (N := 4) hx hb hts (mm_i inlX6) tyX6 tyX6_ok nmX6 hown hK.1 hP hD hS 0 rfl rfl 1 (by decide) (mm_h hts mm_w1682) (fun _ h9 => h9) rfl (tyX6_ok 1 (by decide)) rfl rfl (Nat.le_of_ble_eq_true rfl) dX6_begin_7 ?_
  clear hP hD hS
  clear H locs
  intro H locs (hP : va_P G vwCl [(a_0, .inr (6, [.int 1, .int i_0, .int 0, .ref a_18])), (a_18, .inl (cy 2, 60, .inr (.inl (fun _ => 0))))] H) (hD : va_D A [(a_0, .inr (6, [.int 1, .int i_0, .int 0, .ref a_18])), (a_18, .inl (cy 2, 60, .inr (.inl (fun _ => 0))))]) hS
  refine lv_aload_n hx hb dX6_begin_10 rfl (lv_at hl 0 rfl) ?_
  refine lv_iload_n hx hb dX6_begin_11 rfl (lv_at hl 2 rfl) ?_
  refine lv_bipush (v := 60) hx hb dX6_begin_12 (by decide) ?_
  refine va_mmin hx hb (by rw [hml]; exact hl.1.symm) hown (mm_h hts mm_w1683) (mm_h hts mm_w385) (mm_h hts mm_w346) (mm_h hts mm_w386) (by rw [hRf]; exact Nat.le_of_ble_eq_true rfl) (by rw [hRl]; exact Nat.le_of_ble_eq_true rfl) (by rw [hRc]; exact Nat.le_of_ble_eq_true rfl) (by rw [hRs]; exact Nat.le_of_ble_eq_true rfl) dX6_begin_14 ?_
  refine lv_topi (fun v1 ev1 => ?_)
  have rv1 : mm_rg v1 0 60 := mm_min ev1 h1 mm_k60 (by decide)
  refine va_put (D := G) (ci := 6) (v := .int v1) (ty := tyX6 2) (C := RX6) (T := TX6) (N := 4) hx hb hts (mm_i inlX6) tyX6 tyX6_ok nmX6 hown hK.1 hP hD hS 0 rfl rfl 2 (by decide) (mm_h hts mm_w1684) (fun _ h9 => h9) rfl (tyX6_ok 2 (by decide)) rfl rfl (Nat.le_of_ble_eq_true rfl) dX6_begin_17 ?_
  clear hP hD hS
  clear H locs
  intro H locs (hP : va_P G vwCl [(a_0, .inr (6, [.int 1, .int i_0, .int v1, .ref a_18])), (a_18, .inl (cy 2, 60, .inr (.inl (fun _ => 0))))] H) (hD : va_D A [(a_0, .inr (6, [.int 1, .int i_0, .int v1, .ref a_18])), (a_18, .inl (cy 2, 60, .inr (.inl (fun _ => 0))))]) hS
  refine lv_aload_n hx hb dX6_begin_20 rfl (lv_at hl 0 rfl) ?_
  refine va_get (D := G) (ci := 6) (v := .ref a_18) (C := RX6) (T := TX6) (N := 4) hx hb hts (mm_i inlX6) hown hK.1 hP 0 rfl rfl 3 (by decide) (mm_h hts mm_w104) (fun _ h9 => h9) rfl dX6_begin_21 ?_
  refine lv_lconst (v := 0) hx hb dX6_begin_24 (by decide) ?_
  refine mm_finv (va_runS (As := [.ref a_18, .long 0]) (rest := []) ⟨hx, hb, hml, hown, hts⟩ (K304_J7_fill_d0a16 l G cy H.size a_18 ) (va_cwS 2 hts (mm_gS mm_w1685 mm_w1505 mm_w225 mm_w1506) rfl rfl rfl hs_J7_fill_d0a16 ⟨by rw [hRf]; exact Nat.le_of_ble_eq_true rfl, by rw [hRl]; exact Nat.le_of_ble_eq_true rfl⟩) (mm_preS hK hP hD [1] rfl rfl) rfl rfl hl.1 rfl (lv_room (Nat.le_of_ble_eq_true rfl)) dX6_begin_25 ⟨by rw [hRc]; exact Nat.le_of_ble_eq_true rfl, by rw [hRs]; exact Nat.le_of_ble_eq_true rfl⟩) hP hD hS hA (fun u : (Nat → Int64) => [(a_0, .inr (6, [.int 1, .int i_0, .int v1, .ref a_18])), (a_18, .inl (cy 2, 60, .inr (.inl u)))]) [1] [0] (n := 2) (fun _ => rfl) (by decide +kernel) (by decide +kernel) rfl (fun _ => rfl) (wr := [(a_0, .inr (6, [.int 1, .int i_0, .int v1, .ref a_18]))]) rfl (fun _ => rfl) (fun _ => rfl) ?_
  clear hP hD hS
  clear H locs
  intro n2 H locs hw (hP : va_P G vwCl [(a_0, .inr (6, [.int 1, .int i_0, .int v1, .ref a_18])), (a_18, .inl (cy 2, 60, .inr (.inl n2)))] H) (hD : va_D A [(a_0, .inr (6, [.int 1, .int i_0, .int v1, .ref a_18])), (a_18, .inl (cy 2, 60, .inr (.inl n2)))]) hS
  subst hAe
  rw [hQ]
  exact W.vret hx hb hr (fun t ht hW => ⟨⟨(v1, n2), rfl, rv1, by rw [ht]; exact hP, hK.warm hW, hD⟩, hS.F ht⟩) hS.2.2 dX6_begin_28

set_option maxHeartbeats 4000000 in
set_option maxRecDepth 100000 in
theorem K313_X6_begin (l : Launch) (G : va_G) (cy : Nat → ClassId) (sz : Nat) (a_0 : Nat) (i_0 : Int32) (i_1 : Int32) (a_19 : Nat) (h0 : mm_rg i_0 0 3) (h1 : mm_rg i_1 0 60)  : mm_CV l yX6_begin (mm_ws yX6_begin cX6_begin 3 (none)) ({ frames := 1, cells := 0, slots := 0, locals := 40 } : Room) G cy sz [(a_0, .inr (6, [.int 0, .int 0, .int 0, .ref a_19])), (a_19, .inl (cy 2, 60, .inr (.inl (fun _ => 0))))] [.ref a_0, .int i_0, .int i_1] (fun u : Int32 × (Nat → Int64) => [(a_0, .inr (6, [.int 1, .int i_0, .int u.1, .ref a_19])), (a_19, .inl (cy 2, 60, .inr (.inl u.2)))]) (fun u : Int32 × (Nat → Int64) => mm_rg u.1 0 60) 0 0 := by
  refine mm_begin (lv := [(0, .ref a_0), (1, .int i_0), (2, .int i_1)]) (by decide) (Nat.le_of_ble_eq_true rfl) rfl ?_
  intro p e s m below meth c A ls R args Q H locs hRe hQ hAe hx hb hr hlocks hml hown hnm hts hsz hA hS hP hK hD hl
  have hRf : R.frames = 1 := by rw [hRe]
  have hRl : R.locals = 40 := by rw [hRe]
  have hRc : R.cells = 0 := by rw [hRe]
  have hRs : R.slots = 0 := by rw [hRe]
  refine lv_aload_n hx hb dX6_begin_0 rfl (lv_at hl 0 rfl) ?_
  refine lv_iconst (v := 1) hx hb dX6_begin_1 (by decide) ?_
  refine va_put (D := G) (ci := 6) (v := .int 1) (ty := tyX6 0) (C := RX6) (T := TX6) (N := 4) hx hb hts (mm_i inlX6) tyX6 tyX6_ok nmX6 hown hK.1 hP hD hS 0 rfl rfl 0 (by decide) (mm_h hts mm_w1681) (fun _ h9 => h9) rfl (tyX6_ok 0 (by decide)) rfl rfl (Nat.le_of_ble_eq_true rfl) dX6_begin_2 ?_
  clear hP hD hS
  clear H locs
  intro H locs (hP : va_P G vwCl [(a_0, .inr (6, [.int 1, .int 0, .int 0, .ref a_19])), (a_19, .inl (cy 2, 60, .inr (.inl (fun _ => 0))))] H) (hD : va_D A [(a_0, .inr (6, [.int 1, .int 0, .int 0, .ref a_19])), (a_19, .inl (cy 2, 60, .inr (.inl (fun _ => 0))))]) hS
  refine lv_aload_n hx hb dX6_begin_5 rfl (lv_at hl 0 rfl) ?_
  refine lv_iload_n hx hb dX6_begin_6 rfl (lv_at hl 1 rfl) ?_
  refine va_put (D := G) (ci := 6) (v := .int i_0) (ty := tyX6 1) (C := RX6) (T := TX6) (N := 4) hx hb hts (mm_i inlX6) tyX6 tyX6_ok nmX6 hown hK.1 hP hD hS 0 rfl rfl 1 (by decide) (mm_h hts mm_w1682) (fun _ h9 => h9) rfl (tyX6_ok 1 (by decide)) rfl rfl (Nat.le_of_ble_eq_true rfl) dX6_begin_7 ?_
  clear hP hD hS
  clear H locs
  intro H locs (hP : va_P G vwCl [(a_0, .inr (6, [.int 1, .int i_0, .int 0, .ref a_19])), (a_19, .inl (cy 2, 60, .inr (.inl (fun _ => 0))))] H) (hD : va_D A [(a_0, .inr (6, [.int 1, .int i_0, .int 0, .ref a_19])), (a_19, .inl (cy 2, 60, .inr (.inl (fun _ => 0))))]) hS
  refine lv_aload_n hx hb dX6_begin_10 rfl (lv_at hl 0 rfl) ?_
  refine lv_iload_n hx hb dX6_begin_11 rfl (lv_at hl 2 rfl) ?_
  refine lv_bipush (v := 60) hx hb dX6_begin_12 (by decide) ?_
  refine va_mmin hx hb (by rw [hml]; exact hl.1.symm) hown (mm_h hts mm_w1683) (mm_h hts mm_w385) (mm_h hts mm_w346) (mm_h hts mm_w386) (by rw [hRf]; exact Nat.le_of_ble_eq_true rfl) (by rw [hRl]; exact Nat.le_of_ble_eq_true rfl) (by rw [hRc]; exact Nat.le_of_ble_eq_true rfl) (by rw [hRs]; exact Nat.le_of_ble_eq_true rfl) dX6_begin_14 ?_
  refine lv_topi (fun v1 ev1 => ?_)
  have rv1 : mm_rg v1 0 60 := mm_min ev1 h1 mm_k60 (by decide)
  refine va_put (D := G) (ci := 6) (v := .int v1) (ty := tyX6 2) (C := RX6) (T := TX6) (N := 4) hx hb hts (mm_i inlX6) tyX6 tyX6_ok nmX6 hown hK.1 hP hD hS 0 rfl rfl 2 (by decide) (mm_h hts mm_w1684) (fun _ h9 => h9) rfl (tyX6_ok 2 (by decide)) rfl rfl (Nat.le_of_ble_eq_true rfl) dX6_begin_17 ?_
  clear hP hD hS
  clear H locs
  intro H locs (hP : va_P G vwCl [(a_0, .inr (6, [.int 1, .int i_0, .int v1, .ref a_19])), (a_19, .inl (cy 2, 60, .inr (.inl (fun _ => 0))))] H) (hD : va_D A [(a_0, .inr (6, [.int 1, .int i_0, .int v1, .ref a_19])), (a_19, .inl (cy 2, 60, .inr (.inl (fun _ => 0))))]) hS
  refine lv_aload_n hx hb dX6_begin_20 rfl (lv_at hl 0 rfl) ?_
  refine va_get (D := G) (ci := 6) (v := .ref a_19) (C := RX6) (T := TX6) (N := 4) hx hb hts (mm_i inlX6) hown hK.1 hP 0 rfl rfl 3 (by decide) (mm_h hts mm_w104) (fun _ h9 => h9) rfl dX6_begin_21 ?_
  refine lv_lconst (v := 0) hx hb dX6_begin_24 (by decide) ?_
  refine mm_finv (va_runS (As := [.ref a_19, .long 0]) (rest := []) ⟨hx, hb, hml, hown, hts⟩ (K304_J7_fill_d0a16 l G cy H.size a_19 ) (va_cwS 2 hts (mm_gS mm_w1685 mm_w1505 mm_w225 mm_w1506) rfl rfl rfl hs_J7_fill_d0a16 ⟨by rw [hRf]; exact Nat.le_of_ble_eq_true rfl, by rw [hRl]; exact Nat.le_of_ble_eq_true rfl⟩) (mm_preS hK hP hD [1] rfl rfl) rfl rfl hl.1 rfl (lv_room (Nat.le_of_ble_eq_true rfl)) dX6_begin_25 ⟨by rw [hRc]; exact Nat.le_of_ble_eq_true rfl, by rw [hRs]; exact Nat.le_of_ble_eq_true rfl⟩) hP hD hS hA (fun u : (Nat → Int64) => [(a_0, .inr (6, [.int 1, .int i_0, .int v1, .ref a_19])), (a_19, .inl (cy 2, 60, .inr (.inl u)))]) [1] [0] (n := 2) (fun _ => rfl) (by decide +kernel) (by decide +kernel) rfl (fun _ => rfl) (wr := [(a_0, .inr (6, [.int 1, .int i_0, .int v1, .ref a_19]))]) rfl (fun _ => rfl) (fun _ => rfl) ?_
  clear hP hD hS
  clear H locs
  intro n2 H locs hw (hP : va_P G vwCl [(a_0, .inr (6, [.int 1, .int i_0, .int v1, .ref a_19])), (a_19, .inl (cy 2, 60, .inr (.inl n2)))] H) (hD : va_D A [(a_0, .inr (6, [.int 1, .int i_0, .int v1, .ref a_19])), (a_19, .inl (cy 2, 60, .inr (.inl n2)))]) hS
  subst hAe
  rw [hQ]
  exact W.vret hx hb hr (fun t ht hW => ⟨⟨(v1, n2), rfl, rv1, by rw [ht]; exact hP, hK.warm hW, hD⟩, hS.F ht⟩) hS.2.2 dX6_begin_28

set_option maxHeartbeats 4000000 in
set_option maxRecDepth 100000 in
theorem K309_X11_row (l : Launch) (G : va_G) (cy : Nat → ClassId) (sz : Nat) (a_0 : Nat) (i_0 : Int32) (i_1 : Int32) (i_2 : Int32) (a_1 : Nat) (a_2 : Nat) (a_3 : Nat) (a_4 : Nat) (a_5 : Nat) (a_6 : Nat) (a_7 : Nat) (a_8 : Nat) (a_9 : Nat) (a_10 : Nat) (a_11 : Nat) (a_78 : Nat) (a_79 : Nat) (a_80 : Nat) (a_81 : Nat) (a_82 : Nat) (a_83 : Nat) (a_84 : Nat) (a_85 : Nat)   : mm_CI l yX11_row (mm_ws yX11_row cX11_row 4 (some .int)) ({ frames := 2, cells := 0, slots := 0, locals := 62 } : Room) G cy sz [(a_0, .inr (11, [.ref a_1, .ref a_2, .ref a_3, .ref a_4, .ref a_5, .ref a_6, .ref a_7, .ref a_8, .ref a_9, .ref a_10, .ref a_11])), (a_6, .inl (cy 6, 4, .inr (.inr (.inr (.inr (va_up (va_up (va_up (va_up (fun _ => none) 0 (some a_78)) 1 (some a_79)) 2 (some a_80)) 3 (some a_81))))))), (a_78, .inr (6, [.int 0, .int 0, .int 0, .ref a_82])), (a_82, .inl (cy 2, 60, .inr (.inl (fun _ => 0)))), (a_79, .inr (6, [.int 0, .int 0, .int 0, .ref a_83])), (a_83, .inl (cy 2, 60, .inr (.inl (fun _ => 0)))), (a_80, .inr (6, [.int 0, .int 0, .int 0, .ref a_84])), (a_84, .inl (cy 2, 60, .inr (.inl (fun _ => 0)))), (a_81, .inr (6, [.int 0, .int 0, .int 0, .ref a_85])), (a_85, .inl (cy 2, 60, .inr (.inl (fun _ => 0))))] [.ref a_0, .int i_0, .int i_1, .int i_2] (fun u : Int32 × Int32 × Int32 × (Nat → Int64) × Int32 × Int32 × Int32 × (Nat → Int64) × Int32 × Int32 × Int32 × (Nat → Int64) × Int32 × Int32 × Int32 × (Nat → Int64) => [(a_0, .inr (11, [.ref a_1, .ref a_2, .ref a_3, .ref a_4, .ref a_5, .ref a_6, .ref a_7, .ref a_8, .ref a_9, .ref a_10, .ref a_11])), (a_6, .inl (cy 6, 4, .inr (.inr (.inr (.inr (va_up (va_up (va_up (va_up (fun _ => none) 0 (some a_78)) 1 (some a_79)) 2 (some a_80)) 3 (some a_81))))))), (a_78, .inr (6, [.int u.1, .int u.2.1, .int u.2.2.1, .ref a_82])), (a_82, .inl (cy 2, 60, .inr (.inl u.2.2.2.1))), (a_79, .inr (6, [.int u.2.2.2.2.1, .int u.2.2.2.2.2.1, .int u.2.2.2.2.2.2.1, .ref a_83])), (a_83, .inl (cy 2, 60, .inr (.inl u.2.2.2.2.2.2.2.1))), (a_80, .inr (6, [.int u.2.2.2.2.2.2.2.2.1, .int u.2.2.2.2.2.2.2.2.2.1, .int u.2.2.2.2.2.2.2.2.2.2.1, .ref a_84])), (a_84, .inl (cy 2, 60, .inr (.inl u.2.2.2.2.2.2.2.2.2.2.2.1))), (a_81, .inr (6, [.int u.2.2.2.2.2.2.2.2.2.2.2.2.1, .int u.2.2.2.2.2.2.2.2.2.2.2.2.2.1, .int u.2.2.2.2.2.2.2.2.2.2.2.2.2.2.1, .ref a_85])), (a_85, .inl (cy 2, 60, .inr (.inl u.2.2.2.2.2.2.2.2.2.2.2.2.2.2.2)))]) (fun (r : Int32) (u : Int32 × Int32 × Int32 × (Nat → Int64) × Int32 × Int32 × Int32 × (Nat → Int64) × Int32 × Int32 × Int32 × (Nat → Int64) × Int32 × Int32 × Int32 × (Nat → Int64)) => mm_rg u.1 0 1 ∧ mm_rg u.2.1 0 3 ∧ mm_rg u.2.2.1 0 60 ∧ mm_rg u.2.2.2.2.1 0 1 ∧ mm_rg u.2.2.2.2.2.1 0 3 ∧ mm_rg u.2.2.2.2.2.2.1 0 60 ∧ mm_rg u.2.2.2.2.2.2.2.2.1 0 1 ∧ mm_rg u.2.2.2.2.2.2.2.2.2.1 0 3 ∧ mm_rg u.2.2.2.2.2.2.2.2.2.2.1 0 60 ∧ mm_rg u.2.2.2.2.2.2.2.2.2.2.2.2.1 0 1 ∧ mm_rg u.2.2.2.2.2.2.2.2.2.2.2.2.2.1 0 3 ∧ mm_rg u.2.2.2.2.2.2.2.2.2.2.2.2.2.2.1 0 60 ∧ (((-2) = r ∧ mm_rg i_0 (-2147483648) (-1)) ∨ ((-2) = r ∧ mm_rg i_0 4 2147483647) ∨ ((-2) = r ∧ mm_rg i_0 0 3 ∧ mm_rg i_1 (-2147483648) (-1)) ∨ ((-2) = r ∧ mm_rg i_0 0 3 ∧ mm_rg i_1 4 2147483647) ∨ (0 = r ∧ mm_rg i_0 0 3 ∧ mm_rg i_1 0 3 ∧ mm_rg i_2 0 60) ∨ ((-3) = r ∧ mm_rg i_0 0 3 ∧ mm_rg i_1 0 3 ∧ mm_rg i_2 (-2147483648) (-1)) ∨ ((-2) = r ∧ mm_rg i_0 0 3 ∧ mm_rg i_1 0 3 ∧ mm_rg i_2 61 2147483647))) 0 0 := by
  refine mm_begin (lv := [(0, .ref a_0), (1, .int i_0), (2, .int i_1), (3, .int i_2)]) (by decide) (Nat.le_of_ble_eq_true rfl) rfl ?_
  intro p e s m below meth c A ls R args Q H locs hRe hQ hAe hx hb hr hlocks hml hown hnm hts hsz hA hS hP hK hD hl
  have hRf : R.frames = 2 := by rw [hRe]
  have hRl : R.locals = 62 := by rw [hRe]
  have hRc : R.cells = 0 := by rw [hRe]
  have hRs : R.slots = 0 := by rw [hRe]
  refine lv_iload_n hx hb dX11_row_0 rfl (lv_at hl 1 rfl) ?_
  refine mm_finir (va_runS (As := [.int i_0]) (rest := []) ⟨hx, hb, hml, hown, hts⟩ (K212_X11_isSlot l G cy H.size i_0 ) (va_cwS 1 hts (mm_gS mm_w1232 mm_w1233 mm_w2 mm_w1234) rfl rfl rfl hs_X11_isSlot ⟨by rw [hRf]; exact Nat.le_of_ble_eq_true rfl, by rw [hRl]; exact Nat.le_of_ble_eq_true rfl⟩) (mm_preS hK hP hD [] rfl rfl) rfl rfl hl.1 rfl (lv_room (Nat.le_of_ble_eq_true rfl)) dX11_row_1 ⟨by rw [hRc]; exact Nat.le_of_ble_eq_true rfl, by rw [hRs]; exact Nat.le_of_ble_eq_true rfl⟩) hP hD hS hA [] rfl (fun _ => rfl) ?_
  clear hP hD hS
  clear H locs
  intro v1 _u H locs hw hP hD hS
  rcases hw with ⟨rfl, w2⟩ | ⟨rfl, w3⟩ | ⟨rfl, w4⟩
  · refine lv_if_eq (tgt := 22) hx hb dX11_row_4 (by decide) (fun c5 => ?_) (fun c5 => ?_)
    · refine lv_bipush (v := (-2)) hx hb dX11_row_22 (by decide) ?_
      subst hAe
      rw [hQ]
      exact W.iret (v := (-2)) hx hb hr (fun t ht hW => ⟨⟨(-2), (0, 0, 0, (fun _ => 0), 0, 0, 0, (fun _ => 0), 0, 0, 0, (fun _ => 0), 0, 0, 0, (fun _ => 0)), rfl, ⟨(mm_wk mm_k0 (by decide)), (mm_wk mm_k0 (by decide)), (mm_wk mm_k0 (by decide)), (mm_wk mm_k0 (by decide)), (mm_wk mm_k0 (by decide)), (mm_wk mm_k0 (by decide)), (mm_wk mm_k0 (by decide)), (mm_wk mm_k0 (by decide)), (mm_wk mm_k0 (by decide)), (mm_wk mm_k0 (by decide)), (mm_wk mm_k0 (by decide)), (mm_wk mm_k0 (by decide)), (Or.inl ⟨rfl, w2⟩)⟩, by rw [ht]; exact hP, hK.warm hW, hD⟩, hS.F ht⟩) hS.2.2 dX11_row_24
    · have q6 := mm_neL (lo := 1) (mm_ne c5) mm_k0 mm_k0 (by decide) (by decide)
      exact mm_no q6 (by decide)
  · refine lv_if_eq (tgt := 22) hx hb dX11_row_4 (by decide) (fun c7 => ?_) (fun c7 => ?_)
    · refine lv_bipush (v := (-2)) hx hb dX11_row_22 (by decide) ?_
      subst hAe
      rw [hQ]
      exact W.iret (v := (-2)) hx hb hr (fun t ht hW => ⟨⟨(-2), (0, 0, 0, (fun _ => 0), 0, 0, 0, (fun _ => 0), 0, 0, 0, (fun _ => 0), 0, 0, 0, (fun _ => 0)), rfl, ⟨(mm_wk mm_k0 (by decide)), (mm_wk mm_k0 (by decide)), (mm_wk mm_k0 (by decide)), (mm_wk mm_k0 (by decide)), (mm_wk mm_k0 (by decide)), (mm_wk mm_k0 (by decide)), (mm_wk mm_k0 (by decide)), (mm_wk mm_k0 (by decide)), (mm_wk mm_k0 (by decide)), (mm_wk mm_k0 (by decide)), (mm_wk mm_k0 (by decide)), (mm_wk mm_k0 (by decide)), (Or.inr (Or.inl ⟨rfl, w3⟩))⟩, by rw [ht]; exact hP, hK.warm hW, hD⟩, hS.F ht⟩) hS.2.2 dX11_row_24
    · have q8 := mm_neL (lo := 1) (mm_ne c7) mm_k0 mm_k0 (by decide) (by decide)
      exact mm_no q8 (by decide)
  · refine lv_if_eq (tgt := 22) hx hb dX11_row_4 (by decide) (fun c9 => ?_) (fun c9 => ?_)
    · exact mm_eqN c9.symm mm_k0 mm_k1 (by decide)
    · refine lv_iload_n hx hb dX11_row_7 rfl (lv_at hl 2 rfl) ?_
      refine lv_if_lt (tgt := 22) hx hb dX11_row_8 (by decide) (fun c10 => ?_) (fun c10 => ?_)
      · have q11 := mm_ltL (h := (-1)) (mm_lt c10) (mm_top i_1) mm_k0 (by decide)
        refine lv_bipush (v := (-2)) hx hb dX11_row_22 (by decide) ?_
        subst hAe
        rw [hQ]
        exact W.iret (v := (-2)) hx hb hr (fun t ht hW => ⟨⟨(-2), (0, 0, 0, (fun _ => 0), 0, 0, 0, (fun _ => 0), 0, 0, 0, (fun _ => 0), 0, 0, 0, (fun _ => 0)), rfl, ⟨(mm_wk mm_k0 (by decide)), (mm_wk mm_k0 (by decide)), (mm_wk mm_k0 (by decide)), (mm_wk mm_k0 (by decide)), (mm_wk mm_k0 (by decide)), (mm_wk mm_k0 (by decide)), (mm_wk mm_k0 (by decide)), (mm_wk mm_k0 (by decide)), (mm_wk mm_k0 (by decide)), (mm_wk mm_k0 (by decide)), (mm_wk mm_k0 (by decide)), (mm_wk mm_k0 (by decide)), (Or.inr (Or.inr (Or.inl ⟨rfl, w4, q11⟩)))⟩, by rw [ht]; exact hP, hK.warm hW, hD⟩, hS.F ht⟩) hS.2.2 dX11_row_24
      · have q12 := mm_leR (mm_nlt c10) mm_k0 (mm_top i_1)
        refine lv_iload_n hx hb dX11_row_11 rfl (lv_at hl 2 rfl) ?_
        refine lv_iconst (v := 3) hx hb dX11_row_12 (by decide) ?_
        refine lv_icmp_gt (tgt := 22) hx hb dX11_row_13 (by decide) (fun c13 => ?_) (fun c13 => ?_)
        · have q14 := mm_ltR (lo := 4) (mm_lt c13) mm_k3 q12 (by decide)
          refine lv_bipush (v := (-2)) hx hb dX11_row_22 (by decide) ?_
          subst hAe
          rw [hQ]
          exact W.iret (v := (-2)) hx hb hr (fun t ht hW => ⟨⟨(-2), (0, 0, 0, (fun _ => 0), 0, 0, 0, (fun _ => 0), 0, 0, 0, (fun _ => 0), 0, 0, 0, (fun _ => 0)), rfl, ⟨(mm_wk mm_k0 (by decide)), (mm_wk mm_k0 (by decide)), (mm_wk mm_k0 (by decide)), (mm_wk mm_k0 (by decide)), (mm_wk mm_k0 (by decide)), (mm_wk mm_k0 (by decide)), (mm_wk mm_k0 (by decide)), (mm_wk mm_k0 (by decide)), (mm_wk mm_k0 (by decide)), (mm_wk mm_k0 (by decide)), (mm_wk mm_k0 (by decide)), (mm_wk mm_k0 (by decide)), (Or.inr (Or.inr (Or.inr (Or.inl ⟨rfl, w4, q14⟩))))⟩, by rw [ht]; exact hP, hK.warm hW, hD⟩, hS.F ht⟩) hS.2.2 dX11_row_24
        · have q15 := mm_leL (mm_nlt c13) q12 mm_k3
          refine lv_iload_n hx hb dX11_row_16 rfl (lv_at hl 3 rfl) ?_
          refine lv_bipush (v := 60) hx hb dX11_row_17 (by decide) ?_
          refine lv_icmp_le (tgt := 25) hx hb dX11_row_19 (by decide) (fun c16 => ?_) (fun c16 => ?_)
          · have q17 := mm_leL (mm_le c16) (mm_top i_2) mm_k60
            refine lv_iload_n hx hb dX11_row_25 rfl (lv_at hl 3 rfl) ?_
            refine lv_if_ge (tgt := 32) hx hb dX11_row_26 (by decide) (fun c18 => ?_) (fun c18 => ?_)
            · have q19 := mm_leR (mm_le c18) mm_k0 q17
              refine lv_aload_n hx hb dX11_row_32 rfl (lv_at hl 0 rfl) ?_
              refine va_get (D := G) (ci := 11) (v := .ref a_6) (C := RX11) (T := TX11) (N := 11) hx hb hts (mm_i inlX11) hown hK.1 hP 0 rfl rfl 5 (by decide) (mm_h hts mm_w32) (fun _ h9 => h9) rfl dX11_row_33 ?_
              refine lv_iload_n hx hb dX11_row_36 rfl (lv_at hl 1 rfl) ?_
              refine va_aldq hx hb hK.1 hP 1 6 rfl rfl (mm_in w4 (by decide)) dX11_row_37 ?_
              have c20 := mm_cases4 w4
              rcases c20 with rfl | rfl | rfl | rfl
              · refine W.eq (g2 := F0 m 38 ls [.ref a_78]) rfl ?_
                refine lv_iload_n hx hb dX11_row_38 rfl (lv_at hl 2 rfl) ?_
                refine lv_iload_n hx hb dX11_row_39 rfl (lv_at hl 3 rfl) ?_
                refine mm_finv (va_runV (As := [.int i_1, .int i_2]) (rest := []) ⟨hx, hb, hml, hown, hts⟩ (K310_X6_begin l G cy H.size a_78 i_1 i_2 a_82 q15 q19) (cwV 2 hts (mm_gV mm_w1677 mm_w1678 mm_w1679 mm_w34 mm_w1680) rfl rfl rfl hd_X6_begin ⟨by rw [hRf]; exact Nat.le_of_ble_eq_true rfl, by rw [hRl]; exact Nat.le_of_ble_eq_true rfl⟩) (mm_preV hK hP hD [2, 3] rfl rfl 2 rfl rfl rfl) rfl rfl hl.1 rfl (lv_room (Nat.le_of_ble_eq_true rfl)) dX11_row_40 ⟨by rw [hRc]; exact Nat.le_of_ble_eq_true rfl, by rw [hRs]; exact Nat.le_of_ble_eq_true rfl⟩) hP hD hS hA (fun u : Int32 × (Nat → Int64) => [(a_0, .inr (11, [.ref a_1, .ref a_2, .ref a_3, .ref a_4, .ref a_5, .ref a_6, .ref a_7, .ref a_8, .ref a_9, .ref a_10, .ref a_11])), (a_6, .inl (cy 6, 4, .inr (.inr (.inr (.inr (va_up (va_up (va_up (va_up (fun _ => none) 0 (some a_78)) 1 (some a_79)) 2 (some a_80)) 3 (some a_81))))))), (a_78, .inr (6, [.int 1, .int i_1, .int u.1, .ref a_82])), (a_82, .inl (cy 2, 60, .inr (.inl u.2))), (a_79, .inr (6, [.int 0, .int 0, .int 0, .ref a_83])), (a_83, .inl (cy 2, 60, .inr (.inl (fun _ => 0)))), (a_80, .inr (6, [.int 0, .int 0, .int 0, .ref a_84])), (a_84, .inl (cy 2, 60, .inr (.inl (fun _ => 0)))), (a_81, .inr (6, [.int 0, .int 0, .int 0, .ref a_85])), (a_85, .inl (cy 2, 60, .inr (.inl (fun _ => 0))))]) [2, 3] [0, 1, 4, 5, 6, 7, 8, 9] (n := 10) (fun _ => rfl) (by decide +kernel) (by decide +kernel) rfl (fun _ => rfl) (wr := [(a_0, .inr (11, [.ref a_1, .ref a_2, .ref a_3, .ref a_4, .ref a_5, .ref a_6, .ref a_7, .ref a_8, .ref a_9, .ref a_10, .ref a_11])), (a_6, .inl (cy 6, 4, .inr (.inr (.inr (.inr (va_up (va_up (va_up (va_up (fun _ => none) 0 (some a_78)) 1 (some a_79)) 2 (some a_80)) 3 (some a_81))))))), (a_79, .inr (6, [.int 0, .int 0, .int 0, .ref a_83])), (a_83, .inl (cy 2, 60, .inr (.inl (fun _ => 0)))), (a_80, .inr (6, [.int 0, .int 0, .int 0, .ref a_84])), (a_84, .inl (cy 2, 60, .inr (.inl (fun _ => 0)))), (a_81, .inr (6, [.int 0, .int 0, .int 0, .ref a_85])), (a_85, .inl (cy 2, 60, .inr (.inl (fun _ => 0))))]) rfl (fun _ => rfl) (fun _ => rfl) ?_
                clear hP hD hS
                clear H locs
                intro u
                obtain ⟨n21, n22⟩ := u
                intro H locs hw (hP : va_P G vwCl [(a_0, .inr (11, [.ref a_1, .ref a_2, .ref a_3, .ref a_4, .ref a_5, .ref a_6, .ref a_7, .ref a_8, .ref a_9, .ref a_10, .ref a_11])), (a_6, .inl (cy 6, 4, .inr (.inr (.inr (.inr (va_up (va_up (va_up (va_up (fun _ => none) 0 (some a_78)) 1 (some a_79)) 2 (some a_80)) 3 (some a_81))))))), (a_78, .inr (6, [.int 1, .int i_1, .int n21, .ref a_82])), (a_82, .inl (cy 2, 60, .inr (.inl n22))), (a_79, .inr (6, [.int 0, .int 0, .int 0, .ref a_83])), (a_83, .inl (cy 2, 60, .inr (.inl (fun _ => 0)))), (a_80, .inr (6, [.int 0, .int 0, .int 0, .ref a_84])), (a_84, .inl (cy 2, 60, .inr (.inl (fun _ => 0)))), (a_81, .inr (6, [.int 0, .int 0, .int 0, .ref a_85])), (a_85, .inl (cy 2, 60, .inr (.inl (fun _ => 0))))] H) (hD : va_D A [(a_0, .inr (11, [.ref a_1, .ref a_2, .ref a_3, .ref a_4, .ref a_5, .ref a_6, .ref a_7, .ref a_8, .ref a_9, .ref a_10, .ref a_11])), (a_6, .inl (cy 6, 4, .inr (.inr (.inr (.inr (va_up (va_up (va_up (va_up (fun _ => none) 0 (some a_78)) 1 (some a_79)) 2 (some a_80)) 3 (some a_81))))))), (a_78, .inr (6, [.int 1, .int i_1, .int n21, .ref a_82])), (a_82, .inl (cy 2, 60, .inr (.inl n22))), (a_79, .inr (6, [.int 0, .int 0, .int 0, .ref a_83])), (a_83, .inl (cy 2, 60, .inr (.inl (fun _ => 0)))), (a_80, .inr (6, [.int 0, .int 0, .int 0, .ref a_84])), (a_84, .inl (cy 2, 60, .inr (.inl (fun _ => 0)))), (a_81, .inr (6, [.int 0, .int 0, .int 0, .ref a_85])), (a_85, .inl (cy 2, 60, .inr (.inl (fun _ => 0))))]) hS
                have w23 := hw
                refine lv_iconst (v := 0) hx hb dX11_row_43 (by decide) ?_
                subst hAe
                rw [hQ]
                exact W.iret (v := 0) hx hb hr (fun t ht hW => ⟨⟨0, (1, i_1, n21, n22, 0, 0, 0, (fun _ => 0), 0, 0, 0, (fun _ => 0), 0, 0, 0, (fun _ => 0)), rfl, ⟨(mm_wk mm_k1 (by decide)), q15, w23, (mm_wk mm_k0 (by decide)), (mm_wk mm_k0 (by decide)), (mm_wk mm_k0 (by decide)), (mm_wk mm_k0 (by decide)), (mm_wk mm_k0 (by decide)), (mm_wk mm_k0 (by decide)), (mm_wk mm_k0 (by decide)), (mm_wk mm_k0 (by decide)), (mm_wk mm_k0 (by decide)), (Or.inr (Or.inr (Or.inr (Or.inr (Or.inl ⟨rfl, (mm_wk mm_k0 (by decide)), q15, q19⟩)))))⟩, by rw [ht]; exact hP, hK.warm hW, hD⟩, hS.F ht⟩) hS.2.2 dX11_row_44
              · refine W.eq (g2 := F0 m 38 ls [.ref a_79]) rfl ?_
                refine lv_iload_n hx hb dX11_row_38 rfl (lv_at hl 2 rfl) ?_
                refine lv_iload_n hx hb dX11_row_39 rfl (lv_at hl 3 rfl) ?_
                refine mm_finv (va_runV (As := [.int i_1, .int i_2]) (rest := []) ⟨hx, hb, hml, hown, hts⟩ (K311_X6_begin l G cy H.size a_79 i_1 i_2 a_83 q15 q19) (cwV 2 hts (mm_gV mm_w1677 mm_w1678 mm_w1679 mm_w34 mm_w1680) rfl rfl rfl hd_X6_begin ⟨by rw [hRf]; exact Nat.le_of_ble_eq_true rfl, by rw [hRl]; exact Nat.le_of_ble_eq_true rfl⟩) (mm_preV hK hP hD [4, 5] rfl rfl 4 rfl rfl rfl) rfl rfl hl.1 rfl (lv_room (Nat.le_of_ble_eq_true rfl)) dX11_row_40 ⟨by rw [hRc]; exact Nat.le_of_ble_eq_true rfl, by rw [hRs]; exact Nat.le_of_ble_eq_true rfl⟩) hP hD hS hA (fun u : Int32 × (Nat → Int64) => [(a_0, .inr (11, [.ref a_1, .ref a_2, .ref a_3, .ref a_4, .ref a_5, .ref a_6, .ref a_7, .ref a_8, .ref a_9, .ref a_10, .ref a_11])), (a_6, .inl (cy 6, 4, .inr (.inr (.inr (.inr (va_up (va_up (va_up (va_up (fun _ => none) 0 (some a_78)) 1 (some a_79)) 2 (some a_80)) 3 (some a_81))))))), (a_78, .inr (6, [.int 0, .int 0, .int 0, .ref a_82])), (a_82, .inl (cy 2, 60, .inr (.inl (fun _ => 0)))), (a_79, .inr (6, [.int 1, .int i_1, .int u.1, .ref a_83])), (a_83, .inl (cy 2, 60, .inr (.inl u.2))), (a_80, .inr (6, [.int 0, .int 0, .int 0, .ref a_84])), (a_84, .inl (cy 2, 60, .inr (.inl (fun _ => 0)))), (a_81, .inr (6, [.int 0, .int 0, .int 0, .ref a_85])), (a_85, .inl (cy 2, 60, .inr (.inl (fun _ => 0))))]) [4, 5] [0, 1, 2, 3, 6, 7, 8, 9] (n := 10) (fun _ => rfl) (by decide +kernel) (by decide +kernel) rfl (fun _ => rfl) (wr := [(a_0, .inr (11, [.ref a_1, .ref a_2, .ref a_3, .ref a_4, .ref a_5, .ref a_6, .ref a_7, .ref a_8, .ref a_9, .ref a_10, .ref a_11])), (a_6, .inl (cy 6, 4, .inr (.inr (.inr (.inr (va_up (va_up (va_up (va_up (fun _ => none) 0 (some a_78)) 1 (some a_79)) 2 (some a_80)) 3 (some a_81))))))), (a_78, .inr (6, [.int 0, .int 0, .int 0, .ref a_82])), (a_82, .inl (cy 2, 60, .inr (.inl (fun _ => 0)))), (a_80, .inr (6, [.int 0, .int 0, .int 0, .ref a_84])), (a_84, .inl (cy 2, 60, .inr (.inl (fun _ => 0)))), (a_81, .inr (6, [.int 0, .int 0, .int 0, .ref a_85])), (a_85, .inl (cy 2, 60, .inr (.inl (fun _ => 0))))]) rfl (fun _ => rfl) (fun _ => rfl) ?_
                clear hP hD hS
                clear H locs
                intro u
                obtain ⟨n24, n25⟩ := u
                intro H locs hw (hP : va_P G vwCl [(a_0, .inr (11, [.ref a_1, .ref a_2, .ref a_3, .ref a_4, .ref a_5, .ref a_6, .ref a_7, .ref a_8, .ref a_9, .ref a_10, .ref a_11])), (a_6, .inl (cy 6, 4, .inr (.inr (.inr (.inr (va_up (va_up (va_up (va_up (fun _ => none) 0 (some a_78)) 1 (some a_79)) 2 (some a_80)) 3 (some a_81))))))), (a_78, .inr (6, [.int 0, .int 0, .int 0, .ref a_82])), (a_82, .inl (cy 2, 60, .inr (.inl (fun _ => 0)))), (a_79, .inr (6, [.int 1, .int i_1, .int n24, .ref a_83])), (a_83, .inl (cy 2, 60, .inr (.inl n25))), (a_80, .inr (6, [.int 0, .int 0, .int 0, .ref a_84])), (a_84, .inl (cy 2, 60, .inr (.inl (fun _ => 0)))), (a_81, .inr (6, [.int 0, .int 0, .int 0, .ref a_85])), (a_85, .inl (cy 2, 60, .inr (.inl (fun _ => 0))))] H) (hD : va_D A [(a_0, .inr (11, [.ref a_1, .ref a_2, .ref a_3, .ref a_4, .ref a_5, .ref a_6, .ref a_7, .ref a_8, .ref a_9, .ref a_10, .ref a_11])), (a_6, .inl (cy 6, 4, .inr (.inr (.inr (.inr (va_up (va_up (va_up (va_up (fun _ => none) 0 (some a_78)) 1 (some a_79)) 2 (some a_80)) 3 (some a_81))))))), (a_78, .inr (6, [.int 0, .int 0, .int 0, .ref a_82])), (a_82, .inl (cy 2, 60, .inr (.inl (fun _ => 0)))), (a_79, .inr (6, [.int 1, .int i_1, .int n24, .ref a_83])), (a_83, .inl (cy 2, 60, .inr (.inl n25))), (a_80, .inr (6, [.int 0, .int 0, .int 0, .ref a_84])), (a_84, .inl (cy 2, 60, .inr (.inl (fun _ => 0)))), (a_81, .inr (6, [.int 0, .int 0, .int 0, .ref a_85])), (a_85, .inl (cy 2, 60, .inr (.inl (fun _ => 0))))]) hS
                have w26 := hw
                refine lv_iconst (v := 0) hx hb dX11_row_43 (by decide) ?_
                subst hAe
                rw [hQ]
                exact W.iret (v := 0) hx hb hr (fun t ht hW => ⟨⟨0, (0, 0, 0, (fun _ => 0), 1, i_1, n24, n25, 0, 0, 0, (fun _ => 0), 0, 0, 0, (fun _ => 0)), rfl, ⟨(mm_wk mm_k0 (by decide)), (mm_wk mm_k0 (by decide)), (mm_wk mm_k0 (by decide)), (mm_wk mm_k1 (by decide)), q15, w26, (mm_wk mm_k0 (by decide)), (mm_wk mm_k0 (by decide)), (mm_wk mm_k0 (by decide)), (mm_wk mm_k0 (by decide)), (mm_wk mm_k0 (by decide)), (mm_wk mm_k0 (by decide)), (Or.inr (Or.inr (Or.inr (Or.inr (Or.inl ⟨rfl, (mm_wk mm_k1 (by decide)), q15, q19⟩)))))⟩, by rw [ht]; exact hP, hK.warm hW, hD⟩, hS.F ht⟩) hS.2.2 dX11_row_44
              · refine W.eq (g2 := F0 m 38 ls [.ref a_80]) rfl ?_
                refine lv_iload_n hx hb dX11_row_38 rfl (lv_at hl 2 rfl) ?_
                refine lv_iload_n hx hb dX11_row_39 rfl (lv_at hl 3 rfl) ?_
                refine mm_finv (va_runV (As := [.int i_1, .int i_2]) (rest := []) ⟨hx, hb, hml, hown, hts⟩ (K312_X6_begin l G cy H.size a_80 i_1 i_2 a_84 q15 q19) (cwV 2 hts (mm_gV mm_w1677 mm_w1678 mm_w1679 mm_w34 mm_w1680) rfl rfl rfl hd_X6_begin ⟨by rw [hRf]; exact Nat.le_of_ble_eq_true rfl, by rw [hRl]; exact Nat.le_of_ble_eq_true rfl⟩) (mm_preV hK hP hD [6, 7] rfl rfl 6 rfl rfl rfl) rfl rfl hl.1 rfl (lv_room (Nat.le_of_ble_eq_true rfl)) dX11_row_40 ⟨by rw [hRc]; exact Nat.le_of_ble_eq_true rfl, by rw [hRs]; exact Nat.le_of_ble_eq_true rfl⟩) hP hD hS hA (fun u : Int32 × (Nat → Int64) => [(a_0, .inr (11, [.ref a_1, .ref a_2, .ref a_3, .ref a_4, .ref a_5, .ref a_6, .ref a_7, .ref a_8, .ref a_9, .ref a_10, .ref a_11])), (a_6, .inl (cy 6, 4, .inr (.inr (.inr (.inr (va_up (va_up (va_up (va_up (fun _ => none) 0 (some a_78)) 1 (some a_79)) 2 (some a_80)) 3 (some a_81))))))), (a_78, .inr (6, [.int 0, .int 0, .int 0, .ref a_82])), (a_82, .inl (cy 2, 60, .inr (.inl (fun _ => 0)))), (a_79, .inr (6, [.int 0, .int 0, .int 0, .ref a_83])), (a_83, .inl (cy 2, 60, .inr (.inl (fun _ => 0)))), (a_80, .inr (6, [.int 1, .int i_1, .int u.1, .ref a_84])), (a_84, .inl (cy 2, 60, .inr (.inl u.2))), (a_81, .inr (6, [.int 0, .int 0, .int 0, .ref a_85])), (a_85, .inl (cy 2, 60, .inr (.inl (fun _ => 0))))]) [6, 7] [0, 1, 2, 3, 4, 5, 8, 9] (n := 10) (fun _ => rfl) (by decide +kernel) (by decide +kernel) rfl (fun _ => rfl) (wr := [(a_0, .inr (11, [.ref a_1, .ref a_2, .ref a_3, .ref a_4, .ref a_5, .ref a_6, .ref a_7, .ref a_8, .ref a_9, .ref a_10, .ref a_11])), (a_6, .inl (cy 6, 4, .inr (.inr (.inr (.inr (va_up (va_up (va_up (va_up (fun _ => none) 0 (some a_78)) 1 (some a_79)) 2 (some a_80)) 3 (some a_81))))))), (a_78, .inr (6, [.int 0, .int 0, .int 0, .ref a_82])), (a_82, .inl (cy 2, 60, .inr (.inl (fun _ => 0)))), (a_79, .inr (6, [.int 0, .int 0, .int 0, .ref a_83])), (a_83, .inl (cy 2, 60, .inr (.inl (fun _ => 0)))), (a_81, .inr (6, [.int 0, .int 0, .int 0, .ref a_85])), (a_85, .inl (cy 2, 60, .inr (.inl (fun _ => 0))))]) rfl (fun _ => rfl) (fun _ => rfl) ?_
                clear hP hD hS
                clear H locs
                intro u
                obtain ⟨n27, n28⟩ := u
                intro H locs hw (hP : va_P G vwCl [(a_0, .inr (11, [.ref a_1, .ref a_2, .ref a_3, .ref a_4, .ref a_5, .ref a_6, .ref a_7, .ref a_8, .ref a_9, .ref a_10, .ref a_11])), (a_6, .inl (cy 6, 4, .inr (.inr (.inr (.inr (va_up (va_up (va_up (va_up (fun _ => none) 0 (some a_78)) 1 (some a_79)) 2 (some a_80)) 3 (some a_81))))))), (a_78, .inr (6, [.int 0, .int 0, .int 0, .ref a_82])), (a_82, .inl (cy 2, 60, .inr (.inl (fun _ => 0)))), (a_79, .inr (6, [.int 0, .int 0, .int 0, .ref a_83])), (a_83, .inl (cy 2, 60, .inr (.inl (fun _ => 0)))), (a_80, .inr (6, [.int 1, .int i_1, .int n27, .ref a_84])), (a_84, .inl (cy 2, 60, .inr (.inl n28))), (a_81, .inr (6, [.int 0, .int 0, .int 0, .ref a_85])), (a_85, .inl (cy 2, 60, .inr (.inl (fun _ => 0))))] H) (hD : va_D A [(a_0, .inr (11, [.ref a_1, .ref a_2, .ref a_3, .ref a_4, .ref a_5, .ref a_6, .ref a_7, .ref a_8, .ref a_9, .ref a_10, .ref a_11])), (a_6, .inl (cy 6, 4, .inr (.inr (.inr (.inr (va_up (va_up (va_up (va_up (fun _ => none) 0 (some a_78)) 1 (some a_79)) 2 (some a_80)) 3 (some a_81))))))), (a_78, .inr (6, [.int 0, .int 0, .int 0, .ref a_82])), (a_82, .inl (cy 2, 60, .inr (.inl (fun _ => 0)))), (a_79, .inr (6, [.int 0, .int 0, .int 0, .ref a_83])), (a_83, .inl (cy 2, 60, .inr (.inl (fun _ => 0)))), (a_80, .inr (6, [.int 1, .int i_1, .int n27, .ref a_84])), (a_84, .inl (cy 2, 60, .inr (.inl n28))), (a_81, .inr (6, [.int 0, .int 0, .int 0, .ref a_85])), (a_85, .inl (cy 2, 60, .inr (.inl (fun _ => 0))))]) hS
                have w29 := hw
                refine lv_iconst (v := 0) hx hb dX11_row_43 (by decide) ?_
                subst hAe
                rw [hQ]
                exact W.iret (v := 0) hx hb hr (fun t ht hW => ⟨⟨0, (0, 0, 0, (fun _ => 0), 0, 0, 0, (fun _ => 0), 1, i_1, n27, n28, 0, 0, 0, (fun _ => 0)), rfl, ⟨(mm_wk mm_k0 (by decide)), (mm_wk mm_k0 (by decide)), (mm_wk mm_k0 (by decide)), (mm_wk mm_k0 (by decide)), (mm_wk mm_k0 (by decide)), (mm_wk mm_k0 (by decide)), (mm_wk mm_k1 (by decide)), q15, w29, (mm_wk mm_k0 (by decide)), (mm_wk mm_k0 (by decide)), (mm_wk mm_k0 (by decide)), (Or.inr (Or.inr (Or.inr (Or.inr (Or.inl ⟨rfl, (mm_wk mm_k2 (by decide)), q15, q19⟩)))))⟩, by rw [ht]; exact hP, hK.warm hW, hD⟩, hS.F ht⟩) hS.2.2 dX11_row_44
              · refine W.eq (g2 := F0 m 38 ls [.ref a_81]) rfl ?_
                refine lv_iload_n hx hb dX11_row_38 rfl (lv_at hl 2 rfl) ?_
                refine lv_iload_n hx hb dX11_row_39 rfl (lv_at hl 3 rfl) ?_
                refine mm_finv (va_runV (As := [.int i_1, .int i_2]) (rest := []) ⟨hx, hb, hml, hown, hts⟩ (K313_X6_begin l G cy H.size a_81 i_1 i_2 a_85 q15 q19) (cwV 2 hts (mm_gV mm_w1677 mm_w1678 mm_w1679 mm_w34 mm_w1680) rfl rfl rfl hd_X6_begin ⟨by rw [hRf]; exact Nat.le_of_ble_eq_true rfl, by rw [hRl]; exact Nat.le_of_ble_eq_true rfl⟩) (mm_preV hK hP hD [8, 9] rfl rfl 8 rfl rfl rfl) rfl rfl hl.1 rfl (lv_room (Nat.le_of_ble_eq_true rfl)) dX11_row_40 ⟨by rw [hRc]; exact Nat.le_of_ble_eq_true rfl, by rw [hRs]; exact Nat.le_of_ble_eq_true rfl⟩) hP hD hS hA (fun u : Int32 × (Nat → Int64) => [(a_0, .inr (11, [.ref a_1, .ref a_2, .ref a_3, .ref a_4, .ref a_5, .ref a_6, .ref a_7, .ref a_8, .ref a_9, .ref a_10, .ref a_11])), (a_6, .inl (cy 6, 4, .inr (.inr (.inr (.inr (va_up (va_up (va_up (va_up (fun _ => none) 0 (some a_78)) 1 (some a_79)) 2 (some a_80)) 3 (some a_81))))))), (a_78, .inr (6, [.int 0, .int 0, .int 0, .ref a_82])), (a_82, .inl (cy 2, 60, .inr (.inl (fun _ => 0)))), (a_79, .inr (6, [.int 0, .int 0, .int 0, .ref a_83])), (a_83, .inl (cy 2, 60, .inr (.inl (fun _ => 0)))), (a_80, .inr (6, [.int 0, .int 0, .int 0, .ref a_84])), (a_84, .inl (cy 2, 60, .inr (.inl (fun _ => 0)))), (a_81, .inr (6, [.int 1, .int i_1, .int u.1, .ref a_85])), (a_85, .inl (cy 2, 60, .inr (.inl u.2)))]) [8, 9] [0, 1, 2, 3, 4, 5, 6, 7] (n := 10) (fun _ => rfl) (by decide +kernel) (by decide +kernel) rfl (fun _ => rfl) (wr := [(a_0, .inr (11, [.ref a_1, .ref a_2, .ref a_3, .ref a_4, .ref a_5, .ref a_6, .ref a_7, .ref a_8, .ref a_9, .ref a_10, .ref a_11])), (a_6, .inl (cy 6, 4, .inr (.inr (.inr (.inr (va_up (va_up (va_up (va_up (fun _ => none) 0 (some a_78)) 1 (some a_79)) 2 (some a_80)) 3 (some a_81))))))), (a_78, .inr (6, [.int 0, .int 0, .int 0, .ref a_82])), (a_82, .inl (cy 2, 60, .inr (.inl (fun _ => 0)))), (a_79, .inr (6, [.int 0, .int 0, .int 0, .ref a_83])), (a_83, .inl (cy 2, 60, .inr (.inl (fun _ => 0)))), (a_80, .inr (6, [.int 0, .int 0, .int 0, .ref a_84])), (a_84, .inl (cy 2, 60, .inr (.inl (fun _ => 0))))]) rfl (fun _ => rfl) (fun _ => rfl) ?_
                clear hP hD hS
                clear H locs
                intro u
                obtain ⟨n30, n31⟩ := u
                intro H locs hw (hP : va_P G vwCl [(a_0, .inr (11, [.ref a_1, .ref a_2, .ref a_3, .ref a_4, .ref a_5, .ref a_6, .ref a_7, .ref a_8, .ref a_9, .ref a_10, .ref a_11])), (a_6, .inl (cy 6, 4, .inr (.inr (.inr (.inr (va_up (va_up (va_up (va_up (fun _ => none) 0 (some a_78)) 1 (some a_79)) 2 (some a_80)) 3 (some a_81))))))), (a_78, .inr (6, [.int 0, .int 0, .int 0, .ref a_82])), (a_82, .inl (cy 2, 60, .inr (.inl (fun _ => 0)))), (a_79, .inr (6, [.int 0, .int 0, .int 0, .ref a_83])), (a_83, .inl (cy 2, 60, .inr (.inl (fun _ => 0)))), (a_80, .inr (6, [.int 0, .int 0, .int 0, .ref a_84])), (a_84, .inl (cy 2, 60, .inr (.inl (fun _ => 0)))), (a_81, .inr (6, [.int 1, .int i_1, .int n30, .ref a_85])), (a_85, .inl (cy 2, 60, .inr (.inl n31)))] H) (hD : va_D A [(a_0, .inr (11, [.ref a_1, .ref a_2, .ref a_3, .ref a_4, .ref a_5, .ref a_6, .ref a_7, .ref a_8, .ref a_9, .ref a_10, .ref a_11])), (a_6, .inl (cy 6, 4, .inr (.inr (.inr (.inr (va_up (va_up (va_up (va_up (fun _ => none) 0 (some a_78)) 1 (some a_79)) 2 (some a_80)) 3 (some a_81))))))), (a_78, .inr (6, [.int 0, .int 0, .int 0, .ref a_82])), (a_82, .inl (cy 2, 60, .inr (.inl (fun _ => 0)))), (a_79, .inr (6, [.int 0, .int 0, .int 0, .ref a_83])), (a_83, .inl (cy 2, 60, .inr (.inl (fun _ => 0)))), (a_80, .inr (6, [.int 0, .int 0, .int 0, .ref a_84])), (a_84, .inl (cy 2, 60, .inr (.inl (fun _ => 0)))), (a_81, .inr (6, [.int 1, .int i_1, .int n30, .ref a_85])), (a_85, .inl (cy 2, 60, .inr (.inl n31)))]) hS
                have w32 := hw
                refine lv_iconst (v := 0) hx hb dX11_row_43 (by decide) ?_
                subst hAe
                rw [hQ]
                exact W.iret (v := 0) hx hb hr (fun t ht hW => ⟨⟨0, (0, 0, 0, (fun _ => 0), 0, 0, 0, (fun _ => 0), 0, 0, 0, (fun _ => 0), 1, i_1, n30, n31), rfl, ⟨(mm_wk mm_k0 (by decide)), (mm_wk mm_k0 (by decide)), (mm_wk mm_k0 (by decide)), (mm_wk mm_k0 (by decide)), (mm_wk mm_k0 (by decide)), (mm_wk mm_k0 (by decide)), (mm_wk mm_k0 (by decide)), (mm_wk mm_k0 (by decide)), (mm_wk mm_k0 (by decide)), (mm_wk mm_k1 (by decide)), q15, w32, (Or.inr (Or.inr (Or.inr (Or.inr (Or.inl ⟨rfl, (mm_wk mm_k3 (by decide)), q15, q19⟩)))))⟩, by rw [ht]; exact hP, hK.warm hW, hD⟩, hS.F ht⟩) hS.2.2 dX11_row_44
            · have q33 := mm_ltL (h := (-1)) (mm_nle c18) q17 mm_k0 (by decide)
              refine lv_bipush (v := (-3)) hx hb dX11_row_29 (by decide) ?_
              subst hAe
              rw [hQ]
              exact W.iret (v := (-3)) hx hb hr (fun t ht hW => ⟨⟨(-3), (0, 0, 0, (fun _ => 0), 0, 0, 0, (fun _ => 0), 0, 0, 0, (fun _ => 0), 0, 0, 0, (fun _ => 0)), rfl, ⟨(mm_wk mm_k0 (by decide)), (mm_wk mm_k0 (by decide)), (mm_wk mm_k0 (by decide)), (mm_wk mm_k0 (by decide)), (mm_wk mm_k0 (by decide)), (mm_wk mm_k0 (by decide)), (mm_wk mm_k0 (by decide)), (mm_wk mm_k0 (by decide)), (mm_wk mm_k0 (by decide)), (mm_wk mm_k0 (by decide)), (mm_wk mm_k0 (by decide)), (mm_wk mm_k0 (by decide)), (Or.inr (Or.inr (Or.inr (Or.inr (Or.inr (Or.inl ⟨rfl, w4, q15, q33⟩))))))⟩, by rw [ht]; exact hP, hK.warm hW, hD⟩, hS.F ht⟩) hS.2.2 dX11_row_31
          · have q34 := mm_ltR (lo := 61) (mm_nle c16) mm_k60 (mm_top i_2) (by decide)
            refine lv_bipush (v := (-2)) hx hb dX11_row_22 (by decide) ?_
            subst hAe
            rw [hQ]
            exact W.iret (v := (-2)) hx hb hr (fun t ht hW => ⟨⟨(-2), (0, 0, 0, (fun _ => 0), 0, 0, 0, (fun _ => 0), 0, 0, 0, (fun _ => 0), 0, 0, 0, (fun _ => 0)), rfl, ⟨(mm_wk mm_k0 (by decide)), (mm_wk mm_k0 (by decide)), (mm_wk mm_k0 (by decide)), (mm_wk mm_k0 (by decide)), (mm_wk mm_k0 (by decide)), (mm_wk mm_k0 (by decide)), (mm_wk mm_k0 (by decide)), (mm_wk mm_k0 (by decide)), (mm_wk mm_k0 (by decide)), (mm_wk mm_k0 (by decide)), (mm_wk mm_k0 (by decide)), (mm_wk mm_k0 (by decide)), (Or.inr (Or.inr (Or.inr (Or.inr (Or.inr (Or.inr ⟨rfl, w4, q15, q34⟩))))))⟩, by rw [ht]; exact hP, hK.warm hW, hD⟩, hS.F ht⟩) hS.2.2 dX11_row_24

set_option maxHeartbeats 4000000 in
set_option maxRecDepth 100000 in
theorem K314_X12_row (l : Launch) (G : va_G) (cy : Nat → ClassId) (sz : Nat) (a_0 : Nat) (i_0 : Int32) (i_1 : Int32) (i_2 : Int32) (a_1 : Nat) (a_2 : Nat) (a_3 : Nat) (a_4 : Nat) (a_5 : Nat) (k_0 : Int32) (k_1 : Int32) (k_2 : Int32) (k_3 : Int32) (k_4 : Int32) (k_5 : Int64) (k_6 : Int32) (k_7 : Int32) (k_8 : Int32) (k_9 : Int32) (a_6 : Nat) (a_7 : Nat) (a_8 : Nat) (a_9 : Nat) (a_10 : Nat) (a_11 : Nat) (a_12 : Nat) (a_13 : Nat) (a_14 : Nat) (a_15 : Nat) (a_16 : Nat) (a_17 : Nat) (a_18 : Nat) (k_10 : Int32) (k_11 : Int32) (k_12 : Int32) (k_13 : Int32) (k_14 : Int32) (k_15 : Int32) (a_19 : Nat) (k_16 : Int32) (a_20 : Nat)   : mm_CI l yX12_row (mm_ws yX12_row cX12_row 5 (some .int)) ({ frames := 2, cells := 0, slots := 0, locals := 45 } : Room) G cy sz [(a_0, .inr (12, [.int 0, .ref a_1, .ref a_2, .ref a_3, .ref a_4, .ref a_5, .int k_0, .int k_1, .int k_2, .int k_3, .int k_4, .long k_5, .int k_6, .int k_7, .int k_8, .int k_9, .ref a_6, .ref a_7, .ref a_8, .ref a_9, .ref a_10, .ref a_11, .ref a_12, .ref a_13, .ref a_14, .ref a_15, .ref a_16, .ref a_17, .ref a_18, .int k_10, .int k_11, .int k_12, .int k_13, .int k_14, .int k_15, .ref a_19, .int k_16, .ref a_20])), (a_1, .inl (cy 1, 4, .inl (fun _ => (-1)))), (a_2, .inl (cy 1, 4, .inl (fun _ => 0))), (a_3, .inl (cy 2, 240, .inr (.inl (fun _ => 0))))] [.ref a_0, .int i_0, .int i_1, .int i_2] (fun u : (Nat → Int32) × (Nat → Int32) × (Nat → Int64) => [(a_0, .inr (12, [.int 0, .ref a_1, .ref a_2, .ref a_3, .ref a_4, .ref a_5, .int k_0, .int k_1, .int k_2, .int k_3, .int k_4, .long k_5, .int k_6, .int k_7, .int k_8, .int k_9, .ref a_6, .ref a_7, .ref a_8, .ref a_9, .ref a_10, .ref a_11, .ref a_12, .ref a_13, .ref a_14, .ref a_15, .ref a_16, .ref a_17, .ref a_18, .int k_10, .int k_11, .int k_12, .int k_13, .int k_14, .int k_15, .ref a_19, .int k_16, .ref a_20])), (a_1, .inl (cy 1, 4, .inl u.1)), (a_2, .inl (cy 1, 4, .inl u.2.1)), (a_3, .inl (cy 2, 240, .inr (.inl u.2.2)))]) (fun (r : Int32) (u : (Nat → Int32) × (Nat → Int32) × (Nat → Int64)) => mm_ar u.1 (-1) 3 ∧ mm_ar u.2.1 0 60 ∧ (((-2) = r ∧ mm_rg i_0 (-2147483648) (-1)) ∨ ((-2) = r ∧ mm_rg i_0 4 2147483647) ∨ ((-2) = r ∧ mm_rg i_0 0 3 ∧ mm_rg i_1 (-2147483648) (-1)) ∨ ((-2) = r ∧ mm_rg i_0 0 3 ∧ mm_rg i_1 4 2147483647) ∨ (0 = r ∧ mm_rg i_0 0 3 ∧ mm_rg i_1 0 3 ∧ mm_rg i_2 0 60) ∨ ((-3) = r ∧ mm_rg i_0 0 3 ∧ mm_rg i_1 0 3 ∧ mm_rg i_2 (-2147483648) (-1)) ∨ ((-2) = r ∧ mm_rg i_0 0 3 ∧ mm_rg i_1 0 3 ∧ mm_rg i_2 61 2147483647))) 0 0 := by
  refine mm_begin (lv := [(0, .ref a_0), (1, .int i_0), (2, .int i_1), (3, .int i_2)]) (by decide) (Nat.le_of_ble_eq_true rfl) rfl ?_
  intro p e s m below meth c A ls R args Q H locs hRe hQ hAe hx hb hr hlocks hml hown hnm hts hsz hA hS hP hK hD hl
  have hRf : R.frames = 2 := by rw [hRe]
  have hRl : R.locals = 45 := by rw [hRe]
  have hRc : R.cells = 0 := by rw [hRe]
  have hRs : R.slots = 0 := by rw [hRe]
  refine lv_aload_n hx hb dX12_row_0 rfl (lv_at hl 0 rfl) ?_
  refine lv_iconst (v := 0) hx hb dX12_row_1 (by decide) ?_
  refine va_put (D := G) (ci := 12) (v := .int 0) (ty := tyX12 0) (C := RX12) (T := TX12) (N := 38) hx hb hts (mm_i inlX12) tyX12 tyX12_ok nmX12 hown hK.1 hP hD hS 0 rfl rfl 0 (by decide) (mm_h hts mm_w177) (fun _ h9 => h9) rfl (tyX12_ok 0 (by decide)) rfl rfl (Nat.le_of_ble_eq_true rfl) dX12_row_2 ?_
  clear hP hD hS
  clear H locs
  intro H locs (hP : va_P G vwCl [(a_0, .inr (12, [.int 0, .ref a_1, .ref a_2, .ref a_3, .ref a_4, .ref a_5, .int k_0, .int k_1, .int k_2, .int k_3, .int k_4, .long k_5, .int k_6, .int k_7, .int k_8, .int k_9, .ref a_6, .ref a_7, .ref a_8, .ref a_9, .ref a_10, .ref a_11, .ref a_12, .ref a_13, .ref a_14, .ref a_15, .ref a_16, .ref a_17, .ref a_18, .int k_10, .int k_11, .int k_12, .int k_13, .int k_14, .int k_15, .ref a_19, .int k_16, .ref a_20])), (a_1, .inl (cy 1, 4, .inl (fun _ => (-1)))), (a_2, .inl (cy 1, 4, .inl (fun _ => 0))), (a_3, .inl (cy 2, 240, .inr (.inl (fun _ => 0))))] H) (hD : va_D A [(a_0, .inr (12, [.int 0, .ref a_1, .ref a_2, .ref a_3, .ref a_4, .ref a_5, .int k_0, .int k_1, .int k_2, .int k_3, .int k_4, .long k_5, .int k_6, .int k_7, .int k_8, .int k_9, .ref a_6, .ref a_7, .ref a_8, .ref a_9, .ref a_10, .ref a_11, .ref a_12, .ref a_13, .ref a_14, .ref a_15, .ref a_16, .ref a_17, .ref a_18, .int k_10, .int k_11, .int k_12, .int k_13, .int k_14, .int k_15, .ref a_19, .int k_16, .ref a_20])), (a_1, .inl (cy 1, 4, .inl (fun _ => (-1)))), (a_2, .inl (cy 1, 4, .inl (fun _ => 0))), (a_3, .inl (cy 2, 240, .inr (.inl (fun _ => 0))))]) hS
  refine lv_iload_n hx hb dX12_row_5 rfl (lv_at hl 1 rfl) ?_
  refine mm_finir (va_runS (As := [.int i_0]) (rest := []) ⟨hx, hb, hml, hown, hts⟩ (K217_X12_isSlot l G cy H.size i_0 ) (va_cwS 1 hts (mm_gS mm_w1269 mm_w1270 mm_w5 mm_w1271) rfl rfl rfl hs_X12_isSlot ⟨by rw [hRf]; exact Nat.le_of_ble_eq_true rfl, by rw [hRl]; exact Nat.le_of_ble_eq_true rfl⟩) (mm_preS hK hP hD [] rfl rfl) rfl rfl hl.1 rfl (lv_room (Nat.le_of_ble_eq_true rfl)) dX12_row_6 ⟨by rw [hRc]; exact Nat.le_of_ble_eq_true rfl, by rw [hRs]; exact Nat.le_of_ble_eq_true rfl⟩) hP hD hS hA [] rfl (fun _ => rfl) ?_
  clear hP hD hS
  clear H locs
  intro v1 _u H locs hw hP hD hS
  rcases hw with ⟨rfl, w2⟩ | ⟨rfl, w3⟩ | ⟨rfl, w4⟩
  · refine lv_if_eq (tgt := 30) hx hb dX12_row_9 (by decide) (fun c5 => ?_) (fun c5 => ?_)
    · refine lv_bipush (v := (-2)) hx hb dX12_row_30 (by decide) ?_
      subst hAe
      rw [hQ]
      exact W.iret (v := (-2)) hx hb hr (fun t ht hW => ⟨⟨(-2), ((fun _ => (-1)), (fun _ => 0), (fun _ => 0)), rfl, ⟨(mm_ar_wk (mm_ar_c mm_km1) (by decide)), (mm_ar_wk (mm_ar_c mm_k0) (by decide)), (Or.inl ⟨rfl, w2⟩)⟩, by rw [ht]; exact hP, hK.warm hW, hD⟩, hS.F ht⟩) hS.2.2 dX12_row_32
    · have q6 := mm_neL (lo := 1) (mm_ne c5) mm_k0 mm_k0 (by decide) (by decide)
      exact mm_no q6 (by decide)
  · refine lv_if_eq (tgt := 30) hx hb dX12_row_9 (by decide) (fun c7 => ?_) (fun c7 => ?_)
    · refine lv_bipush (v := (-2)) hx hb dX12_row_30 (by decide) ?_
      subst hAe
      rw [hQ]
      exact W.iret (v := (-2)) hx hb hr (fun t ht hW => ⟨⟨(-2), ((fun _ => (-1)), (fun _ => 0), (fun _ => 0)), rfl, ⟨(mm_ar_wk (mm_ar_c mm_km1) (by decide)), (mm_ar_wk (mm_ar_c mm_k0) (by decide)), (Or.inr (Or.inl ⟨rfl, w3⟩))⟩, by rw [ht]; exact hP, hK.warm hW, hD⟩, hS.F ht⟩) hS.2.2 dX12_row_32
    · have q8 := mm_neL (lo := 1) (mm_ne c7) mm_k0 mm_k0 (by decide) (by decide)
      exact mm_no q8 (by decide)
  · refine lv_if_eq (tgt := 30) hx hb dX12_row_9 (by decide) (fun c9 => ?_) (fun c9 => ?_)
    · exact mm_eqN c9.symm mm_k0 mm_k1 (by decide)
    · refine lv_iload_n hx hb dX12_row_12 rfl (lv_at hl 2 rfl) ?_
      obtain ⟨v10, ev10⟩ : ∃ y : Int64, y = i_1.toInt64 := ⟨_, rfl⟩
      refine lv_i2l hx hb dX12_row_13 ev10.symm ?_
      have rv10 : mm_rl v10 (-2147483648) 2147483647 := mm_i2l ev10 (mm_top i_1)
      refine lv_lconst (v := 0) hx hb dX12_row_14 (by decide) ?_
      refine lv_ldc2 (v := 3) hx hb hown (mm_h hts mm_w1272) dX12_row_15 ?_
      refine mm_finir (va_runS (As := [.long v10, .long 0, .long 3]) (rest := []) ⟨hx, hb, hml, hown, hts⟩ (K216_X12_in l G cy H.size v10 rv10) (va_cwS 3 hts (mm_gS mm_w191 mm_w192 mm_w5 mm_w193) rfl rfl rfl hs_X12_in ⟨by rw [hRf]; exact Nat.le_of_ble_eq_true rfl, by rw [hRl]; exact Nat.le_of_ble_eq_true rfl⟩) (mm_preS hK hP hD [] rfl rfl) rfl rfl hl.1 rfl (lv_room (Nat.le_of_ble_eq_true rfl)) dX12_row_18 ⟨by rw [hRc]; exact Nat.le_of_ble_eq_true rfl, by rw [hRs]; exact Nat.le_of_ble_eq_true rfl⟩) hP hD hS hA [] rfl (fun _ => rfl) ?_
      clear hP hD hS
      clear H locs
      intro v11 _u H locs hw hP hD hS
      rcases hw with ⟨rfl, w12⟩ | ⟨rfl, w13⟩ | ⟨rfl, w14⟩
      · have q15 := mm_meet (lo := (-2147483648)) (hi := (-1)) (mm_l2x ev10 w12) (mm_top i_1) (by decide)
        refine lv_if_eq (tgt := 30) hx hb dX12_row_21 (by decide) (fun c16 => ?_) (fun c16 => ?_)
        · refine lv_bipush (v := (-2)) hx hb dX12_row_30 (by decide) ?_
          subst hAe
          rw [hQ]
          exact W.iret (v := (-2)) hx hb hr (fun t ht hW => ⟨⟨(-2), ((fun _ => (-1)), (fun _ => 0), (fun _ => 0)), rfl, ⟨(mm_ar_wk (mm_ar_c mm_km1) (by decide)), (mm_ar_wk (mm_ar_c mm_k0) (by decide)), (Or.inr (Or.inr (Or.inl ⟨rfl, w4, q15⟩)))⟩, by rw [ht]; exact hP, hK.warm hW, hD⟩, hS.F ht⟩) hS.2.2 dX12_row_32
        · have q17 := mm_neL (lo := 1) (mm_ne c16) mm_k0 mm_k0 (by decide) (by decide)
          exact mm_no q17 (by decide)
      · have q18 := mm_meet (lo := 4) (hi := 2147483647) (mm_l2x ev10 w13) (mm_top i_1) (by decide)
        refine lv_if_eq (tgt := 30) hx hb dX12_row_21 (by decide) (fun c19 => ?_) (fun c19 => ?_)
        · refine lv_bipush (v := (-2)) hx hb dX12_row_30 (by decide) ?_
          subst hAe
          rw [hQ]
          exact W.iret (v := (-2)) hx hb hr (fun t ht hW => ⟨⟨(-2), ((fun _ => (-1)), (fun _ => 0), (fun _ => 0)), rfl, ⟨(mm_ar_wk (mm_ar_c mm_km1) (by decide)), (mm_ar_wk (mm_ar_c mm_k0) (by decide)), (Or.inr (Or.inr (Or.inr (Or.inl ⟨rfl, w4, q18⟩))))⟩, by rw [ht]; exact hP, hK.warm hW, hD⟩, hS.F ht⟩) hS.2.2 dX12_row_32
        · have q20 := mm_neL (lo := 1) (mm_ne c19) mm_k0 mm_k0 (by decide) (by decide)
          exact mm_no q20 (by decide)
      · have q21 := mm_meet (lo := 0) (hi := 3) (mm_l2x ev10 w14) (mm_top i_1) (by decide)
        refine lv_if_eq (tgt := 30) hx hb dX12_row_21 (by decide) (fun c22 => ?_) (fun c22 => ?_)
        · exact mm_eqN c22.symm mm_k0 mm_k1 (by decide)
        · refine lv_iload_n hx hb dX12_row_24 rfl (lv_at hl 3 rfl) ?_
          refine lv_bipush (v := 60) hx hb dX12_row_25 (by decide) ?_
          refine lv_icmp_le (tgt := 33) hx hb dX12_row_27 (by decide) (fun c23 => ?_) (fun c23 => ?_)
          · have q24 := mm_leL (mm_le c23) (mm_top i_2) mm_k60
            refine lv_iload_n hx hb dX12_row_33 rfl (lv_at hl 3 rfl) ?_
            refine lv_if_ge (tgt := 40) hx hb dX12_row_34 (by decide) (fun c25 => ?_) (fun c25 => ?_)
            · have q26 := mm_leR (mm_le c25) mm_k0 q24
              refine lv_aload_n hx hb dX12_row_40 rfl (lv_at hl 0 rfl) ?_
              refine va_get (D := G) (ci := 12) (v := .ref a_1) (C := RX12) (T := TX12) (N := 38) hx hb hts (mm_i inlX12) hown hK.1 hP 0 rfl rfl 1 (by decide) (mm_h hts mm_w142) (fun _ h9 => h9) rfl dX12_row_41 ?_
              refine lv_iload_n hx hb dX12_row_44 rfl (lv_at hl 1 rfl) ?_
              refine lv_iload_n hx hb dX12_row_45 rfl (lv_at hl 2 rfl) ?_
              refine va_iast hx hb hK.1 hP hD hS 1 1 rfl rfl (mm_in w4 (by decide)) dX12_row_46 ?_
              clear hP hD hS
              clear H locs
              obtain ⟨g27, eg27⟩ : ∃ z : Nat → Int32, z = upd (fun _ => (-1)) i_0.toNatClampNeg i_1 := ⟨_, rfl⟩
              rw [← eg27]
              intro H locs (hP : va_P G vwCl [(a_0, .inr (12, [.int 0, .ref a_1, .ref a_2, .ref a_3, .ref a_4, .ref a_5, .int k_0, .int k_1, .int k_2, .int k_3, .int k_4, .long k_5, .int k_6, .int k_7, .int k_8, .int k_9, .ref a_6, .ref a_7, .ref a_8, .ref a_9, .ref a_10, .ref a_11, .ref a_12, .ref a_13, .ref a_14, .ref a_15, .ref a_16, .ref a_17, .ref a_18, .int k_10, .int k_11, .int k_12, .int k_13, .int k_14, .int k_15, .ref a_19, .int k_16, .ref a_20])), (a_1, .inl (cy 1, 4, .inl g27)), (a_2, .inl (cy 1, 4, .inl (fun _ => 0))), (a_3, .inl (cy 2, 240, .inr (.inl (fun _ => 0))))] H) (hD : va_D A [(a_0, .inr (12, [.int 0, .ref a_1, .ref a_2, .ref a_3, .ref a_4, .ref a_5, .int k_0, .int k_1, .int k_2, .int k_3, .int k_4, .long k_5, .int k_6, .int k_7, .int k_8, .int k_9, .ref a_6, .ref a_7, .ref a_8, .ref a_9, .ref a_10, .ref a_11, .ref a_12, .ref a_13, .ref a_14, .ref a_15, .ref a_16, .ref a_17, .ref a_18, .int k_10, .int k_11, .int k_12, .int k_13, .int k_14, .int k_15, .ref a_19, .int k_16, .ref a_20])), (a_1, .inl (cy 1, 4, .inl g27)), (a_2, .inl (cy 1, 4, .inl (fun _ => 0))), (a_3, .inl (cy 2, 240, .inr (.inl (fun _ => 0))))]) hS
              have rg27 : mm_ar g27 (-1) 3 := by rw [eg27]; exact mm_ar_upd (mm_ar_wk (mm_ar_c mm_km1) (by decide)) (mm_wk q21 (by decide)) _
              refine lv_aload_n hx hb dX12_row_47 rfl (lv_at hl 0 rfl) ?_
              refine va_get (D := G) (ci := 12) (v := .ref a_2) (C := RX12) (T := TX12) (N := 38) hx hb hts (mm_i inlX12) hown hK.1 hP 0 rfl rfl 2 (by decide) (mm_h hts mm_w143) (fun _ h9 => h9) rfl dX12_row_48 ?_
              refine lv_iload_n hx hb dX12_row_51 rfl (lv_at hl 1 rfl) ?_
              refine lv_iload_n hx hb dX12_row_52 rfl (lv_at hl 3 rfl) ?_
              refine va_iast hx hb hK.1 hP hD hS 2 1 rfl rfl (mm_in w4 (by decide)) dX12_row_53 ?_
              clear hP hD hS
              clear H locs
              obtain ⟨g28, eg28⟩ : ∃ z : Nat → Int32, z = upd (fun _ => 0) i_0.toNatClampNeg i_2 := ⟨_, rfl⟩
              rw [← eg28]
              intro H locs (hP : va_P G vwCl [(a_0, .inr (12, [.int 0, .ref a_1, .ref a_2, .ref a_3, .ref a_4, .ref a_5, .int k_0, .int k_1, .int k_2, .int k_3, .int k_4, .long k_5, .int k_6, .int k_7, .int k_8, .int k_9, .ref a_6, .ref a_7, .ref a_8, .ref a_9, .ref a_10, .ref a_11, .ref a_12, .ref a_13, .ref a_14, .ref a_15, .ref a_16, .ref a_17, .ref a_18, .int k_10, .int k_11, .int k_12, .int k_13, .int k_14, .int k_15, .ref a_19, .int k_16, .ref a_20])), (a_1, .inl (cy 1, 4, .inl g27)), (a_2, .inl (cy 1, 4, .inl g28)), (a_3, .inl (cy 2, 240, .inr (.inl (fun _ => 0))))] H) (hD : va_D A [(a_0, .inr (12, [.int 0, .ref a_1, .ref a_2, .ref a_3, .ref a_4, .ref a_5, .int k_0, .int k_1, .int k_2, .int k_3, .int k_4, .long k_5, .int k_6, .int k_7, .int k_8, .int k_9, .ref a_6, .ref a_7, .ref a_8, .ref a_9, .ref a_10, .ref a_11, .ref a_12, .ref a_13, .ref a_14, .ref a_15, .ref a_16, .ref a_17, .ref a_18, .int k_10, .int k_11, .int k_12, .int k_13, .int k_14, .int k_15, .ref a_19, .int k_16, .ref a_20])), (a_1, .inl (cy 1, 4, .inl g27)), (a_2, .inl (cy 1, 4, .inl g28)), (a_3, .inl (cy 2, 240, .inr (.inl (fun _ => 0))))]) hS
              have rg28 : mm_ar g28 0 60 := by rw [eg28]; exact mm_ar_upd (mm_ar_wk (mm_ar_c mm_k0) (by decide)) (mm_wk q26 (by decide)) _
              refine lv_iconst (v := 0) hx hb dX12_row_54 (by decide) ?_
              refine lv_istore (lv' := [(4, .int 0), (0, .ref a_0), (1, .int i_0), (2, .int i_1), (3, .int i_2)]) hx hb dX12_row_55 hl (by decide) rfl ?_
              clear hl
              clear ls
              intro ls hl
              have L57_71 : ∀ (n : Nat) (x57_4_70 : Int32) (z57_3_71 : Nat → Int64), mm_rg x57_4_70 0 60 → (60 - x57_4_70.toInt).toNat < n → ∀ (H : Heap) (locs : List Loc), va_P G vwCl [(a_0, .inr (12, [.int 0, .ref a_1, .ref a_2, .ref a_3, .ref a_4, .ref a_5, .int k_0, .int k_1, .int k_2, .int k_3, .int k_4, .long k_5, .int k_6, .int k_7, .int k_8, .int k_9, .ref a_6, .ref a_7, .ref a_8, .ref a_9, .ref a_10, .ref a_11, .ref a_12, .ref a_13, .ref a_14, .ref a_15, .ref a_16, .ref a_17, .ref a_18, .int k_10, .int k_11, .int k_12, .int k_13, .int k_14, .int k_15, .ref a_19, .int k_16, .ref a_20])), (a_1, .inl (cy 1, 4, .inl g27)), (a_2, .inl (cy 1, 4, .inl g28)), (a_3, .inl (cy 2, 240, .inr (.inl z57_3_71)))] H → va_D A [(a_0, .inr (12, [.int 0, .ref a_1, .ref a_2, .ref a_3, .ref a_4, .ref a_5, .int k_0, .int k_1, .int k_2, .int k_3, .int k_4, .long k_5, .int k_6, .int k_7, .int k_8, .int k_9, .ref a_6, .ref a_7, .ref a_8, .ref a_9, .ref a_10, .ref a_11, .ref a_12, .ref a_13, .ref a_14, .ref a_15, .ref a_16, .ref a_17, .ref a_18, .int k_10, .int k_11, .int k_12, .int k_13, .int k_14, .int k_15, .ref a_19, .int k_16, .ref a_20])), (a_1, .inl (cy 1, 4, .inl g27)), (a_2, .inl (cy 1, 4, .inl g28)), (a_3, .inl (cy 2, 240, .inr (.inl z57_3_71)))] → va_S A s.heap H locs → ∀ (ls : Array Slot), lv_has ls 5 [(4, .int x57_4_70), (0, .ref a_0), (1, .int i_0), (2, .int i_1), (3, .int i_2)] → W p l e R s m args below meth c H locs 0 0 Q (F0 m 57 ls []) := by
                intro n
                induction n with
                | zero => intro x57_4_70 z57_3_71 rx57_4_70 hm; exact absurd hm (Nat.not_lt_zero _)
                | succ n ih57 =>
                  intro x57_4_70 z57_3_71 rx57_4_70 hm57 H locs hP hD hS ls hl
                  refine lv_iload hx hb dX12_row_57 (lv_at hl 0 rfl) ?_
                  refine lv_iload_n hx hb dX12_row_59 rfl (lv_at hl 4 rfl) ?_
                  refine lv_icmp_ge (tgt := 82) hx hb dX12_row_60 (by decide) (fun c73 => ?_) (fun c73 => ?_)
                  · refine lv_iconst (v := 0) hx hb dX12_row_82 (by decide) ?_
                    subst hAe
                    rw [hQ]
                    exact W.iret (v := 0) hx hb hr (fun t ht hW => ⟨⟨0, (g27, g28, z57_3_71), rfl, ⟨rg27, rg28, (Or.inr (Or.inr (Or.inr (Or.inr (Or.inl ⟨rfl, w4, q21, q26⟩)))))⟩, by rw [ht]; exact hP, hK.warm hW, hD⟩, hS.F ht⟩) hS.2.2 dX12_row_83
                  · have q74 := mm_ltL (h := 59) (mm_nle c73) rx57_4_70 q26 (by decide)
                    have q75 := mm_ltR (lo := 1) (mm_nle c73) rx57_4_70 q26 (by decide)
                    refine lv_aload_n hx hb dX12_row_63 rfl (lv_at hl 1 rfl) ?_
                    refine va_get (D := G) (ci := 12) (v := .ref a_3) (C := RX12) (T := TX12) (N := 38) hx hb hts (mm_i inlX12) hown hK.1 hP 0 rfl rfl 3 (by decide) (mm_h hts mm_w144) (fun _ h9 => h9) rfl dX12_row_64 ?_
                    refine lv_bipush (v := 60) hx hb dX12_row_67 (by decide) ?_
                    refine lv_iload_n hx hb dX12_row_69 rfl (lv_at hl 2 rfl) ?_
                    refine lv_imul hx hb dX12_row_70 ?_
                    refine lv_topi (fun v76 ev76 => ?_)
                    have rv76 : mm_rg v76 0 180 := mm_mul ev76 mm_k60 w4 (by decide) (by decide)
                    refine lv_iload hx hb dX12_row_71 (lv_at hl 0 rfl) ?_
                    refine lv_iadd hx hb dX12_row_73 ?_
                    refine lv_topi (fun v77 ev77 => ?_)
                    have rv77 : mm_rg v77 0 239 := mm_add ev77 rv76 q74 (by decide) (by decide)
                    have tv77 := mm_addE ev77 rv76 q74 (by decide)
                    refine lv_lconst (v := 0) hx hb dX12_row_74 (by decide) ?_
                    refine va_last hx hb hK.1 hP hD hS 3 2 rfl rfl (mm_in rv77 (by decide)) dX12_row_75 ?_
                    clear hP hD hS
                    clear H locs
                    obtain ⟨g78, eg78⟩ : ∃ z : Nat → Int64, z = vp_updL z57_3_71 v77.toNatClampNeg 0 := ⟨_, rfl⟩
                    rw [← eg78]
                    intro H locs (hP : va_P G vwCl [(a_0, .inr (12, [.int 0, .ref a_1, .ref a_2, .ref a_3, .ref a_4, .ref a_5, .int k_0, .int k_1, .int k_2, .int k_3, .int k_4, .long k_5, .int k_6, .int k_7, .int k_8, .int k_9, .ref a_6, .ref a_7, .ref a_8, .ref a_9, .ref a_10, .ref a_11, .ref a_12, .ref a_13, .ref a_14, .ref a_15, .ref a_16, .ref a_17, .ref a_18, .int k_10, .int k_11, .int k_12, .int k_13, .int k_14, .int k_15, .ref a_19, .int k_16, .ref a_20])), (a_1, .inl (cy 1, 4, .inl g27)), (a_2, .inl (cy 1, 4, .inl g28)), (a_3, .inl (cy 2, 240, .inr (.inl g78)))] H) (hD : va_D A [(a_0, .inr (12, [.int 0, .ref a_1, .ref a_2, .ref a_3, .ref a_4, .ref a_5, .int k_0, .int k_1, .int k_2, .int k_3, .int k_4, .long k_5, .int k_6, .int k_7, .int k_8, .int k_9, .ref a_6, .ref a_7, .ref a_8, .ref a_9, .ref a_10, .ref a_11, .ref a_12, .ref a_13, .ref a_14, .ref a_15, .ref a_16, .ref a_17, .ref a_18, .int k_10, .int k_11, .int k_12, .int k_13, .int k_14, .int k_15, .ref a_19, .int k_16, .ref a_20])), (a_1, .inl (cy 1, 4, .inl g27)), (a_2, .inl (cy 1, 4, .inl g28)), (a_3, .inl (cy 2, 240, .inr (.inl g78)))]) hS
                    obtain ⟨v79, ev79⟩ : ∃ y : Int32, y = x57_4_70 + 1 := ⟨_, rfl⟩
                    refine lv_iinc (v := v79) (lv' := [(4, .int v79), (0, .ref a_0), (1, .int i_0), (2, .int i_1), (3, .int i_2)]) hx hb dX12_row_76 hl (k := 0) rfl (by rw [ev79]; rfl) (by decide) rfl ?_
                    clear hl
                    clear ls
                    intro ls hl
                    have rv79 : mm_rg v79 1 60 := mm_add ev79 q74 mm_k1 (by decide) (by decide)
                    have tv79 := mm_addE ev79 q74 mm_k1 (by decide)
                    refine lv_goto (tgt := 57) hx hb dX12_row_79 (by decide) ?_
                    exact ih57 v79 g78 (mm_wk rv79 (by decide)) (mm_mu hm57 tv79 (by decide) (rv79).2 (by decide)) H locs hP hD hS ls (lv_sub hl [0, 1, 2, 3, 4] rfl)
              exact L57_71 _ 0 (fun _ => 0) (mm_wk mm_k0 (by decide)) (Nat.lt_succ_self _) H locs hP hD hS ls (lv_sub hl [0, 1, 2, 3, 4] rfl)
            · have q80 := mm_ltL (h := (-1)) (mm_nle c25) q24 mm_k0 (by decide)
              refine lv_bipush (v := (-3)) hx hb dX12_row_37 (by decide) ?_
              subst hAe
              rw [hQ]
              exact W.iret (v := (-3)) hx hb hr (fun t ht hW => ⟨⟨(-3), ((fun _ => (-1)), (fun _ => 0), (fun _ => 0)), rfl, ⟨(mm_ar_wk (mm_ar_c mm_km1) (by decide)), (mm_ar_wk (mm_ar_c mm_k0) (by decide)), (Or.inr (Or.inr (Or.inr (Or.inr (Or.inr (Or.inl ⟨rfl, w4, q21, q80⟩))))))⟩, by rw [ht]; exact hP, hK.warm hW, hD⟩, hS.F ht⟩) hS.2.2 dX12_row_39
          · have q81 := mm_ltR (lo := 61) (mm_nle c23) mm_k60 (mm_top i_2) (by decide)
            refine lv_bipush (v := (-2)) hx hb dX12_row_30 (by decide) ?_
            subst hAe
            rw [hQ]
            exact W.iret (v := (-2)) hx hb hr (fun t ht hW => ⟨⟨(-2), ((fun _ => (-1)), (fun _ => 0), (fun _ => 0)), rfl, ⟨(mm_ar_wk (mm_ar_c mm_km1) (by decide)), (mm_ar_wk (mm_ar_c mm_k0) (by decide)), (Or.inr (Or.inr (Or.inr (Or.inr (Or.inr (Or.inr ⟨rfl, w4, q21, q81⟩))))))⟩, by rw [ht]; exact hP, hK.warm hW, hD⟩, hS.F ht⟩) hS.2.2 dX12_row_32

set_option maxHeartbeats 4000000 in
set_option maxRecDepth 100000 in
theorem K315_X11_write (l : Launch) (G : va_G) (cy : Nat → ClassId) (sz : Nat) (a_0 : Nat) (i_0 : Int32) (i_1 : Int32) (j_0 : Int64) (a_1 : Nat) (a_2 : Nat) (a_3 : Nat) (a_4 : Nat) (a_5 : Nat) (a_6 : Nat) (a_7 : Nat) (a_8 : Nat) (a_9 : Nat) (a_10 : Nat) (a_11 : Nat) (a_78 : Nat) (a_79 : Nat) (a_80 : Nat) (a_81 : Nat) (k_0 : Int32) (k_1 : Int32) (a_82 : Nat) (k_2 : Int32) (k_3 : Int32) (a_83 : Nat) (k_4 : Int32) (k_5 : Int32) (a_84 : Nat) (k_6 : Int32) (k_7 : Int32) (a_85 : Nat)   : mm_CI l yX11_write (mm_ws yX11_write cX11_write 5 (some .int)) ({ frames := 1, cells := 0, slots := 0, locals := 20 } : Room) G cy sz [(a_0, .inr (11, [.ref a_1, .ref a_2, .ref a_3, .ref a_4, .ref a_5, .ref a_6, .ref a_7, .ref a_8, .ref a_9, .ref a_10, .ref a_11])), (a_6, .inl (cy 6, 4, .inr (.inr (.inr (.inr (va_up (va_up (va_up (va_up (fun _ => none) 0 (some a_78)) 1 (some a_79)) 2 (some a_80)) 3 (some a_81))))))), (a_78, .inr (6, [.int 0, .int k_0, .int k_1, .ref a_82])), (a_79, .inr (6, [.int 0, .int k_2, .int k_3, .ref a_83])), (a_80, .inr (6, [.int 0, .int k_4, .int k_5, .ref a_84])), (a_81, .inr (6, [.int 0, .int k_6, .int k_7, .ref a_85]))] [.ref a_0, .int i_0, .int i_1, .long j_0] (fun u : Unit => [(a_0, .inr (11, [.ref a_1, .ref a_2, .ref a_3, .ref a_4, .ref a_5, .ref a_6, .ref a_7, .ref a_8, .ref a_9, .ref a_10, .ref a_11])), (a_6, .inl (cy 6, 4, .inr (.inr (.inr (.inr (va_up (va_up (va_up (va_up (fun _ => none) 0 (some a_78)) 1 (some a_79)) 2 (some a_80)) 3 (some a_81))))))), (a_78, .inr (6, [.int 0, .int k_0, .int k_1, .ref a_82])), (a_79, .inr (6, [.int 0, .int k_2, .int k_3, .ref a_83])), (a_80, .inr (6, [.int 0, .int k_4, .int k_5, .ref a_84])), (a_81, .inr (6, [.int 0, .int k_6, .int k_7, .ref a_85]))]) (fun (r : Int32) (u : Unit) => (((-2) = r ∧ mm_rg i_0 (-2147483648) (-1)) ∨ ((-2) = r ∧ mm_rg i_0 4 2147483647) ∨ ((-6) = r ∧ mm_rg i_0 0 3))) 0 0 := by
  refine mm_begin (lv := [(0, .ref a_0), (1, .int i_0), (2, .int i_1), (3, .long j_0)]) (by decide) (Nat.le_of_ble_eq_true rfl) rfl ?_
  intro p e s m below meth c A ls R args Q H locs hRe hQ hAe hx hb hr hlocks hml hown hnm hts hsz hA hS hP hK hD hl
  have hRf : R.frames = 1 := by rw [hRe]
  have hRl : R.locals = 20 := by rw [hRe]
  have hRc : R.cells = 0 := by rw [hRe]
  have hRs : R.slots = 0 := by rw [hRe]
  refine lv_iload_n hx hb dX11_write_0 rfl (lv_at hl 1 rfl) ?_
  refine mm_finir (va_runS (As := [.int i_0]) (rest := []) ⟨hx, hb, hml, hown, hts⟩ (K212_X11_isSlot l G cy H.size i_0 ) (va_cwS 1 hts (mm_gS mm_w1232 mm_w1233 mm_w2 mm_w1234) rfl rfl rfl hs_X11_isSlot ⟨by rw [hRf]; exact Nat.le_of_ble_eq_true rfl, by rw [hRl]; exact Nat.le_of_ble_eq_true rfl⟩) (mm_preS hK hP hD [] rfl rfl) rfl rfl hl.1 rfl (lv_room (Nat.le_of_ble_eq_true rfl)) dX11_write_1 ⟨by rw [hRc]; exact Nat.le_of_ble_eq_true rfl, by rw [hRs]; exact Nat.le_of_ble_eq_true rfl⟩) hP hD hS hA [] rfl (fun _ => rfl) ?_
  clear hP hD hS
  clear H locs
  intro v1 _u H locs hw hP hD hS
  rcases hw with ⟨rfl, w2⟩ | ⟨rfl, w3⟩ | ⟨rfl, w4⟩
  · refine lv_if_ne (tgt := 10) hx hb dX11_write_4 (by decide) (fun c5 => ?_) (fun c5 => ?_)
    · have q6 := mm_neL (lo := 1) (mm_ne c5) mm_k0 mm_k0 (by decide) (by decide)
      exact mm_no q6 (by decide)
    · refine lv_bipush (v := (-2)) hx hb dX11_write_7 (by decide) ?_
      subst hAe
      rw [hQ]
      exact W.iret (v := (-2)) hx hb hr (fun t ht hW => ⟨⟨(-2), (), rfl, (Or.inl ⟨rfl, w2⟩), by rw [ht]; exact hP, hK.warm hW, hD⟩, hS.F ht⟩) hS.2.2 dX11_write_9
  · refine lv_if_ne (tgt := 10) hx hb dX11_write_4 (by decide) (fun c7 => ?_) (fun c7 => ?_)
    · have q8 := mm_neL (lo := 1) (mm_ne c7) mm_k0 mm_k0 (by decide) (by decide)
      exact mm_no q8 (by decide)
    · refine lv_bipush (v := (-2)) hx hb dX11_write_7 (by decide) ?_
      subst hAe
      rw [hQ]
      exact W.iret (v := (-2)) hx hb hr (fun t ht hW => ⟨⟨(-2), (), rfl, (Or.inr (Or.inl ⟨rfl, w3⟩)), by rw [ht]; exact hP, hK.warm hW, hD⟩, hS.F ht⟩) hS.2.2 dX11_write_9
  · refine lv_if_ne (tgt := 10) hx hb dX11_write_4 (by decide) (fun c9 => ?_) (fun c9 => ?_)
    · refine lv_aload_n hx hb dX11_write_10 rfl (lv_at hl 0 rfl) ?_
      refine va_get (D := G) (ci := 11) (v := .ref a_6) (C := RX11) (T := TX11) (N := 11) hx hb hts (mm_i inlX11) hown hK.1 hP 0 rfl rfl 5 (by decide) (mm_h hts mm_w32) (fun _ h9 => h9) rfl dX11_write_11 ?_
      refine lv_iload_n hx hb dX11_write_14 rfl (lv_at hl 1 rfl) ?_
      refine va_aldq hx hb hK.1 hP 1 6 rfl rfl (mm_in w4 (by decide)) dX11_write_15 ?_
      have c10 := mm_cases4 w4
      rcases c10 with rfl | rfl | rfl | rfl
      · refine W.eq (g2 := F0 m 16 ls [.ref a_78]) rfl ?_
        refine va_get (D := G) (ci := 6) (v := .int 0) (C := RX6) (T := TX6) (N := 4) hx hb hts (mm_i inlX6) hown hK.1 hP 2 rfl rfl 0 (by decide) (mm_h hts mm_w1239) (fun _ h9 => h9) rfl dX11_write_16 ?_
        refine lv_if_ne (tgt := 25) hx hb dX11_write_19 (by decide) (fun c11 => ?_) (fun c11 => ?_)
        · have q12 := mm_neL (lo := 1) (mm_ne c11) mm_k0 mm_k0 (by decide) (by decide)
          exact mm_no q12 (by decide)
        · refine lv_bipush (v := (-6)) hx hb dX11_write_22 (by decide) ?_
          subst hAe
          rw [hQ]
          exact W.iret (v := (-6)) hx hb hr (fun t ht hW => ⟨⟨(-6), (), rfl, (Or.inr (Or.inr ⟨rfl, (mm_wk mm_k0 (by decide))⟩)), by rw [ht]; exact hP, hK.warm hW, hD⟩, hS.F ht⟩) hS.2.2 dX11_write_24
      · refine W.eq (g2 := F0 m 16 ls [.ref a_79]) rfl ?_
        refine va_get (D := G) (ci := 6) (v := .int 0) (C := RX6) (T := TX6) (N := 4) hx hb hts (mm_i inlX6) hown hK.1 hP 3 rfl rfl 0 (by decide) (mm_h hts mm_w1239) (fun _ h9 => h9) rfl dX11_write_16 ?_
        refine lv_if_ne (tgt := 25) hx hb dX11_write_19 (by decide) (fun c13 => ?_) (fun c13 => ?_)
        · have q14 := mm_neL (lo := 1) (mm_ne c13) mm_k0 mm_k0 (by decide) (by decide)
          exact mm_no q14 (by decide)
        · refine lv_bipush (v := (-6)) hx hb dX11_write_22 (by decide) ?_
          subst hAe
          rw [hQ]
          exact W.iret (v := (-6)) hx hb hr (fun t ht hW => ⟨⟨(-6), (), rfl, (Or.inr (Or.inr ⟨rfl, (mm_wk mm_k1 (by decide))⟩)), by rw [ht]; exact hP, hK.warm hW, hD⟩, hS.F ht⟩) hS.2.2 dX11_write_24
      · refine W.eq (g2 := F0 m 16 ls [.ref a_80]) rfl ?_
        refine va_get (D := G) (ci := 6) (v := .int 0) (C := RX6) (T := TX6) (N := 4) hx hb hts (mm_i inlX6) hown hK.1 hP 4 rfl rfl 0 (by decide) (mm_h hts mm_w1239) (fun _ h9 => h9) rfl dX11_write_16 ?_
        refine lv_if_ne (tgt := 25) hx hb dX11_write_19 (by decide) (fun c15 => ?_) (fun c15 => ?_)
        · have q16 := mm_neL (lo := 1) (mm_ne c15) mm_k0 mm_k0 (by decide) (by decide)
          exact mm_no q16 (by decide)
        · refine lv_bipush (v := (-6)) hx hb dX11_write_22 (by decide) ?_
          subst hAe
          rw [hQ]
          exact W.iret (v := (-6)) hx hb hr (fun t ht hW => ⟨⟨(-6), (), rfl, (Or.inr (Or.inr ⟨rfl, (mm_wk mm_k2 (by decide))⟩)), by rw [ht]; exact hP, hK.warm hW, hD⟩, hS.F ht⟩) hS.2.2 dX11_write_24
      · refine W.eq (g2 := F0 m 16 ls [.ref a_81]) rfl ?_
        refine va_get (D := G) (ci := 6) (v := .int 0) (C := RX6) (T := TX6) (N := 4) hx hb hts (mm_i inlX6) hown hK.1 hP 5 rfl rfl 0 (by decide) (mm_h hts mm_w1239) (fun _ h9 => h9) rfl dX11_write_16 ?_
        refine lv_if_ne (tgt := 25) hx hb dX11_write_19 (by decide) (fun c17 => ?_) (fun c17 => ?_)
        · have q18 := mm_neL (lo := 1) (mm_ne c17) mm_k0 mm_k0 (by decide) (by decide)
          exact mm_no q18 (by decide)
        · refine lv_bipush (v := (-6)) hx hb dX11_write_22 (by decide) ?_
          subst hAe
          rw [hQ]
          exact W.iret (v := (-6)) hx hb hr (fun t ht hW => ⟨⟨(-6), (), rfl, (Or.inr (Or.inr ⟨rfl, (mm_wk mm_k3 (by decide))⟩)), by rw [ht]; exact hP, hK.warm hW, hD⟩, hS.F ht⟩) hS.2.2 dX11_write_24
    · exact mm_eqN c9.symm mm_k0 mm_k1 (by decide)

set_option maxHeartbeats 4000000 in
set_option maxRecDepth 100000 in
theorem K316_X12_write (l : Launch) (G : va_G) (cy : Nat → ClassId) (sz : Nat) (a_0 : Nat) (i_0 : Int32) (i_1 : Int32) (j_0 : Int64) (a_1 : Nat) (a_2 : Nat) (a_3 : Nat) (a_4 : Nat) (a_5 : Nat) (k_0 : Int32) (k_1 : Int32) (k_2 : Int32) (k_3 : Int32) (k_4 : Int32) (k_5 : Int64) (k_6 : Int32) (k_7 : Int32) (k_8 : Int32) (k_9 : Int32) (a_6 : Nat) (a_7 : Nat) (a_8 : Nat) (a_9 : Nat) (a_10 : Nat) (a_11 : Nat) (a_12 : Nat) (a_13 : Nat) (a_14 : Nat) (a_15 : Nat) (a_16 : Nat) (a_17 : Nat) (a_18 : Nat) (k_10 : Int32) (k_11 : Int32) (k_12 : Int32) (k_13 : Int32) (k_14 : Int32) (k_15 : Int32) (a_19 : Nat) (k_16 : Int32) (a_20 : Nat)   : mm_CI l yX12_write (mm_ws yX12_write cX12_write 5 (some .int)) ({ frames := 2, cells := 0, slots := 0, locals := 45 } : Room) G cy sz [(a_0, .inr (12, [.int 0, .ref a_1, .ref a_2, .ref a_3, .ref a_4, .ref a_5, .int k_0, .int k_1, .int k_2, .int k_3, .int k_4, .long k_5, .int k_6, .int k_7, .int k_8, .int k_9, .ref a_6, .ref a_7, .ref a_8, .ref a_9, .ref a_10, .ref a_11, .ref a_12, .ref a_13, .ref a_14, .ref a_15, .ref a_16, .ref a_17, .ref a_18, .int k_10, .int k_11, .int k_12, .int k_13, .int k_14, .int k_15, .ref a_19, .int k_16, .ref a_20])), (a_1, .inl (cy 1, 4, .inl (fun _ => (-1))))] [.ref a_0, .int i_0, .int i_1, .long j_0] (fun u : Unit => [(a_0, .inr (12, [.int 0, .ref a_1, .ref a_2, .ref a_3, .ref a_4, .ref a_5, .int k_0, .int k_1, .int k_2, .int k_3, .int k_4, .long k_5, .int k_6, .int k_7, .int k_8, .int k_9, .ref a_6, .ref a_7, .ref a_8, .ref a_9, .ref a_10, .ref a_11, .ref a_12, .ref a_13, .ref a_14, .ref a_15, .ref a_16, .ref a_17, .ref a_18, .int k_10, .int k_11, .int k_12, .int k_13, .int k_14, .int k_15, .ref a_19, .int k_16, .ref a_20])), (a_1, .inl (cy 1, 4, .inl (fun _ => (-1))))]) (fun (r : Int32) (u : Unit) => (((-2) = r ∧ mm_rg i_0 (-2147483648) (-1)) ∨ ((-2) = r ∧ mm_rg i_0 4 2147483647) ∨ ((-6) = r ∧ mm_rg i_0 0 3))) 0 0 := by
  refine mm_begin (lv := [(0, .ref a_0), (1, .int i_0), (2, .int i_1), (3, .long j_0)]) (by decide) (Nat.le_of_ble_eq_true rfl) rfl ?_
  intro p e s m below meth c A ls R args Q H locs hRe hQ hAe hx hb hr hlocks hml hown hnm hts hsz hA hS hP hK hD hl
  have hRf : R.frames = 2 := by rw [hRe]
  have hRl : R.locals = 45 := by rw [hRe]
  have hRc : R.cells = 0 := by rw [hRe]
  have hRs : R.slots = 0 := by rw [hRe]
  refine lv_aload_n hx hb dX12_write_0 rfl (lv_at hl 0 rfl) ?_
  refine lv_iconst (v := 0) hx hb dX12_write_1 (by decide) ?_
  refine va_put (D := G) (ci := 12) (v := .int 0) (ty := tyX12 0) (C := RX12) (T := TX12) (N := 38) hx hb hts (mm_i inlX12) tyX12 tyX12_ok nmX12 hown hK.1 hP hD hS 0 rfl rfl 0 (by decide) (mm_h hts mm_w177) (fun _ h9 => h9) rfl (tyX12_ok 0 (by decide)) rfl rfl (Nat.le_of_ble_eq_true rfl) dX12_write_2 ?_
  clear hP hD hS
  clear H locs
  intro H locs (hP : va_P G vwCl [(a_0, .inr (12, [.int 0, .ref a_1, .ref a_2, .ref a_3, .ref a_4, .ref a_5, .int k_0, .int k_1, .int k_2, .int k_3, .int k_4, .long k_5, .int k_6, .int k_7, .int k_8, .int k_9, .ref a_6, .ref a_7, .ref a_8, .ref a_9, .ref a_10, .ref a_11, .ref a_12, .ref a_13, .ref a_14, .ref a_15, .ref a_16, .ref a_17, .ref a_18, .int k_10, .int k_11, .int k_12, .int k_13, .int k_14, .int k_15, .ref a_19, .int k_16, .ref a_20])), (a_1, .inl (cy 1, 4, .inl (fun _ => (-1))))] H) (hD : va_D A [(a_0, .inr (12, [.int 0, .ref a_1, .ref a_2, .ref a_3, .ref a_4, .ref a_5, .int k_0, .int k_1, .int k_2, .int k_3, .int k_4, .long k_5, .int k_6, .int k_7, .int k_8, .int k_9, .ref a_6, .ref a_7, .ref a_8, .ref a_9, .ref a_10, .ref a_11, .ref a_12, .ref a_13, .ref a_14, .ref a_15, .ref a_16, .ref a_17, .ref a_18, .int k_10, .int k_11, .int k_12, .int k_13, .int k_14, .int k_15, .ref a_19, .int k_16, .ref a_20])), (a_1, .inl (cy 1, 4, .inl (fun _ => (-1))))]) hS
  refine lv_iload_n hx hb dX12_write_5 rfl (lv_at hl 1 rfl) ?_
  refine mm_finir (va_runS (As := [.int i_0]) (rest := []) ⟨hx, hb, hml, hown, hts⟩ (K217_X12_isSlot l G cy H.size i_0 ) (va_cwS 1 hts (mm_gS mm_w1269 mm_w1270 mm_w5 mm_w1271) rfl rfl rfl hs_X12_isSlot ⟨by rw [hRf]; exact Nat.le_of_ble_eq_true rfl, by rw [hRl]; exact Nat.le_of_ble_eq_true rfl⟩) (mm_preS hK hP hD [] rfl rfl) rfl rfl hl.1 rfl (lv_room (Nat.le_of_ble_eq_true rfl)) dX12_write_6 ⟨by rw [hRc]; exact Nat.le_of_ble_eq_true rfl, by rw [hRs]; exact Nat.le_of_ble_eq_true rfl⟩) hP hD hS hA [] rfl (fun _ => rfl) ?_
  clear hP hD hS
  clear H locs
  intro v1 _u H locs hw hP hD hS
  rcases hw with ⟨rfl, w2⟩ | ⟨rfl, w3⟩ | ⟨rfl, w4⟩
  · refine lv_if_ne (tgt := 15) hx hb dX12_write_9 (by decide) (fun c5 => ?_) (fun c5 => ?_)
    · have q6 := mm_neL (lo := 1) (mm_ne c5) mm_k0 mm_k0 (by decide) (by decide)
      exact mm_no q6 (by decide)
    · refine lv_bipush (v := (-2)) hx hb dX12_write_12 (by decide) ?_
      subst hAe
      rw [hQ]
      exact W.iret (v := (-2)) hx hb hr (fun t ht hW => ⟨⟨(-2), (), rfl, (Or.inl ⟨rfl, w2⟩), by rw [ht]; exact hP, hK.warm hW, hD⟩, hS.F ht⟩) hS.2.2 dX12_write_14
  · refine lv_if_ne (tgt := 15) hx hb dX12_write_9 (by decide) (fun c7 => ?_) (fun c7 => ?_)
    · have q8 := mm_neL (lo := 1) (mm_ne c7) mm_k0 mm_k0 (by decide) (by decide)
      exact mm_no q8 (by decide)
    · refine lv_bipush (v := (-2)) hx hb dX12_write_12 (by decide) ?_
      subst hAe
      rw [hQ]
      exact W.iret (v := (-2)) hx hb hr (fun t ht hW => ⟨⟨(-2), (), rfl, (Or.inr (Or.inl ⟨rfl, w3⟩)), by rw [ht]; exact hP, hK.warm hW, hD⟩, hS.F ht⟩) hS.2.2 dX12_write_14
  · refine lv_if_ne (tgt := 15) hx hb dX12_write_9 (by decide) (fun c9 => ?_) (fun c9 => ?_)
    · refine lv_aload_n hx hb dX12_write_15 rfl (lv_at hl 0 rfl) ?_
      refine va_get (D := G) (ci := 12) (v := .ref a_1) (C := RX12) (T := TX12) (N := 38) hx hb hts (mm_i inlX12) hown hK.1 hP 0 rfl rfl 1 (by decide) (mm_h hts mm_w142) (fun _ h9 => h9) rfl dX12_write_16 ?_
      refine lv_iload_n hx hb dX12_write_19 rfl (lv_at hl 1 rfl) ?_
      refine va_iald hx hb hK.1 hP 1 1 rfl rfl (mm_in w4 (by decide)) dX12_write_20 ?_
      refine lv_topi (fun v10 ev10 => ?_)
      obtain rfl : v10 = (-1) := ev10
      refine lv_iconst (v := (-1)) hx hb dX12_write_21 (by decide) ?_
      refine lv_icmp_ne (tgt := 28) hx hb dX12_write_22 (by decide) (fun c11 => ?_) (fun c11 => ?_)
      · have q12 := mm_neL (lo := 0) (mm_ne c11) mm_km1 mm_km1 (by decide) (by decide)
        exact mm_no q12 (by decide)
      · refine lv_bipush (v := (-6)) hx hb dX12_write_25 (by decide) ?_
        subst hAe
        rw [hQ]
        exact W.iret (v := (-6)) hx hb hr (fun t ht hW => ⟨⟨(-6), (), rfl, (Or.inr (Or.inr ⟨rfl, w4⟩)), by rw [ht]; exact hP, hK.warm hW, hD⟩, hS.F ht⟩) hS.2.2 dX12_write_27
    · exact mm_eqN c9.symm mm_k0 mm_k1 (by decide)

set_option maxHeartbeats 4000000 in
set_option maxRecDepth 100000 in
theorem K317_X11_paste (l : Launch) (G : va_G) (cy : Nat → ClassId) (sz : Nat) (a_0 : Nat) (i_0 : Int32) (i_1 : Int32) (i_2 : Int32) (i_3 : Int32) (i_4 : Int32) (a_1 : Nat) (a_2 : Nat) (a_3 : Nat) (a_4 : Nat) (a_5 : Nat) (a_6 : Nat) (a_7 : Nat) (a_8 : Nat) (a_9 : Nat) (a_10 : Nat) (a_11 : Nat) (a_78 : Nat) (a_79 : Nat) (a_80 : Nat) (a_81 : Nat) (k_0 : Int32) (k_1 : Int32) (a_82 : Nat) (k_2 : Int32) (k_3 : Int32) (a_83 : Nat) (k_4 : Int32) (k_5 : Int32) (a_84 : Nat) (k_6 : Int32) (k_7 : Int32) (a_85 : Nat)   : mm_CI l yX11_paste (mm_ws yX11_paste cX11_paste 6 (some .int)) ({ frames := 1, cells := 0, slots := 0, locals := 20 } : Room) G cy sz [(a_0, .inr (11, [.ref a_1, .ref a_2, .ref a_3, .ref a_4, .ref a_5, .ref a_6, .ref a_7, .ref a_8, .ref a_9, .ref a_10, .ref a_11])), (a_6, .inl (cy 6, 4, .inr (.inr (.inr (.inr (va_up (va_up (va_up (va_up (fun _ => none) 0 (some a_78)) 1 (some a_79)) 2 (some a_80)) 3 (some a_81))))))), (a_78, .inr (6, [.int 0, .int k_0, .int k_1, .ref a_82])), (a_79, .inr (6, [.int 0, .int k_2, .int k_3, .ref a_83])), (a_80, .inr (6, [.int 0, .int k_4, .int k_5, .ref a_84])), (a_81, .inr (6, [.int 0, .int k_6, .int k_7, .ref a_85]))] [.ref a_0, .int i_0, .int i_1, .int i_2, .int i_3, .int i_4] (fun u : Unit => [(a_0, .inr (11, [.ref a_1, .ref a_2, .ref a_3, .ref a_4, .ref a_5, .ref a_6, .ref a_7, .ref a_8, .ref a_9, .ref a_10, .ref a_11])), (a_6, .inl (cy 6, 4, .inr (.inr (.inr (.inr (va_up (va_up (va_up (va_up (fun _ => none) 0 (some a_78)) 1 (some a_79)) 2 (some a_80)) 3 (some a_81))))))), (a_78, .inr (6, [.int 0, .int k_0, .int k_1, .ref a_82])), (a_79, .inr (6, [.int 0, .int k_2, .int k_3, .ref a_83])), (a_80, .inr (6, [.int 0, .int k_4, .int k_5, .ref a_84])), (a_81, .inr (6, [.int 0, .int k_6, .int k_7, .ref a_85]))]) (fun (r : Int32) (u : Unit) => (((-2) = r ∧ mm_rg i_0 (-2147483648) (-1)) ∨ ((-2) = r ∧ mm_rg i_0 4 2147483647) ∨ ((-2) = r ∧ mm_rg i_0 0 3 ∧ mm_rg i_2 (-2147483648) (-1)) ∨ ((-2) = r ∧ mm_rg i_0 0 3 ∧ mm_rg i_2 4 2147483647) ∨ ((-6) = r ∧ mm_rg i_0 0 3 ∧ mm_rg i_2 0 3))) 0 0 := by
  refine mm_begin (lv := [(0, .ref a_0), (1, .int i_0), (2, .int i_1), (3, .int i_2), (4, .int i_3), (5, .int i_4)]) (by decide) (Nat.le_of_ble_eq_true rfl) rfl ?_
  intro p e s m below meth c A ls R args Q H locs hRe hQ hAe hx hb hr hlocks hml hown hnm hts hsz hA hS hP hK hD hl
  have hRf : R.frames = 1 := by rw [hRe]
  have hRl : R.locals = 20 := by rw [hRe]
  have hRc : R.cells = 0 := by rw [hRe]
  have hRs : R.slots = 0 := by rw [hRe]
  refine lv_iload_n hx hb dX11_paste_0 rfl (lv_at hl 1 rfl) ?_
  refine mm_finir (va_runS (As := [.int i_0]) (rest := []) ⟨hx, hb, hml, hown, hts⟩ (K212_X11_isSlot l G cy H.size i_0 ) (va_cwS 1 hts (mm_gS mm_w1232 mm_w1233 mm_w2 mm_w1234) rfl rfl rfl hs_X11_isSlot ⟨by rw [hRf]; exact Nat.le_of_ble_eq_true rfl, by rw [hRl]; exact Nat.le_of_ble_eq_true rfl⟩) (mm_preS hK hP hD [] rfl rfl) rfl rfl hl.1 rfl (lv_room (Nat.le_of_ble_eq_true rfl)) dX11_paste_1 ⟨by rw [hRc]; exact Nat.le_of_ble_eq_true rfl, by rw [hRs]; exact Nat.le_of_ble_eq_true rfl⟩) hP hD hS hA [] rfl (fun _ => rfl) ?_
  clear hP hD hS
  clear H locs
  intro v1 _u H locs hw hP hD hS
  rcases hw with ⟨rfl, w2⟩ | ⟨rfl, w3⟩ | ⟨rfl, w4⟩
  · refine lv_if_eq (tgt := 14) hx hb dX11_paste_4 (by decide) (fun c5 => ?_) (fun c5 => ?_)
    · refine lv_bipush (v := (-2)) hx hb dX11_paste_14 (by decide) ?_
      subst hAe
      rw [hQ]
      exact W.iret (v := (-2)) hx hb hr (fun t ht hW => ⟨⟨(-2), (), rfl, (Or.inl ⟨rfl, w2⟩), by rw [ht]; exact hP, hK.warm hW, hD⟩, hS.F ht⟩) hS.2.2 dX11_paste_16
    · have q6 := mm_neL (lo := 1) (mm_ne c5) mm_k0 mm_k0 (by decide) (by decide)
      exact mm_no q6 (by decide)
  · refine lv_if_eq (tgt := 14) hx hb dX11_paste_4 (by decide) (fun c7 => ?_) (fun c7 => ?_)
    · refine lv_bipush (v := (-2)) hx hb dX11_paste_14 (by decide) ?_
      subst hAe
      rw [hQ]
      exact W.iret (v := (-2)) hx hb hr (fun t ht hW => ⟨⟨(-2), (), rfl, (Or.inr (Or.inl ⟨rfl, w3⟩)), by rw [ht]; exact hP, hK.warm hW, hD⟩, hS.F ht⟩) hS.2.2 dX11_paste_16
    · have q8 := mm_neL (lo := 1) (mm_ne c7) mm_k0 mm_k0 (by decide) (by decide)
      exact mm_no q8 (by decide)
  · refine lv_if_eq (tgt := 14) hx hb dX11_paste_4 (by decide) (fun c9 => ?_) (fun c9 => ?_)
    · exact mm_eqN c9.symm mm_k0 mm_k1 (by decide)
    · refine lv_iload_n hx hb dX11_paste_7 rfl (lv_at hl 3 rfl) ?_
      refine mm_finir (va_runS (As := [.int i_2]) (rest := []) ⟨hx, hb, hml, hown, hts⟩ (K212_X11_isSlot l G cy H.size i_2 ) (va_cwS 1 hts (mm_gS mm_w1232 mm_w1233 mm_w2 mm_w1234) rfl rfl rfl hs_X11_isSlot ⟨by rw [hRf]; exact Nat.le_of_ble_eq_true rfl, by rw [hRl]; exact Nat.le_of_ble_eq_true rfl⟩) (mm_preS hK hP hD [] rfl rfl) rfl rfl hl.1 rfl (lv_room (Nat.le_of_ble_eq_true rfl)) dX11_paste_8 ⟨by rw [hRc]; exact Nat.le_of_ble_eq_true rfl, by rw [hRs]; exact Nat.le_of_ble_eq_true rfl⟩) hP hD hS hA [] rfl (fun _ => rfl) ?_
      clear hP hD hS
      clear H locs
      intro v10 _u H locs hw hP hD hS
      rcases hw with ⟨rfl, w11⟩ | ⟨rfl, w12⟩ | ⟨rfl, w13⟩
      · refine lv_if_ne (tgt := 17) hx hb dX11_paste_11 (by decide) (fun c14 => ?_) (fun c14 => ?_)
        · have q15 := mm_neL (lo := 1) (mm_ne c14) mm_k0 mm_k0 (by decide) (by decide)
          exact mm_no q15 (by decide)
        · refine lv_bipush (v := (-2)) hx hb dX11_paste_14 (by decide) ?_
          subst hAe
          rw [hQ]
          exact W.iret (v := (-2)) hx hb hr (fun t ht hW => ⟨⟨(-2), (), rfl, (Or.inr (Or.inr (Or.inl ⟨rfl, w4, w11⟩))), by rw [ht]; exact hP, hK.warm hW, hD⟩, hS.F ht⟩) hS.2.2 dX11_paste_16
      · refine lv_if_ne (tgt := 17) hx hb dX11_paste_11 (by decide) (fun c16 => ?_) (fun c16 => ?_)
        · have q17 := mm_neL (lo := 1) (mm_ne c16) mm_k0 mm_k0 (by decide) (by decide)
          exact mm_no q17 (by decide)
        · refine lv_bipush (v := (-2)) hx hb dX11_paste_14 (by decide) ?_
          subst hAe
          rw [hQ]
          exact W.iret (v := (-2)) hx hb hr (fun t ht hW => ⟨⟨(-2), (), rfl, (Or.inr (Or.inr (Or.inr (Or.inl ⟨rfl, w4, w12⟩)))), by rw [ht]; exact hP, hK.warm hW, hD⟩, hS.F ht⟩) hS.2.2 dX11_paste_16
      · refine lv_if_ne (tgt := 17) hx hb dX11_paste_11 (by decide) (fun c18 => ?_) (fun c18 => ?_)
        · refine lv_aload_n hx hb dX11_paste_17 rfl (lv_at hl 0 rfl) ?_
          refine va_get (D := G) (ci := 11) (v := .ref a_6) (C := RX11) (T := TX11) (N := 11) hx hb hts (mm_i inlX11) hown hK.1 hP 0 rfl rfl 5 (by decide) (mm_h hts mm_w32) (fun _ h9 => h9) rfl dX11_paste_18 ?_
          refine lv_iload_n hx hb dX11_paste_21 rfl (lv_at hl 1 rfl) ?_
          refine va_aldq hx hb hK.1 hP 1 6 rfl rfl (mm_in w4 (by decide)) dX11_paste_22 ?_
          have c19 := mm_cases4 w4
          rcases c19 with rfl | rfl | rfl | rfl
          · refine W.eq (g2 := F0 m 23 ls [.ref a_78]) rfl ?_
            refine va_get (D := G) (ci := 6) (v := .int 0) (C := RX6) (T := TX6) (N := 4) hx hb hts (mm_i inlX6) hown hK.1 hP 2 rfl rfl 0 (by decide) (mm_h hts mm_w1239) (fun _ h9 => h9) rfl dX11_paste_23 ?_
            refine lv_if_eq (tgt := 41) hx hb dX11_paste_26 (by decide) (fun c20 => ?_) (fun c20 => ?_)
            · refine lv_bipush (v := (-6)) hx hb dX11_paste_41 (by decide) ?_
              subst hAe
              rw [hQ]
              exact W.iret (v := (-6)) hx hb hr (fun t ht hW => ⟨⟨(-6), (), rfl, (Or.inr (Or.inr (Or.inr (Or.inr ⟨rfl, (mm_wk mm_k0 (by decide)), w13⟩)))), by rw [ht]; exact hP, hK.warm hW, hD⟩, hS.F ht⟩) hS.2.2 dX11_paste_43
            · have q21 := mm_neL (lo := 1) (mm_ne c20) mm_k0 mm_k0 (by decide) (by decide)
              exact mm_no q21 (by decide)
          · refine W.eq (g2 := F0 m 23 ls [.ref a_79]) rfl ?_
            refine va_get (D := G) (ci := 6) (v := .int 0) (C := RX6) (T := TX6) (N := 4) hx hb hts (mm_i inlX6) hown hK.1 hP 3 rfl rfl 0 (by decide) (mm_h hts mm_w1239) (fun _ h9 => h9) rfl dX11_paste_23 ?_
            refine lv_if_eq (tgt := 41) hx hb dX11_paste_26 (by decide) (fun c22 => ?_) (fun c22 => ?_)
            · refine lv_bipush (v := (-6)) hx hb dX11_paste_41 (by decide) ?_
              subst hAe
              rw [hQ]
              exact W.iret (v := (-6)) hx hb hr (fun t ht hW => ⟨⟨(-6), (), rfl, (Or.inr (Or.inr (Or.inr (Or.inr ⟨rfl, (mm_wk mm_k1 (by decide)), w13⟩)))), by rw [ht]; exact hP, hK.warm hW, hD⟩, hS.F ht⟩) hS.2.2 dX11_paste_43
            · have q23 := mm_neL (lo := 1) (mm_ne c22) mm_k0 mm_k0 (by decide) (by decide)
              exact mm_no q23 (by decide)
          · refine W.eq (g2 := F0 m 23 ls [.ref a_80]) rfl ?_
            refine va_get (D := G) (ci := 6) (v := .int 0) (C := RX6) (T := TX6) (N := 4) hx hb hts (mm_i inlX6) hown hK.1 hP 4 rfl rfl 0 (by decide) (mm_h hts mm_w1239) (fun _ h9 => h9) rfl dX11_paste_23 ?_
            refine lv_if_eq (tgt := 41) hx hb dX11_paste_26 (by decide) (fun c24 => ?_) (fun c24 => ?_)
            · refine lv_bipush (v := (-6)) hx hb dX11_paste_41 (by decide) ?_
              subst hAe
              rw [hQ]
              exact W.iret (v := (-6)) hx hb hr (fun t ht hW => ⟨⟨(-6), (), rfl, (Or.inr (Or.inr (Or.inr (Or.inr ⟨rfl, (mm_wk mm_k2 (by decide)), w13⟩)))), by rw [ht]; exact hP, hK.warm hW, hD⟩, hS.F ht⟩) hS.2.2 dX11_paste_43
            · have q25 := mm_neL (lo := 1) (mm_ne c24) mm_k0 mm_k0 (by decide) (by decide)
              exact mm_no q25 (by decide)
          · refine W.eq (g2 := F0 m 23 ls [.ref a_81]) rfl ?_
            refine va_get (D := G) (ci := 6) (v := .int 0) (C := RX6) (T := TX6) (N := 4) hx hb hts (mm_i inlX6) hown hK.1 hP 5 rfl rfl 0 (by decide) (mm_h hts mm_w1239) (fun _ h9 => h9) rfl dX11_paste_23 ?_
            refine lv_if_eq (tgt := 41) hx hb dX11_paste_26 (by decide) (fun c26 => ?_) (fun c26 => ?_)
            · refine lv_bipush (v := (-6)) hx hb dX11_paste_41 (by decide) ?_
              subst hAe
              rw [hQ]
              exact W.iret (v := (-6)) hx hb hr (fun t ht hW => ⟨⟨(-6), (), rfl, (Or.inr (Or.inr (Or.inr (Or.inr ⟨rfl, (mm_wk mm_k3 (by decide)), w13⟩)))), by rw [ht]; exact hP, hK.warm hW, hD⟩, hS.F ht⟩) hS.2.2 dX11_paste_43
            · have q27 := mm_neL (lo := 1) (mm_ne c26) mm_k0 mm_k0 (by decide) (by decide)
              exact mm_no q27 (by decide)
        · exact mm_eqN c18.symm mm_k0 mm_k1 (by decide)

set_option maxHeartbeats 4000000 in
set_option maxRecDepth 100000 in
theorem K318_X12_paste (l : Launch) (G : va_G) (cy : Nat → ClassId) (sz : Nat) (a_0 : Nat) (i_0 : Int32) (i_1 : Int32) (i_2 : Int32) (i_3 : Int32) (i_4 : Int32) (a_1 : Nat) (a_2 : Nat) (a_3 : Nat) (a_4 : Nat) (a_5 : Nat) (k_0 : Int32) (k_1 : Int32) (k_2 : Int32) (k_3 : Int32) (k_4 : Int32) (k_5 : Int64) (k_6 : Int32) (k_7 : Int32) (k_8 : Int32) (k_9 : Int32) (a_6 : Nat) (a_7 : Nat) (a_8 : Nat) (a_9 : Nat) (a_10 : Nat) (a_11 : Nat) (a_12 : Nat) (a_13 : Nat) (a_14 : Nat) (a_15 : Nat) (a_16 : Nat) (a_17 : Nat) (a_18 : Nat) (k_10 : Int32) (k_11 : Int32) (k_12 : Int32) (k_13 : Int32) (k_14 : Int32) (k_15 : Int32) (a_19 : Nat) (k_16 : Int32) (a_20 : Nat)   : mm_CI l yX12_paste (mm_ws yX12_paste cX12_paste 7 (some .int)) ({ frames := 2, cells := 0, slots := 0, locals := 45 } : Room) G cy sz [(a_0, .inr (12, [.int 0, .ref a_1, .ref a_2, .ref a_3, .ref a_4, .ref a_5, .int k_0, .int k_1, .int k_2, .int k_3, .int k_4, .long k_5, .int k_6, .int k_7, .int k_8, .int k_9, .ref a_6, .ref a_7, .ref a_8, .ref a_9, .ref a_10, .ref a_11, .ref a_12, .ref a_13, .ref a_14, .ref a_15, .ref a_16, .ref a_17, .ref a_18, .int k_10, .int k_11, .int k_12, .int k_13, .int k_14, .int k_15, .ref a_19, .int k_16, .ref a_20])), (a_1, .inl (cy 1, 4, .inl (fun _ => (-1))))] [.ref a_0, .int i_0, .int i_1, .int i_2, .int i_3, .int i_4] (fun u : Unit => [(a_0, .inr (12, [.int 0, .ref a_1, .ref a_2, .ref a_3, .ref a_4, .ref a_5, .int k_0, .int k_1, .int k_2, .int k_3, .int k_4, .long k_5, .int k_6, .int k_7, .int k_8, .int k_9, .ref a_6, .ref a_7, .ref a_8, .ref a_9, .ref a_10, .ref a_11, .ref a_12, .ref a_13, .ref a_14, .ref a_15, .ref a_16, .ref a_17, .ref a_18, .int k_10, .int k_11, .int k_12, .int k_13, .int k_14, .int k_15, .ref a_19, .int k_16, .ref a_20])), (a_1, .inl (cy 1, 4, .inl (fun _ => (-1))))]) (fun (r : Int32) (u : Unit) => (((-2) = r ∧ mm_rg i_0 (-2147483648) (-1)) ∨ ((-2) = r ∧ mm_rg i_0 4 2147483647) ∨ ((-2) = r ∧ mm_rg i_0 0 3 ∧ mm_rg i_2 (-2147483648) (-1)) ∨ ((-2) = r ∧ mm_rg i_0 0 3 ∧ mm_rg i_2 4 2147483647) ∨ ((-6) = r ∧ mm_rg i_0 0 3 ∧ mm_rg i_2 0 3))) 0 0 := by
  refine mm_begin (lv := [(0, .ref a_0), (1, .int i_0), (2, .int i_1), (3, .int i_2), (4, .int i_3), (5, .int i_4)]) (by decide) (Nat.le_of_ble_eq_true rfl) rfl ?_
  intro p e s m below meth c A ls R args Q H locs hRe hQ hAe hx hb hr hlocks hml hown hnm hts hsz hA hS hP hK hD hl
  have hRf : R.frames = 2 := by rw [hRe]
  have hRl : R.locals = 45 := by rw [hRe]
  have hRc : R.cells = 0 := by rw [hRe]
  have hRs : R.slots = 0 := by rw [hRe]
  refine lv_aload_n hx hb dX12_paste_0 rfl (lv_at hl 0 rfl) ?_
  refine lv_iconst (v := 0) hx hb dX12_paste_1 (by decide) ?_
  refine va_put (D := G) (ci := 12) (v := .int 0) (ty := tyX12 0) (C := RX12) (T := TX12) (N := 38) hx hb hts (mm_i inlX12) tyX12 tyX12_ok nmX12 hown hK.1 hP hD hS 0 rfl rfl 0 (by decide) (mm_h hts mm_w177) (fun _ h9 => h9) rfl (tyX12_ok 0 (by decide)) rfl rfl (Nat.le_of_ble_eq_true rfl) dX12_paste_2 ?_
  clear hP hD hS
  clear H locs
  intro H locs (hP : va_P G vwCl [(a_0, .inr (12, [.int 0, .ref a_1, .ref a_2, .ref a_3, .ref a_4, .ref a_5, .int k_0, .int k_1, .int k_2, .int k_3, .int k_4, .long k_5, .int k_6, .int k_7, .int k_8, .int k_9, .ref a_6, .ref a_7, .ref a_8, .ref a_9, .ref a_10, .ref a_11, .ref a_12, .ref a_13, .ref a_14, .ref a_15, .ref a_16, .ref a_17, .ref a_18, .int k_10, .int k_11, .int k_12, .int k_13, .int k_14, .int k_15, .ref a_19, .int k_16, .ref a_20])), (a_1, .inl (cy 1, 4, .inl (fun _ => (-1))))] H) (hD : va_D A [(a_0, .inr (12, [.int 0, .ref a_1, .ref a_2, .ref a_3, .ref a_4, .ref a_5, .int k_0, .int k_1, .int k_2, .int k_3, .int k_4, .long k_5, .int k_6, .int k_7, .int k_8, .int k_9, .ref a_6, .ref a_7, .ref a_8, .ref a_9, .ref a_10, .ref a_11, .ref a_12, .ref a_13, .ref a_14, .ref a_15, .ref a_16, .ref a_17, .ref a_18, .int k_10, .int k_11, .int k_12, .int k_13, .int k_14, .int k_15, .ref a_19, .int k_16, .ref a_20])), (a_1, .inl (cy 1, 4, .inl (fun _ => (-1))))]) hS
  refine lv_iload_n hx hb dX12_paste_5 rfl (lv_at hl 1 rfl) ?_
  refine mm_finir (va_runS (As := [.int i_0]) (rest := []) ⟨hx, hb, hml, hown, hts⟩ (K217_X12_isSlot l G cy H.size i_0 ) (va_cwS 1 hts (mm_gS mm_w1269 mm_w1270 mm_w5 mm_w1271) rfl rfl rfl hs_X12_isSlot ⟨by rw [hRf]; exact Nat.le_of_ble_eq_true rfl, by rw [hRl]; exact Nat.le_of_ble_eq_true rfl⟩) (mm_preS hK hP hD [] rfl rfl) rfl rfl hl.1 rfl (lv_room (Nat.le_of_ble_eq_true rfl)) dX12_paste_6 ⟨by rw [hRc]; exact Nat.le_of_ble_eq_true rfl, by rw [hRs]; exact Nat.le_of_ble_eq_true rfl⟩) hP hD hS hA [] rfl (fun _ => rfl) ?_
  clear hP hD hS
  clear H locs
  intro v1 _u H locs hw hP hD hS
  rcases hw with ⟨rfl, w2⟩ | ⟨rfl, w3⟩ | ⟨rfl, w4⟩
  · refine lv_if_eq (tgt := 19) hx hb dX12_paste_9 (by decide) (fun c5 => ?_) (fun c5 => ?_)
    · refine lv_bipush (v := (-2)) hx hb dX12_paste_19 (by decide) ?_
      subst hAe
      rw [hQ]
      exact W.iret (v := (-2)) hx hb hr (fun t ht hW => ⟨⟨(-2), (), rfl, (Or.inl ⟨rfl, w2⟩), by rw [ht]; exact hP, hK.warm hW, hD⟩, hS.F ht⟩) hS.2.2 dX12_paste_21
    · have q6 := mm_neL (lo := 1) (mm_ne c5) mm_k0 mm_k0 (by decide) (by decide)
      exact mm_no q6 (by decide)
  · refine lv_if_eq (tgt := 19) hx hb dX12_paste_9 (by decide) (fun c7 => ?_) (fun c7 => ?_)
    · refine lv_bipush (v := (-2)) hx hb dX12_paste_19 (by decide) ?_
      subst hAe
      rw [hQ]
      exact W.iret (v := (-2)) hx hb hr (fun t ht hW => ⟨⟨(-2), (), rfl, (Or.inr (Or.inl ⟨rfl, w3⟩)), by rw [ht]; exact hP, hK.warm hW, hD⟩, hS.F ht⟩) hS.2.2 dX12_paste_21
    · have q8 := mm_neL (lo := 1) (mm_ne c7) mm_k0 mm_k0 (by decide) (by decide)
      exact mm_no q8 (by decide)
  · refine lv_if_eq (tgt := 19) hx hb dX12_paste_9 (by decide) (fun c9 => ?_) (fun c9 => ?_)
    · exact mm_eqN c9.symm mm_k0 mm_k1 (by decide)
    · refine lv_iload_n hx hb dX12_paste_12 rfl (lv_at hl 3 rfl) ?_
      refine mm_finir (va_runS (As := [.int i_2]) (rest := []) ⟨hx, hb, hml, hown, hts⟩ (K217_X12_isSlot l G cy H.size i_2 ) (va_cwS 1 hts (mm_gS mm_w1269 mm_w1270 mm_w5 mm_w1271) rfl rfl rfl hs_X12_isSlot ⟨by rw [hRf]; exact Nat.le_of_ble_eq_true rfl, by rw [hRl]; exact Nat.le_of_ble_eq_true rfl⟩) (mm_preS hK hP hD [] rfl rfl) rfl rfl hl.1 rfl (lv_room (Nat.le_of_ble_eq_true rfl)) dX12_paste_13 ⟨by rw [hRc]; exact Nat.le_of_ble_eq_true rfl, by rw [hRs]; exact Nat.le_of_ble_eq_true rfl⟩) hP hD hS hA [] rfl (fun _ => rfl) ?_
      clear hP hD hS
      clear H locs
      intro v10 _u H locs hw hP hD hS
      rcases hw with ⟨rfl, w11⟩ | ⟨rfl, w12⟩ | ⟨rfl, w13⟩
      · refine lv_if_ne (tgt := 22) hx hb dX12_paste_16 (by decide) (fun c14 => ?_) (fun c14 => ?_)
        · have q15 := mm_neL (lo := 1) (mm_ne c14) mm_k0 mm_k0 (by decide) (by decide)
          exact mm_no q15 (by decide)
        · refine lv_bipush (v := (-2)) hx hb dX12_paste_19 (by decide) ?_
          subst hAe
          rw [hQ]
          exact W.iret (v := (-2)) hx hb hr (fun t ht hW => ⟨⟨(-2), (), rfl, (Or.inr (Or.inr (Or.inl ⟨rfl, w4, w11⟩))), by rw [ht]; exact hP, hK.warm hW, hD⟩, hS.F ht⟩) hS.2.2 dX12_paste_21
      · refine lv_if_ne (tgt := 22) hx hb dX12_paste_16 (by decide) (fun c16 => ?_) (fun c16 => ?_)
        · have q17 := mm_neL (lo := 1) (mm_ne c16) mm_k0 mm_k0 (by decide) (by decide)
          exact mm_no q17 (by decide)
        · refine lv_bipush (v := (-2)) hx hb dX12_paste_19 (by decide) ?_
          subst hAe
          rw [hQ]
          exact W.iret (v := (-2)) hx hb hr (fun t ht hW => ⟨⟨(-2), (), rfl, (Or.inr (Or.inr (Or.inr (Or.inl ⟨rfl, w4, w12⟩)))), by rw [ht]; exact hP, hK.warm hW, hD⟩, hS.F ht⟩) hS.2.2 dX12_paste_21
      · refine lv_if_ne (tgt := 22) hx hb dX12_paste_16 (by decide) (fun c18 => ?_) (fun c18 => ?_)
        · refine lv_aload_n hx hb dX12_paste_22 rfl (lv_at hl 0 rfl) ?_
          refine va_get (D := G) (ci := 12) (v := .ref a_1) (C := RX12) (T := TX12) (N := 38) hx hb hts (mm_i inlX12) hown hK.1 hP 0 rfl rfl 1 (by decide) (mm_h hts mm_w142) (fun _ h9 => h9) rfl dX12_paste_23 ?_
          refine lv_iload_n hx hb dX12_paste_26 rfl (lv_at hl 1 rfl) ?_
          refine va_iald hx hb hK.1 hP 1 1 rfl rfl (mm_in w4 (by decide)) dX12_paste_27 ?_
          refine lv_topi (fun v19 ev19 => ?_)
          obtain rfl : v19 = (-1) := ev19
          refine lv_iconst (v := (-1)) hx hb dX12_paste_28 (by decide) ?_
          refine lv_icmp_eq (tgt := 42) hx hb dX12_paste_29 (by decide) (fun c20 => ?_) (fun c20 => ?_)
          · refine lv_bipush (v := (-6)) hx hb dX12_paste_42 (by decide) ?_
            subst hAe
            rw [hQ]
            exact W.iret (v := (-6)) hx hb hr (fun t ht hW => ⟨⟨(-6), (), rfl, (Or.inr (Or.inr (Or.inr (Or.inr ⟨rfl, w4, w13⟩)))), by rw [ht]; exact hP, hK.warm hW, hD⟩, hS.F ht⟩) hS.2.2 dX12_paste_44
          · have q21 := mm_neL (lo := 0) (mm_ne c20) mm_km1 mm_km1 (by decide) (by decide)
            exact mm_no q21 (by decide)
        · exact mm_eqN c18.symm mm_k0 mm_k1 (by decide)

