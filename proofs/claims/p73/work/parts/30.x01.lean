theorem dJ0_charAt_5068e_0 : decode cJ0_charAt_5068e 0 = .ok (.aload_n 0, 1) := by decide +kernel
theorem dJ0_charAt_5068e_1 : decode cJ0_charAt_5068e 1 = .ok (.invokevirtual 492, 3) := by decide +kernel
theorem dJ0_charAt_5068e_4 : decode cJ0_charAt_5068e 4 = .ok (.ifCond .eq 12, 3) := by decide +kernel
theorem dJ0_charAt_5068e_7 : decode cJ0_charAt_5068e 7 = .ok (.aload_n 0, 1) := by decide +kernel
theorem dJ0_charAt_5068e_8 : decode cJ0_charAt_5068e 8 = .ok (.getfield 9, 3) := by decide +kernel
theorem dJ0_charAt_5068e_11 : decode cJ0_charAt_5068e 11 = .ok (.iload_n 1, 1) := by decide +kernel
theorem dJ0_charAt_5068e_12 : decode cJ0_charAt_5068e 12 = .ok (.invokestatic 495, 3) := by decide +kernel
theorem dJ0_charAt_5068e_15 : decode cJ0_charAt_5068e 15 = .ok (.ireturn, 1) := by decide +kernel
theorem dJ0_checkIndex_df160_0 : decode cJ0_checkIndex_df160 0 = .ok (.iload_n 0, 1) := by decide +kernel
theorem dJ0_checkIndex_df160_1 : decode cJ0_checkIndex_df160 1 = .ok (.iload_n 1, 1) := by decide +kernel
theorem dJ0_checkIndex_df160_2 : decode cJ0_checkIndex_df160 2 = .ok (.getstatic 1053, 3) := by decide +kernel
theorem dJ0_checkIndex_df160_5 : decode cJ0_checkIndex_df160 5 = .ok (.invokestatic 1059, 3) := by decide +kernel
theorem dJ0_checkIndex_df160_8 : decode cJ0_checkIndex_df160 8 = .ok (.pop, 1) := by decide +kernel
theorem dJ0_checkIndex_df160_9 : decode cJ0_checkIndex_df160 9 = .ok (.return_, 1) := by decide +kernel
theorem dJ0_coder_7d493_0 : decode cJ0_coder_7d493 0 = .ok (.getstatic 38, 3) := by decide +kernel
theorem dJ0_coder_7d493_3 : decode cJ0_coder_7d493 3 = .ok (.ifCond .eq 10, 3) := by decide +kernel
theorem dJ0_coder_7d493_6 : decode cJ0_coder_7d493 6 = .ok (.aload_n 0, 1) := by decide +kernel
theorem dJ0_coder_7d493_7 : decode cJ0_coder_7d493 7 = .ok (.getfield 15, 3) := by decide +kernel
theorem dJ0_coder_7d493_10 : decode cJ0_coder_7d493 10 = .ok (.goto 4, 3) := by decide +kernel
theorem dJ0_coder_7d493_14 : decode cJ0_coder_7d493 14 = .ok (.ireturn, 1) := by decide +kernel
theorem dJ0_isLatin1_aae02_0 : decode cJ0_isLatin1_aae02 0 = .ok (.getstatic 38, 3) := by decide +kernel
theorem dJ0_isLatin1_aae02_3 : decode cJ0_isLatin1_aae02 3 = .ok (.ifCond .eq 14, 3) := by decide +kernel
theorem dJ0_isLatin1_aae02_6 : decode cJ0_isLatin1_aae02 6 = .ok (.aload_n 0, 1) := by decide +kernel
theorem dJ0_isLatin1_aae02_7 : decode cJ0_isLatin1_aae02 7 = .ok (.getfield 15, 3) := by decide +kernel
theorem dJ0_isLatin1_aae02_10 : decode cJ0_isLatin1_aae02 10 = .ok (.ifCond .ne 7, 3) := by decide +kernel
theorem dJ0_isLatin1_aae02_13 : decode cJ0_isLatin1_aae02 13 = .ok (.iconst 1, 1) := by decide +kernel
theorem dJ0_isLatin1_aae02_14 : decode cJ0_isLatin1_aae02 14 = .ok (.goto 4, 3) := by decide +kernel
theorem dJ0_isLatin1_aae02_18 : decode cJ0_isLatin1_aae02 18 = .ok (.ireturn, 1) := by decide +kernel
theorem dJ0_length_8abf5_0 : decode cJ0_length_8abf5 0 = .ok (.aload_n 0, 1) := by decide +kernel
theorem dJ0_length_8abf5_1 : decode cJ0_length_8abf5 1 = .ok (.getfield 9, 3) := by decide +kernel
theorem dJ0_length_8abf5_4 : decode cJ0_length_8abf5 4 = .ok (.arraylength, 1) := by decide +kernel
theorem dJ0_length_8abf5_5 : decode cJ0_length_8abf5 5 = .ok (.aload_n 0, 1) := by decide +kernel
theorem dJ0_length_8abf5_6 : decode cJ0_length_8abf5 6 = .ok (.invokevirtual 335, 3) := by decide +kernel
theorem dJ0_length_8abf5_9 : decode cJ0_length_8abf5 9 = .ok (.ishr, 1) := by decide +kernel
theorem dJ0_length_8abf5_10 : decode cJ0_length_8abf5 10 = .ok (.ireturn, 1) := by decide +kernel
theorem dJ1_charAt_3b067_0 : decode cJ1_charAt_3b067 0 = .ok (.iload_n 1, 1) := by decide +kernel
theorem dJ1_charAt_3b067_1 : decode cJ1_charAt_3b067 1 = .ok (.aload_n 0, 1) := by decide +kernel
theorem dJ1_charAt_3b067_2 : decode cJ1_charAt_3b067 2 = .ok (.arraylength, 1) := by decide +kernel
theorem dJ1_charAt_3b067_3 : decode cJ1_charAt_3b067 3 = .ok (.invokestatic 9, 3) := by decide +kernel
theorem dJ1_charAt_3b067_6 : decode cJ1_charAt_3b067 6 = .ok (.aload_n 0, 1) := by decide +kernel
theorem dJ1_charAt_3b067_7 : decode cJ1_charAt_3b067 7 = .ok (.iload_n 1, 1) := by decide +kernel
theorem dJ1_charAt_3b067_8 : decode cJ1_charAt_3b067 8 = .ok (.baload, 1) := by decide +kernel
theorem dJ1_charAt_3b067_9 : decode cJ1_charAt_3b067 9 = .ok (.sipush 255, 3) := by decide +kernel
theorem dJ1_charAt_3b067_12 : decode cJ1_charAt_3b067 12 = .ok (.iand, 1) := by decide +kernel
theorem dJ1_charAt_3b067_13 : decode cJ1_charAt_3b067 13 = .ok (.i2c, 1) := by decide +kernel
theorem dJ1_charAt_3b067_14 : decode cJ1_charAt_3b067 14 = .ok (.ireturn, 1) := by decide +kernel
theorem dJ3_checkIndex_8e157_0 : decode cJ3_checkIndex_8e157 0 = .ok (.iload_n 0, 1) := by decide +kernel
theorem dJ3_checkIndex_8e157_1 : decode cJ3_checkIndex_8e157 1 = .ok (.ifCond .lt 8, 3) := by decide +kernel
theorem dJ3_checkIndex_8e157_4 : decode cJ3_checkIndex_8e157 4 = .ok (.iload_n 0, 1) := by decide +kernel
theorem dJ3_checkIndex_8e157_5 : decode cJ3_checkIndex_8e157 5 = .ok (.iload_n 1, 1) := by decide +kernel
theorem dJ3_checkIndex_8e157_6 : decode cJ3_checkIndex_8e157 6 = .ok (.if_icmp .lt 10, 3) := by decide +kernel
theorem dJ3_checkIndex_8e157_16 : decode cJ3_checkIndex_8e157 16 = .ok (.iload_n 0, 1) := by decide +kernel
theorem dJ3_checkIndex_8e157_17 : decode cJ3_checkIndex_8e157 17 = .ok (.ireturn, 1) := by decide +kernel
theorem dX0_setTaken_0 : decode cX0_setTaken 0 = .ok (.aload_n 0, 1) := by decide +kernel
theorem dX0_setTaken_1 : decode cX0_setTaken 1 = .ok (.getfield 21, 3) := by decide +kernel
theorem dX0_setTaken_4 : decode cX0_setTaken 4 = .ok (.iload_n 1, 1) := by decide +kernel
theorem dX0_setTaken_5 : decode cX0_setTaken 5 = .ok (.bipush 7, 2) := by decide +kernel
theorem dX0_setTaken_7 : decode cX0_setTaken 7 = .ok (.imul, 1) := by decide +kernel
theorem dX0_setTaken_8 : decode cX0_setTaken 8 = .ok (.iload_n 2, 1) := by decide +kernel
theorem dX0_setTaken_9 : decode cX0_setTaken 9 = .ok (.iadd, 1) := by decide +kernel
theorem dX0_setTaken_10 : decode cX0_setTaken 10 = .ok (.bipush 10, 2) := by decide +kernel
theorem dX0_setTaken_12 : decode cX0_setTaken 12 = .ok (.imul, 1) := by decide +kernel
theorem dX0_setTaken_13 : decode cX0_setTaken 13 = .ok (.iload_n 3, 1) := by decide +kernel
theorem dX0_setTaken_14 : decode cX0_setTaken 14 = .ok (.iadd, 1) := by decide +kernel
theorem dX0_setTaken_15 : decode cX0_setTaken 15 = .ok (.iload 4, 2) := by decide +kernel
theorem dX0_setTaken_17 : decode cX0_setTaken 17 = .ok (.iastore, 1) := by decide +kernel
theorem dX0_setTaken_18 : decode cX0_setTaken 18 = .ok (.return_, 1) := by decide +kernel
theorem dX0_setWordAt_0 : decode cX0_setWordAt 0 = .ok (.aload_n 0, 1) := by decide +kernel
theorem dX0_setWordAt_1 : decode cX0_setWordAt 1 = .ok (.getfield 27, 3) := by decide +kernel
theorem dX0_setWordAt_4 : decode cX0_setWordAt 4 = .ok (.iload_n 1, 1) := by decide +kernel
theorem dX0_setWordAt_5 : decode cX0_setWordAt 5 = .ok (.bipush 8, 2) := by decide +kernel
theorem dX0_setWordAt_7 : decode cX0_setWordAt 7 = .ok (.imul, 1) := by decide +kernel
theorem dX0_setWordAt_8 : decode cX0_setWordAt 8 = .ok (.iload_n 2, 1) := by decide +kernel
theorem dX0_setWordAt_9 : decode cX0_setWordAt 9 = .ok (.iadd, 1) := by decide +kernel
theorem dX0_setWordAt_10 : decode cX0_setWordAt 10 = .ok (.iload_n 3, 1) := by decide +kernel
theorem dX0_setWordAt_11 : decode cX0_setWordAt 11 = .ok (.iastore, 1) := by decide +kernel
theorem dX0_setWordAt_12 : decode cX0_setWordAt 12 = .ok (.aload_n 0, 1) := by decide +kernel
theorem dX0_setWordAt_13 : decode cX0_setWordAt 13 = .ok (.getfield 24, 3) := by decide +kernel
theorem dX0_setWordAt_16 : decode cX0_setWordAt 16 = .ok (.iload_n 1, 1) := by decide +kernel
theorem dX0_setWordAt_17 : decode cX0_setWordAt 17 = .ok (.iload_n 2, 1) := by decide +kernel
theorem dX0_setWordAt_18 : decode cX0_setWordAt 18 = .ok (.iconst 1, 1) := by decide +kernel
theorem dX0_setWordAt_19 : decode cX0_setWordAt 19 = .ok (.iadd, 1) := by decide +kernel
theorem dX0_setWordAt_20 : decode cX0_setWordAt 20 = .ok (.iastore, 1) := by decide +kernel
theorem dX0_setWordAt_21 : decode cX0_setWordAt 21 = .ok (.return_, 1) := by decide +kernel
theorem dX0_wordCount_0 : decode cX0_wordCount 0 = .ok (.aload_n 0, 1) := by decide +kernel
theorem dX0_wordCount_1 : decode cX0_wordCount 1 = .ok (.getfield 55, 3) := by decide +kernel
theorem dX0_wordCount_4 : decode cX0_wordCount 4 = .ok (.iconst 1, 1) := by decide +kernel
theorem dX0_wordCount_5 : decode cX0_wordCount 5 = .ok (.iadd, 1) := by decide +kernel
theorem dX0_wordCount_6 : decode cX0_wordCount 6 = .ok (.ireturn, 1) := by decide +kernel
theorem dX7_blame_0 : decode cX7_blame 0 = .ok (.aload_n 0, 1) := by decide +kernel
theorem dX7_blame_1 : decode cX7_blame 1 = .ok (.getfield 29, 3) := by decide +kernel
theorem dX7_blame_4 : decode cX7_blame 4 = .ok (.ifCond .ne 16, 3) := by decide +kernel
theorem dX7_blame_7 : decode cX7_blame 7 = .ok (.aload_n 0, 1) := by decide +kernel
theorem dX7_blame_8 : decode cX7_blame 8 = .ok (.iload_n 1, 1) := by decide +kernel
theorem dX7_blame_9 : decode cX7_blame 9 = .ok (.putfield 29, 3) := by decide +kernel
theorem dX7_blame_12 : decode cX7_blame 12 = .ok (.aload_n 0, 1) := by decide +kernel
theorem dX7_blame_13 : decode cX7_blame 13 = .ok (.aload_n 0, 1) := by decide +kernel
theorem dX7_blame_14 : decode cX7_blame 14 = .ok (.getfield 170, 3) := by decide +kernel
theorem dX7_blame_17 : decode cX7_blame 17 = .ok (.putfield 18, 3) := by decide +kernel
theorem dX7_blame_20 : decode cX7_blame 20 = .ok (.return_, 1) := by decide +kernel
theorem dX7_isName_0 : decode cX7_isName 0 = .ok (.aload_n 1, 1) := by decide +kernel
theorem dX7_isName_1 : decode cX7_isName 1 = .ok (.invokevirtual 173, 3) := by decide +kernel
theorem dX7_isName_4 : decode cX7_isName 4 = .ok (.istore_n 2, 1) := by decide +kernel
theorem dX7_isName_5 : decode cX7_isName 5 = .ok (.aload_n 0, 1) := by decide +kernel
theorem dX7_isName_6 : decode cX7_isName 6 = .ok (.getfield 38, 3) := by decide +kernel
theorem dX7_isName_9 : decode cX7_isName 9 = .ok (.iconst 2, 1) := by decide +kernel
theorem dX7_isName_10 : decode cX7_isName 10 = .ok (.if_icmp .ne 30, 3) := by decide +kernel
theorem dX7_isName_13 : decode cX7_isName 13 = .ok (.aload_n 0, 1) := by decide +kernel
theorem dX7_isName_14 : decode cX7_isName 14 = .ok (.getfield 32, 3) := by decide +kernel
theorem dX7_isName_17 : decode cX7_isName 17 = .ok (.aload_n 0, 1) := by decide +kernel
theorem dX7_isName_18 : decode cX7_isName 18 = .ok (.getfield 170, 3) := by decide +kernel
theorem dX7_isName_21 : decode cX7_isName 21 = .ok (.isub, 1) := by decide +kernel
theorem dX7_isName_22 : decode cX7_isName 22 = .ok (.iload_n 2, 1) := by decide +kernel
theorem dX7_isName_23 : decode cX7_isName 23 = .ok (.if_icmp .ne 17, 3) := by decide +kernel
theorem dX7_isName_26 : decode cX7_isName 26 = .ok (.aload_n 0, 1) := by decide +kernel
theorem dX7_isName_27 : decode cX7_isName 27 = .ok (.getfield 32, 3) := by decide +kernel
theorem dX7_isName_30 : decode cX7_isName 30 = .ok (.aload_n 0, 1) := by decide +kernel
theorem dX7_isName_31 : decode cX7_isName 31 = .ok (.getfield 22, 3) := by decide +kernel
theorem dX7_isName_34 : decode cX7_isName 34 = .ok (.getfield 178, 3) := by decide +kernel
theorem dX7_isName_37 : decode cX7_isName 37 = .ok (.if_icmp .le 5, 3) := by decide +kernel
theorem dX7_isName_40 : decode cX7_isName 40 = .ok (.iconst 0, 1) := by decide +kernel
theorem dX7_isName_41 : decode cX7_isName 41 = .ok (.ireturn, 1) := by decide +kernel
theorem dX7_isName_42 : decode cX7_isName 42 = .ok (.iconst 0, 1) := by decide +kernel
theorem dX7_isName_43 : decode cX7_isName 43 = .ok (.istore_n 3, 1) := by decide +kernel
theorem dX7_isName_44 : decode cX7_isName 44 = .ok (.iload_n 3, 1) := by decide +kernel
theorem dX7_isName_45 : decode cX7_isName 45 = .ok (.iload_n 2, 1) := by decide +kernel
theorem dX7_isName_46 : decode cX7_isName 46 = .ok (.if_icmp .ge 33, 3) := by decide +kernel
theorem dX7_isName_49 : decode cX7_isName 49 = .ok (.aload_n 0, 1) := by decide +kernel
theorem dX7_isName_50 : decode cX7_isName 50 = .ok (.getfield 22, 3) := by decide +kernel
theorem dX7_isName_53 : decode cX7_isName 53 = .ok (.getfield 182, 3) := by decide +kernel
theorem dX7_isName_56 : decode cX7_isName 56 = .ok (.aload_n 0, 1) := by decide +kernel
theorem dX7_isName_57 : decode cX7_isName 57 = .ok (.getfield 170, 3) := by decide +kernel
theorem dX7_isName_60 : decode cX7_isName 60 = .ok (.iload_n 3, 1) := by decide +kernel
theorem dX7_isName_61 : decode cX7_isName 61 = .ok (.iadd, 1) := by decide +kernel
theorem dX7_isName_62 : decode cX7_isName 62 = .ok (.baload, 1) := by decide +kernel
theorem dX7_isName_63 : decode cX7_isName 63 = .ok (.aload_n 1, 1) := by decide +kernel
theorem dX7_isName_64 : decode cX7_isName 64 = .ok (.iload_n 3, 1) := by decide +kernel
theorem dX7_isName_65 : decode cX7_isName 65 = .ok (.invokevirtual 186, 3) := by decide +kernel
theorem dX7_isName_68 : decode cX7_isName 68 = .ok (.if_icmp .eq 5, 3) := by decide +kernel
theorem dX7_isName_71 : decode cX7_isName 71 = .ok (.iconst 0, 1) := by decide +kernel
theorem dX7_isName_72 : decode cX7_isName 72 = .ok (.ireturn, 1) := by decide +kernel
theorem dX7_isName_73 : decode cX7_isName 73 = .ok (.iinc 3 1, 3) := by decide +kernel
theorem dX7_isName_76 : decode cX7_isName 76 = .ok (.goto (-32), 3) := by decide +kernel
theorem dX7_isName_79 : decode cX7_isName 79 = .ok (.iconst 1, 1) := by decide +kernel
theorem dX7_isName_80 : decode cX7_isName 80 = .ok (.ireturn, 1) := by decide +kernel
theorem dX7_opensRule_0 : decode cX7_opensRule 0 = .ok (.aload_n 0, 1) := by decide +kernel
theorem dX7_opensRule_1 : decode cX7_opensRule 1 = .ok (.getfield 12, 3) := by decide +kernel
theorem dX7_opensRule_4 : decode cX7_opensRule 4 = .ok (.getfield 80, 3) := by decide +kernel
theorem dX7_opensRule_7 : decode cX7_opensRule 7 = .ok (.iconst 1, 1) := by decide +kernel
theorem dX7_opensRule_8 : decode cX7_opensRule 8 = .ok (.isub, 1) := by decide +kernel
theorem dX7_opensRule_9 : decode cX7_opensRule 9 = .ok (.istore_n 1, 1) := by decide +kernel
theorem dX7_opensRule_10 : decode cX7_opensRule 10 = .ok (.iload_n 1, 1) := by decide +kernel
theorem dX7_opensRule_11 : decode cX7_opensRule 11 = .ok (.ifCond .ge 10, 3) := by decide +kernel
theorem dX7_opensRule_14 : decode cX7_opensRule 14 = .ok (.aload_n 0, 1) := by decide +kernel
theorem dX7_opensRule_15 : decode cX7_opensRule 15 = .ok (.iconst 1, 1) := by decide +kernel
theorem dX7_opensRule_16 : decode cX7_opensRule 16 = .ok (.invokevirtual 92, 3) := by decide +kernel
theorem dX7_opensRule_19 : decode cX7_opensRule 19 = .ok (.iconst 0, 1) := by decide +kernel
theorem dX7_opensRule_20 : decode cX7_opensRule 20 = .ok (.ireturn, 1) := by decide +kernel
theorem dX7_opensRule_21 : decode cX7_opensRule 21 = .ok (.aload_n 0, 1) := by decide +kernel
theorem dX7_opensRule_22 : decode cX7_opensRule 22 = .ok (.getfield 12, 3) := by decide +kernel
theorem dX7_opensRule_25 : decode cX7_opensRule 25 = .ok (.getfield 134, 3) := by decide +kernel
theorem dX7_opensRule_28 : decode cX7_opensRule 28 = .ok (.iload_n 1, 1) := by decide +kernel
theorem dX7_opensRule_29 : decode cX7_opensRule 29 = .ok (.iaload, 1) := by decide +kernel
theorem dX7_opensRule_30 : decode cX7_opensRule 30 = .ok (.bipush 7, 2) := by decide +kernel
theorem dX7_opensRule_32 : decode cX7_opensRule 32 = .ok (.if_icmp .lt 10, 3) := by decide +kernel
theorem dX7_opensRule_35 : decode cX7_opensRule 35 = .ok (.aload_n 0, 1) := by decide +kernel
theorem dX7_opensRule_36 : decode cX7_opensRule 36 = .ok (.iconst 3, 1) := by decide +kernel
theorem dX7_opensRule_37 : decode cX7_opensRule 37 = .ok (.invokevirtual 92, 3) := by decide +kernel
theorem dX7_opensRule_40 : decode cX7_opensRule 40 = .ok (.iconst 0, 1) := by decide +kernel
theorem dX7_opensRule_41 : decode cX7_opensRule 41 = .ok (.ireturn, 1) := by decide +kernel
theorem dX7_opensRule_42 : decode cX7_opensRule 42 = .ok (.aload_n 0, 1) := by decide +kernel
theorem dX7_opensRule_43 : decode cX7_opensRule 43 = .ok (.iload_n 1, 1) := by decide +kernel
theorem dX7_opensRule_44 : decode cX7_opensRule 44 = .ok (.aload_n 0, 1) := by decide +kernel
theorem dX7_opensRule_45 : decode cX7_opensRule 45 = .ok (.getfield 12, 3) := by decide +kernel
theorem dX7_opensRule_48 : decode cX7_opensRule 48 = .ok (.getfield 134, 3) := by decide +kernel
theorem dX7_opensRule_51 : decode cX7_opensRule 51 = .ok (.iload_n 1, 1) := by decide +kernel
theorem dX7_opensRule_52 : decode cX7_opensRule 52 = .ok (.iaload, 1) := by decide +kernel
theorem dX7_opensRule_53 : decode cX7_opensRule 53 = .ok (.iconst 0, 1) := by decide +kernel
theorem dX7_opensRule_54 : decode cX7_opensRule 54 = .ok (.invokevirtual 137, 3) := by decide +kernel
theorem dX7_opensRule_57 : decode cX7_opensRule 57 = .ok (.aload_n 0, 1) := by decide +kernel
theorem dX7_opensRule_58 : decode cX7_opensRule 58 = .ok (.invokevirtual 35, 3) := by decide +kernel
theorem dX7_opensRule_61 : decode cX7_opensRule 61 = .ok (.iconst 1, 1) := by decide +kernel
theorem dX7_opensRule_62 : decode cX7_opensRule 62 = .ok (.ireturn, 1) := by decide +kernel
theorem dX7_refuse_0 : decode cX7_refuse 0 = .ok (.aload_n 0, 1) := by decide +kernel
theorem dX7_refuse_1 : decode cX7_refuse 1 = .ok (.getfield 38, 3) := by decide +kernel
theorem dX7_refuse_4 : decode cX7_refuse 4 = .ok (.iconst 3, 1) := by decide +kernel
theorem dX7_refuse_5 : decode cX7_refuse 5 = .ok (.if_icmp .ne 16, 3) := by decide +kernel
theorem dX7_refuse_8 : decode cX7_refuse 8 = .ok (.aload_n 0, 1) := by decide +kernel
theorem dX7_refuse_9 : decode cX7_refuse 9 = .ok (.getfield 167, 3) := by decide +kernel
theorem dX7_refuse_12 : decode cX7_refuse 12 = .ok (.iload_n 1, 1) := by decide +kernel
theorem dX7_refuse_13 : decode cX7_refuse 13 = .ok (.if_icmp .ne 8, 3) := by decide +kernel
theorem dX7_refuse_16 : decode cX7_refuse 16 = .ok (.aload_n 0, 1) := by decide +kernel
theorem dX7_refuse_17 : decode cX7_refuse 17 = .ok (.iconst 2, 1) := by decide +kernel
theorem dX7_refuse_18 : decode cX7_refuse 18 = .ok (.invokevirtual 92, 3) := by decide +kernel
theorem dX7_refuse_21 : decode cX7_refuse 21 = .ok (.return_, 1) := by decide +kernel
theorem dX7_shiftAll_0 : decode cX7_shiftAll 0 = .ok (.iconst 1, 1) := by decide +kernel
theorem dX7_shiftAll_1 : decode cX7_shiftAll 1 = .ok (.aload_n 0, 1) := by decide +kernel
theorem dX7_shiftAll_2 : decode cX7_shiftAll 2 = .ok (.getfield 12, 3) := by decide +kernel
theorem dX7_shiftAll_5 : decode cX7_shiftAll 5 = .ok (.invokevirtual 156, 3) := by decide +kernel
theorem dX7_shiftAll_8 : decode cX7_shiftAll 8 = .ok (.invokestatic 159, 3) := by decide +kernel
theorem dX7_shiftAll_11 : decode cX7_shiftAll 11 = .ok (.istore 4, 2) := by decide +kernel
theorem dX7_shiftAll_13 : decode cX7_shiftAll 13 = .ok (.iconst 0, 1) := by decide +kernel
theorem dX7_shiftAll_14 : decode cX7_shiftAll 14 = .ok (.istore 5, 2) := by decide +kernel
theorem dX7_shiftAll_16 : decode cX7_shiftAll 16 = .ok (.iload 5, 2) := by decide +kernel
theorem dX7_shiftAll_18 : decode cX7_shiftAll 18 = .ok (.iload 4, 2) := by decide +kernel
theorem dX7_shiftAll_20 : decode cX7_shiftAll 20 = .ok (.if_icmp .ge 27, 3) := by decide +kernel
theorem dX7_shiftAll_23 : decode cX7_shiftAll 23 = .ok (.aload_n 0, 1) := by decide +kernel
theorem dX7_shiftAll_24 : decode cX7_shiftAll 24 = .ok (.getfield 12, 3) := by decide +kernel
theorem dX7_shiftAll_27 : decode cX7_shiftAll 27 = .ok (.iload_n 1, 1) := by decide +kernel
theorem dX7_shiftAll_28 : decode cX7_shiftAll 28 = .ok (.iload_n 2, 1) := by decide +kernel
theorem dX7_shiftAll_29 : decode cX7_shiftAll 29 = .ok (.iload 5, 2) := by decide +kernel
theorem dX7_shiftAll_31 : decode cX7_shiftAll 31 = .ok (.iload 5, 2) := by decide +kernel
theorem dX7_shiftAll_33 : decode cX7_shiftAll 33 = .ok (.iload_n 3, 1) := by decide +kernel
theorem dX7_shiftAll_34 : decode cX7_shiftAll 34 = .ok (.iadd, 1) := by decide +kernel
theorem dX7_shiftAll_35 : decode cX7_shiftAll 35 = .ok (.iload 4, 2) := by decide +kernel
theorem dX7_shiftAll_37 : decode cX7_shiftAll 37 = .ok (.irem, 1) := by decide +kernel
theorem dX7_shiftAll_38 : decode cX7_shiftAll 38 = .ok (.invokevirtual 148, 3) := by decide +kernel
theorem dX7_shiftAll_41 : decode cX7_shiftAll 41 = .ok (.iinc 5 1, 3) := by decide +kernel
theorem dX7_shiftAll_44 : decode cX7_shiftAll 44 = .ok (.goto (-28), 3) := by decide +kernel
theorem dX7_shiftAll_47 : decode cX7_shiftAll 47 = .ok (.return_, 1) := by decide +kernel
theorem dX7_takeIf_0 : decode cX7_takeIf 0 = .ok (.iload_n 1, 1) := by decide +kernel
theorem dX7_takeIf_1 : decode cX7_takeIf 1 = .ok (.ifCond .ne 11, 3) := by decide +kernel
theorem dX7_takeIf_4 : decode cX7_takeIf 4 = .ok (.aload_n 0, 1) := by decide +kernel
theorem dX7_takeIf_5 : decode cX7_takeIf 5 = .ok (.iconst 1, 1) := by decide +kernel
theorem dX7_takeIf_6 : decode cX7_takeIf 6 = .ok (.invokevirtual 92, 3) := by decide +kernel
theorem dX7_takeIf_9 : decode cX7_takeIf 9 = .ok (.goto 14, 3) := by decide +kernel
theorem dX7_takeIf_12 : decode cX7_takeIf 12 = .ok (.aload_n 0, 1) := by decide +kernel
theorem dX7_takeIf_13 : decode cX7_takeIf 13 = .ok (.getfield 29, 3) := by decide +kernel
theorem dX7_takeIf_16 : decode cX7_takeIf 16 = .ok (.ifCond .ne 7, 3) := by decide +kernel
theorem dX7_takeIf_19 : decode cX7_takeIf 19 = .ok (.aload_n 0, 1) := by decide +kernel
theorem dX7_takeIf_20 : decode cX7_takeIf 20 = .ok (.invokevirtual 35, 3) := by decide +kernel
theorem dX7_takeIf_23 : decode cX7_takeIf 23 = .ok (.return_, 1) := by decide +kernel
theorem dX7_takeNumber_0 : decode cX7_takeNumber 0 = .ok (.aload_n 0, 1) := by decide +kernel
theorem dX7_takeNumber_1 : decode cX7_takeNumber 1 = .ok (.getfield 38, 3) := by decide +kernel
theorem dX7_takeNumber_4 : decode cX7_takeNumber 4 = .ok (.iconst 3, 1) := by decide +kernel
theorem dX7_takeNumber_5 : decode cX7_takeNumber 5 = .ok (.if_icmp .eq 11, 3) := by decide +kernel
theorem dX7_takeNumber_8 : decode cX7_takeNumber 8 = .ok (.aload_n 0, 1) := by decide +kernel
theorem dX7_takeNumber_9 : decode cX7_takeNumber 9 = .ok (.iconst 1, 1) := by decide +kernel
theorem dX7_takeNumber_10 : decode cX7_takeNumber 10 = .ok (.invokevirtual 92, 3) := by decide +kernel
theorem dX7_takeNumber_13 : decode cX7_takeNumber 13 = .ok (.goto 24, 3) := by decide +kernel
theorem dX7_takeNumber_16 : decode cX7_takeNumber 16 = .ok (.aload_n 0, 1) := by decide +kernel
theorem dX7_takeNumber_17 : decode cX7_takeNumber 17 = .ok (.getfield 167, 3) := by decide +kernel
theorem dX7_takeNumber_20 : decode cX7_takeNumber 20 = .ok (.iload_n 1, 1) := by decide +kernel
theorem dX7_takeNumber_21 : decode cX7_takeNumber 21 = .ok (.if_icmp .lt 11, 3) := by decide +kernel
theorem dX7_takeNumber_24 : decode cX7_takeNumber 24 = .ok (.aload_n 0, 1) := by decide +kernel
theorem dX7_takeNumber_25 : decode cX7_takeNumber 25 = .ok (.getfield 167, 3) := by decide +kernel
theorem dX7_takeNumber_28 : decode cX7_takeNumber 28 = .ok (.iload_n 2, 1) := by decide +kernel
theorem dX7_takeNumber_29 : decode cX7_takeNumber 29 = .ok (.if_icmp .le 8, 3) := by decide +kernel
theorem dX7_takeNumber_32 : decode cX7_takeNumber 32 = .ok (.aload_n 0, 1) := by decide +kernel
theorem dX7_takeNumber_33 : decode cX7_takeNumber 33 = .ok (.iconst 2, 1) := by decide +kernel
theorem dX7_takeNumber_34 : decode cX7_takeNumber 34 = .ok (.invokevirtual 92, 3) := by decide +kernel
theorem dX7_takeNumber_37 : decode cX7_takeNumber 37 = .ok (.aload_n 0, 1) := by decide +kernel
theorem dX7_takeNumber_38 : decode cX7_takeNumber 38 = .ok (.getfield 29, 3) := by decide +kernel
theorem dX7_takeNumber_41 : decode cX7_takeNumber 41 = .ok (.ifCond .eq 5, 3) := by decide +kernel
theorem dX7_takeNumber_44 : decode cX7_takeNumber 44 = .ok (.iload_n 1, 1) := by decide +kernel
theorem dX7_takeNumber_45 : decode cX7_takeNumber 45 = .ok (.ireturn, 1) := by decide +kernel
theorem dX7_takeNumber_46 : decode cX7_takeNumber 46 = .ok (.aload_n 0, 1) := by decide +kernel
theorem dX7_takeNumber_47 : decode cX7_takeNumber 47 = .ok (.getfield 167, 3) := by decide +kernel
theorem dX7_takeNumber_50 : decode cX7_takeNumber 50 = .ok (.istore_n 3, 1) := by decide +kernel
theorem dX7_takeNumber_51 : decode cX7_takeNumber 51 = .ok (.aload_n 0, 1) := by decide +kernel
theorem dX7_takeNumber_52 : decode cX7_takeNumber 52 = .ok (.invokevirtual 35, 3) := by decide +kernel
theorem dX7_takeNumber_55 : decode cX7_takeNumber 55 = .ok (.iload_n 3, 1) := by decide +kernel
theorem dX7_takeNumber_56 : decode cX7_takeNumber 56 = .ok (.ireturn, 1) := by decide +kernel
theorem dX7_takeRule_0 : decode cX7_takeRule 0 = .ok (.aload_n 0, 1) := by decide +kernel
theorem dX7_takeRule_1 : decode cX7_takeRule 1 = .ok (.getfield 12, 3) := by decide +kernel
theorem dX7_takeRule_4 : decode cX7_takeRule 4 = .ok (.getfield 134, 3) := by decide +kernel
theorem dX7_takeRule_7 : decode cX7_takeRule 7 = .ok (.iload_n 1, 1) := by decide +kernel
theorem dX7_takeRule_8 : decode cX7_takeRule 8 = .ok (.iaload, 1) := by decide +kernel
theorem dX7_takeRule_9 : decode cX7_takeRule 9 = .ok (.istore_n 2, 1) := by decide +kernel
theorem dX7_takeRule_10 : decode cX7_takeRule 10 = .ok (.aload_n 0, 1) := by decide +kernel
theorem dX7_takeRule_11 : decode cX7_takeRule 11 = .ok (.ldc 141, 2) := by decide +kernel
theorem dX7_takeRule_13 : decode cX7_takeRule 13 = .ok (.invokevirtual 62, 3) := by decide +kernel
theorem dX7_takeRule_16 : decode cX7_takeRule 16 = .ok (.ifCond .eq 23, 3) := by decide +kernel
theorem dX7_takeRule_19 : decode cX7_takeRule 19 = .ok (.aload_n 0, 1) := by decide +kernel
theorem dX7_takeRule_20 : decode cX7_takeRule 20 = .ok (.invokevirtual 35, 3) := by decide +kernel
theorem dX7_takeRule_23 : decode cX7_takeRule 23 = .ok (.aload_n 0, 1) := by decide +kernel
theorem dX7_takeRule_24 : decode cX7_takeRule 24 = .ok (.iload_n 1, 1) := by decide +kernel
theorem dX7_takeRule_25 : decode cX7_takeRule 25 = .ok (.iload_n 2, 1) := by decide +kernel
theorem dX7_takeRule_26 : decode cX7_takeRule 26 = .ok (.aload_n 0, 1) := by decide +kernel
theorem dX7_takeRule_27 : decode cX7_takeRule 27 = .ok (.iconst 1, 1) := by decide +kernel
theorem dX7_takeRule_28 : decode cX7_takeRule 28 = .ok (.bipush 9, 2) := by decide +kernel
theorem dX7_takeRule_30 : decode cX7_takeRule 30 = .ok (.invokevirtual 99, 3) := by decide +kernel
theorem dX7_takeRule_33 : decode cX7_takeRule 33 = .ok (.invokevirtual 137, 3) := by decide +kernel
theorem dX7_takeRule_36 : decode cX7_takeRule 36 = .ok (.goto 195, 3) := by decide +kernel
theorem dX7_takeRule_39 : decode cX7_takeRule 39 = .ok (.aload_n 0, 1) := by decide +kernel
theorem dX7_takeRule_40 : decode cX7_takeRule 40 = .ok (.ldc 143, 2) := by decide +kernel
theorem dX7_takeRule_42 : decode cX7_takeRule 42 = .ok (.invokevirtual 62, 3) := by decide +kernel
theorem dX7_takeRule_45 : decode cX7_takeRule 45 = .ok (.ifCond .eq 66, 3) := by decide +kernel
theorem dX7_takeRule_48 : decode cX7_takeRule 48 = .ok (.aload_n 0, 1) := by decide +kernel
theorem dX7_takeRule_49 : decode cX7_takeRule 49 = .ok (.invokevirtual 35, 3) := by decide +kernel
theorem dX7_takeRule_52 : decode cX7_takeRule 52 = .ok (.aload_n 0, 1) := by decide +kernel
theorem dX7_takeRule_53 : decode cX7_takeRule 53 = .ok (.iconst 0, 1) := by decide +kernel
theorem dX7_takeRule_54 : decode cX7_takeRule 54 = .ok (.aload_n 0, 1) := by decide +kernel
theorem dX7_takeRule_55 : decode cX7_takeRule 55 = .ok (.getfield 12, 3) := by decide +kernel
theorem dX7_takeRule_58 : decode cX7_takeRule 58 = .ok (.getfield 110, 3) := by decide +kernel
theorem dX7_takeRule_61 : decode cX7_takeRule 61 = .ok (.invokevirtual 99, 3) := by decide +kernel
theorem dX7_takeRule_64 : decode cX7_takeRule 64 = .ok (.istore_n 3, 1) := by decide +kernel
theorem dX7_takeRule_65 : decode cX7_takeRule 65 = .ok (.aload_n 0, 1) := by decide +kernel
theorem dX7_takeRule_66 : decode cX7_takeRule 66 = .ok (.iload_n 3, 1) := by decide +kernel
theorem dX7_takeRule_67 : decode cX7_takeRule 67 = .ok (.invokevirtual 145, 3) := by decide +kernel
theorem dX7_takeRule_70 : decode cX7_takeRule 70 = .ok (.aload_n 0, 1) := by decide +kernel
theorem dX7_takeRule_71 : decode cX7_takeRule 71 = .ok (.iconst 0, 1) := by decide +kernel
theorem dX7_takeRule_72 : decode cX7_takeRule 72 = .ok (.aload_n 0, 1) := by decide +kernel
theorem dX7_takeRule_73 : decode cX7_takeRule 73 = .ok (.getfield 12, 3) := by decide +kernel
theorem dX7_takeRule_76 : decode cX7_takeRule 76 = .ok (.getfield 110, 3) := by decide +kernel
theorem dX7_takeRule_79 : decode cX7_takeRule 79 = .ok (.invokevirtual 99, 3) := by decide +kernel
theorem dX7_takeRule_82 : decode cX7_takeRule 82 = .ok (.istore 4, 2) := by decide +kernel
theorem dX7_takeRule_84 : decode cX7_takeRule 84 = .ok (.aload_n 0, 1) := by decide +kernel
theorem dX7_takeRule_85 : decode cX7_takeRule 85 = .ok (.getfield 12, 3) := by decide +kernel
theorem dX7_takeRule_88 : decode cX7_takeRule 88 = .ok (.iload_n 1, 1) := by decide +kernel
theorem dX7_takeRule_89 : decode cX7_takeRule 89 = .ok (.iload_n 2, 1) := by decide +kernel
theorem dX7_takeRule_90 : decode cX7_takeRule 90 = .ok (.iload_n 3, 1) := by decide +kernel
theorem dX7_takeRule_91 : decode cX7_takeRule 91 = .ok (.iload 4, 2) := by decide +kernel
theorem dX7_takeRule_93 : decode cX7_takeRule 93 = .ok (.invokevirtual 148, 3) := by decide +kernel
theorem dX7_takeRule_96 : decode cX7_takeRule 96 = .ok (.aload_n 0, 1) := by decide +kernel
theorem dX7_takeRule_97 : decode cX7_takeRule 97 = .ok (.getfield 12, 3) := by decide +kernel
theorem dX7_takeRule_100 : decode cX7_takeRule 100 = .ok (.iload_n 1, 1) := by decide +kernel
theorem dX7_takeRule_101 : decode cX7_takeRule 101 = .ok (.iload_n 2, 1) := by decide +kernel
theorem dX7_takeRule_102 : decode cX7_takeRule 102 = .ok (.iload 4, 2) := by decide +kernel
theorem dX7_takeRule_104 : decode cX7_takeRule 104 = .ok (.iload_n 3, 1) := by decide +kernel
theorem dX7_takeRule_105 : decode cX7_takeRule 105 = .ok (.invokevirtual 148, 3) := by decide +kernel
theorem dX7_takeRule_108 : decode cX7_takeRule 108 = .ok (.goto 123, 3) := by decide +kernel
theorem dX7_takeRule_111 : decode cX7_takeRule 111 = .ok (.aload_n 0, 1) := by decide +kernel
theorem dX7_takeRule_112 : decode cX7_takeRule 112 = .ok (.ldc 152, 2) := by decide +kernel
theorem dX7_takeRule_114 : decode cX7_takeRule 114 = .ok (.invokevirtual 62, 3) := by decide +kernel
theorem dX7_takeRule_117 : decode cX7_takeRule 117 = .ok (.ifCond .eq 104, 3) := by decide +kernel
theorem dX7_takeRule_120 : decode cX7_takeRule 120 = .ok (.aload_n 0, 1) := by decide +kernel
theorem dX7_takeRule_121 : decode cX7_takeRule 121 = .ok (.invokevirtual 35, 3) := by decide +kernel
theorem dX7_takeRule_124 : decode cX7_takeRule 124 = .ok (.aload_n 0, 1) := by decide +kernel
theorem dX7_takeRule_125 : decode cX7_takeRule 125 = .ok (.iconst 0, 1) := by decide +kernel
theorem dX7_takeRule_126 : decode cX7_takeRule 126 = .ok (.aload_n 0, 1) := by decide +kernel
theorem dX7_takeRule_127 : decode cX7_takeRule 127 = .ok (.getfield 12, 3) := by decide +kernel
theorem dX7_takeRule_130 : decode cX7_takeRule 130 = .ok (.getfield 110, 3) := by decide +kernel
theorem dX7_takeRule_133 : decode cX7_takeRule 133 = .ok (.invokevirtual 99, 3) := by decide +kernel
theorem dX7_takeRule_136 : decode cX7_takeRule 136 = .ok (.istore_n 3, 1) := by decide +kernel
theorem dX7_takeRule_137 : decode cX7_takeRule 137 = .ok (.aload_n 0, 1) := by decide +kernel
theorem dX7_takeRule_138 : decode cX7_takeRule 138 = .ok (.iload_n 3, 1) := by decide +kernel
theorem dX7_takeRule_139 : decode cX7_takeRule 139 = .ok (.invokevirtual 145, 3) := by decide +kernel
theorem dX7_takeRule_142 : decode cX7_takeRule 142 = .ok (.aload_n 0, 1) := by decide +kernel
theorem dX7_takeRule_143 : decode cX7_takeRule 143 = .ok (.iconst 0, 1) := by decide +kernel
theorem dX7_takeRule_144 : decode cX7_takeRule 144 = .ok (.aload_n 0, 1) := by decide +kernel
theorem dX7_takeRule_145 : decode cX7_takeRule 145 = .ok (.getfield 12, 3) := by decide +kernel
theorem dX7_takeRule_148 : decode cX7_takeRule 148 = .ok (.getfield 110, 3) := by decide +kernel
theorem dX7_takeRule_151 : decode cX7_takeRule 151 = .ok (.invokevirtual 99, 3) := by decide +kernel
theorem dX7_takeRule_154 : decode cX7_takeRule 154 = .ok (.istore 4, 2) := by decide +kernel
theorem dX7_takeRule_156 : decode cX7_takeRule 156 = .ok (.aload_n 0, 1) := by decide +kernel
theorem dX7_takeRule_157 : decode cX7_takeRule 157 = .ok (.iload_n 3, 1) := by decide +kernel
theorem dX7_takeRule_158 : decode cX7_takeRule 158 = .ok (.invokevirtual 145, 3) := by decide +kernel
theorem dX7_takeRule_161 : decode cX7_takeRule 161 = .ok (.aload_n 0, 1) := by decide +kernel
theorem dX7_takeRule_162 : decode cX7_takeRule 162 = .ok (.iload 4, 2) := by decide +kernel
theorem dX7_takeRule_164 : decode cX7_takeRule 164 = .ok (.invokevirtual 145, 3) := by decide +kernel
theorem dX7_takeRule_167 : decode cX7_takeRule 167 = .ok (.aload_n 0, 1) := by decide +kernel
theorem dX7_takeRule_168 : decode cX7_takeRule 168 = .ok (.iconst 0, 1) := by decide +kernel
theorem dX7_takeRule_169 : decode cX7_takeRule 169 = .ok (.aload_n 0, 1) := by decide +kernel
theorem dX7_takeRule_170 : decode cX7_takeRule 170 = .ok (.getfield 12, 3) := by decide +kernel
theorem dX7_takeRule_173 : decode cX7_takeRule 173 = .ok (.getfield 110, 3) := by decide +kernel
theorem dX7_takeRule_176 : decode cX7_takeRule 176 = .ok (.invokevirtual 99, 3) := by decide +kernel
theorem dX7_takeRule_179 : decode cX7_takeRule 179 = .ok (.istore 5, 2) := by decide +kernel
theorem dX7_takeRule_181 : decode cX7_takeRule 181 = .ok (.aload_n 0, 1) := by decide +kernel
theorem dX7_takeRule_182 : decode cX7_takeRule 182 = .ok (.getfield 12, 3) := by decide +kernel
theorem dX7_takeRule_185 : decode cX7_takeRule 185 = .ok (.iload_n 1, 1) := by decide +kernel
theorem dX7_takeRule_186 : decode cX7_takeRule 186 = .ok (.iload_n 2, 1) := by decide +kernel
theorem dX7_takeRule_187 : decode cX7_takeRule 187 = .ok (.iload_n 3, 1) := by decide +kernel
theorem dX7_takeRule_188 : decode cX7_takeRule 188 = .ok (.iload 4, 2) := by decide +kernel
theorem dX7_takeRule_190 : decode cX7_takeRule 190 = .ok (.invokevirtual 148, 3) := by decide +kernel
theorem dX7_takeRule_193 : decode cX7_takeRule 193 = .ok (.aload_n 0, 1) := by decide +kernel
theorem dX7_takeRule_194 : decode cX7_takeRule 194 = .ok (.getfield 12, 3) := by decide +kernel
theorem dX7_takeRule_197 : decode cX7_takeRule 197 = .ok (.iload_n 1, 1) := by decide +kernel
theorem dX7_takeRule_198 : decode cX7_takeRule 198 = .ok (.iload_n 2, 1) := by decide +kernel
theorem dX7_takeRule_199 : decode cX7_takeRule 199 = .ok (.iload 4, 2) := by decide +kernel
theorem dX7_takeRule_201 : decode cX7_takeRule 201 = .ok (.iload 5, 2) := by decide +kernel
theorem dX7_takeRule_203 : decode cX7_takeRule 203 = .ok (.invokevirtual 148, 3) := by decide +kernel
theorem dX7_takeRule_206 : decode cX7_takeRule 206 = .ok (.aload_n 0, 1) := by decide +kernel
theorem dX7_takeRule_207 : decode cX7_takeRule 207 = .ok (.getfield 12, 3) := by decide +kernel
theorem dX7_takeRule_210 : decode cX7_takeRule 210 = .ok (.iload_n 1, 1) := by decide +kernel
theorem dX7_takeRule_211 : decode cX7_takeRule 211 = .ok (.iload_n 2, 1) := by decide +kernel
theorem dX7_takeRule_212 : decode cX7_takeRule 212 = .ok (.iload 5, 2) := by decide +kernel
theorem dX7_takeRule_214 : decode cX7_takeRule 214 = .ok (.iload_n 3, 1) := by decide +kernel
theorem dX7_takeRule_215 : decode cX7_takeRule 215 = .ok (.invokevirtual 148, 3) := by decide +kernel
theorem dX7_takeRule_218 : decode cX7_takeRule 218 = .ok (.goto 13, 3) := by decide +kernel
theorem dX7_takeRule_221 : decode cX7_takeRule 221 = .ok (.aload_n 0, 1) := by decide +kernel
theorem dX7_takeRule_222 : decode cX7_takeRule 222 = .ok (.aload_n 0, 1) := by decide +kernel
theorem dX7_takeRule_223 : decode cX7_takeRule 223 = .ok (.ldc 154, 2) := by decide +kernel
theorem dX7_takeRule_225 : decode cX7_takeRule 225 = .ok (.invokevirtual 62, 3) := by decide +kernel
theorem dX7_takeRule_228 : decode cX7_takeRule 228 = .ok (.invokevirtual 44, 3) := by decide +kernel
theorem dX7_takeRule_231 : decode cX7_takeRule 231 = .ok (.aload_n 0, 1) := by decide +kernel
theorem dX7_takeRule_232 : decode cX7_takeRule 232 = .ok (.getfield 12, 3) := by decide +kernel
theorem dX7_takeRule_235 : decode cX7_takeRule 235 = .ok (.getfield 134, 3) := by decide +kernel
theorem dX7_takeRule_238 : decode cX7_takeRule 238 = .ok (.iload_n 1, 1) := by decide +kernel
theorem dX7_takeRule_239 : decode cX7_takeRule 239 = .ok (.dup2, 1) := by decide +kernel
theorem dX7_takeRule_240 : decode cX7_takeRule 240 = .ok (.iaload, 1) := by decide +kernel
theorem dX7_takeRule_241 : decode cX7_takeRule 241 = .ok (.iconst 1, 1) := by decide +kernel
theorem dX7_takeRule_242 : decode cX7_takeRule 242 = .ok (.iadd, 1) := by decide +kernel
theorem dX7_takeRule_243 : decode cX7_takeRule 243 = .ok (.iastore, 1) := by decide +kernel
theorem dX7_takeRule_244 : decode cX7_takeRule 244 = .ok (.return_, 1) := by decide +kernel
theorem dX7_takeTextLine_0 : decode cX7_takeTextLine 0 = .ok (.aload_n 0, 1) := by decide +kernel
theorem dX7_takeTextLine_1 : decode cX7_takeTextLine 1 = .ok (.getfield 12, 3) := by decide +kernel
theorem dX7_takeTextLine_4 : decode cX7_takeTextLine 4 = .ok (.getfield 107, 3) := by decide +kernel
theorem dX7_takeTextLine_7 : decode cX7_takeTextLine 7 = .ok (.bipush 6, 2) := by decide +kernel
theorem dX7_takeTextLine_9 : decode cX7_takeTextLine 9 = .ok (.if_icmp .lt 9, 3) := by decide +kernel
theorem dX7_takeTextLine_12 : decode cX7_takeTextLine 12 = .ok (.aload_n 0, 1) := by decide +kernel
theorem dX7_takeTextLine_13 : decode cX7_takeTextLine 13 = .ok (.iconst 3, 1) := by decide +kernel
theorem dX7_takeTextLine_14 : decode cX7_takeTextLine 14 = .ok (.invokevirtual 92, 3) := by decide +kernel
theorem dX7_takeTextLine_17 : decode cX7_takeTextLine 17 = .ok (.return_, 1) := by decide +kernel
theorem dX7_takeTextLine_18 : decode cX7_takeTextLine 18 = .ok (.aload_n 0, 1) := by decide +kernel
theorem dX7_takeTextLine_19 : decode cX7_takeTextLine 19 = .ok (.invokevirtual 35, 3) := by decide +kernel
theorem dX7_takeTextLine_22 : decode cX7_takeTextLine 22 = .ok (.aload_n 0, 1) := by decide +kernel
theorem dX7_takeTextLine_23 : decode cX7_takeTextLine 23 = .ok (.getfield 12, 3) := by decide +kernel
theorem dX7_takeTextLine_26 : decode cX7_takeTextLine 26 = .ok (.getfield 107, 3) := by decide +kernel
theorem dX7_takeTextLine_29 : decode cX7_takeTextLine 29 = .ok (.istore_n 1, 1) := by decide +kernel
theorem dX7_takeTextLine_30 : decode cX7_takeTextLine 30 = .ok (.aload_n 0, 1) := by decide +kernel
theorem dX7_takeTextLine_31 : decode cX7_takeTextLine 31 = .ok (.getfield 12, 3) := by decide +kernel
theorem dX7_takeTextLine_34 : decode cX7_takeTextLine 34 = .ok (.dup, 1) := by decide +kernel
theorem dX7_takeTextLine_35 : decode cX7_takeTextLine 35 = .ok (.getfield 107, 3) := by decide +kernel
theorem dX7_takeTextLine_38 : decode cX7_takeTextLine 38 = .ok (.iconst 1, 1) := by decide +kernel
theorem dX7_takeTextLine_39 : decode cX7_takeTextLine 39 = .ok (.iadd, 1) := by decide +kernel
theorem dX7_takeTextLine_40 : decode cX7_takeTextLine 40 = .ok (.putfield 107, 3) := by decide +kernel
theorem dX7_takeTextLine_43 : decode cX7_takeTextLine 43 = .ok (.aload_n 0, 1) := by decide +kernel
theorem dX7_takeTextLine_44 : decode cX7_takeTextLine 44 = .ok (.getfield 12, 3) := by decide +kernel
theorem dX7_takeTextLine_47 : decode cX7_takeTextLine 47 = .ok (.iload_n 1, 1) := by decide +kernel
theorem dX7_takeTextLine_48 : decode cX7_takeTextLine 48 = .ok (.iconst 0, 1) := by decide +kernel
theorem dX7_takeTextLine_49 : decode cX7_takeTextLine 49 = .ok (.aload_n 0, 1) := by decide +kernel
theorem dX7_takeTextLine_50 : decode cX7_takeTextLine 50 = .ok (.iconst 0, 1) := by decide +kernel
theorem dX7_takeTextLine_51 : decode cX7_takeTextLine 51 = .ok (.aload_n 0, 1) := by decide +kernel
theorem dX7_takeTextLine_52 : decode cX7_takeTextLine 52 = .ok (.getfield 12, 3) := by decide +kernel
theorem dX7_takeTextLine_55 : decode cX7_takeTextLine 55 = .ok (.getfield 110, 3) := by decide +kernel
theorem dX7_takeTextLine_58 : decode cX7_takeTextLine 58 = .ok (.invokevirtual 99, 3) := by decide +kernel
theorem dX7_takeTextLine_61 : decode cX7_takeTextLine 61 = .ok (.invokevirtual 164, 3) := by decide +kernel
theorem dX7_takeTextLine_64 : decode cX7_takeTextLine 64 = .ok (.iconst 1, 1) := by decide +kernel
theorem dX7_takeTextLine_65 : decode cX7_takeTextLine 65 = .ok (.istore_n 2, 1) := by decide +kernel
theorem dX7_takeTextLine_66 : decode cX7_takeTextLine 66 = .ok (.iload_n 2, 1) := by decide +kernel
theorem dX7_takeTextLine_67 : decode cX7_takeTextLine 67 = .ok (.bipush 8, 2) := by decide +kernel
theorem dX7_takeTextLine_69 : decode cX7_takeTextLine 69 = .ok (.if_icmp .ge 45, 3) := by decide +kernel
theorem dX7_takeTextLine_72 : decode cX7_takeTextLine 72 = .ok (.aload_n 0, 1) := by decide +kernel
theorem dX7_takeTextLine_73 : decode cX7_takeTextLine 73 = .ok (.getfield 29, 3) := by decide +kernel
theorem dX7_takeTextLine_76 : decode cX7_takeTextLine 76 = .ok (.ifCond .ne 38, 3) := by decide +kernel
theorem dX7_takeTextLine_79 : decode cX7_takeTextLine 79 = .ok (.aload_n 0, 1) := by decide +kernel
theorem dX7_takeTextLine_80 : decode cX7_takeTextLine 80 = .ok (.getfield 38, 3) := by decide +kernel
theorem dX7_takeTextLine_83 : decode cX7_takeTextLine 83 = .ok (.iconst 3, 1) := by decide +kernel
theorem dX7_takeTextLine_84 : decode cX7_takeTextLine 84 = .ok (.if_icmp .ne 30, 3) := by decide +kernel
theorem dX7_takeTextLine_87 : decode cX7_takeTextLine 87 = .ok (.aload_n 0, 1) := by decide +kernel
theorem dX7_takeTextLine_88 : decode cX7_takeTextLine 88 = .ok (.getfield 12, 3) := by decide +kernel
theorem dX7_takeTextLine_91 : decode cX7_takeTextLine 91 = .ok (.iload_n 1, 1) := by decide +kernel
theorem dX7_takeTextLine_92 : decode cX7_takeTextLine 92 = .ok (.iload_n 2, 1) := by decide +kernel
theorem dX7_takeTextLine_93 : decode cX7_takeTextLine 93 = .ok (.aload_n 0, 1) := by decide +kernel
theorem dX7_takeTextLine_94 : decode cX7_takeTextLine 94 = .ok (.iconst 0, 1) := by decide +kernel
theorem dX7_takeTextLine_95 : decode cX7_takeTextLine 95 = .ok (.aload_n 0, 1) := by decide +kernel
theorem dX7_takeTextLine_96 : decode cX7_takeTextLine 96 = .ok (.getfield 12, 3) := by decide +kernel
theorem dX7_takeTextLine_99 : decode cX7_takeTextLine 99 = .ok (.getfield 110, 3) := by decide +kernel
theorem dX7_takeTextLine_102 : decode cX7_takeTextLine 102 = .ok (.invokevirtual 99, 3) := by decide +kernel
theorem dX7_takeTextLine_105 : decode cX7_takeTextLine 105 = .ok (.invokevirtual 164, 3) := by decide +kernel
theorem dX7_takeTextLine_108 : decode cX7_takeTextLine 108 = .ok (.iinc 2 1, 3) := by decide +kernel
theorem dX7_takeTextLine_111 : decode cX7_takeTextLine 111 = .ok (.goto (-45), 3) := by decide +kernel
theorem dX7_takeTextLine_114 : decode cX7_takeTextLine 114 = .ok (.aload_n 0, 1) := by decide +kernel
theorem dX7_takeTextLine_115 : decode cX7_takeTextLine 115 = .ok (.getfield 29, 3) := by decide +kernel
theorem dX7_takeTextLine_118 : decode cX7_takeTextLine 118 = .ok (.ifCond .ne 34, 3) := by decide +kernel
theorem dX7_takeTextLine_121 : decode cX7_takeTextLine 121 = .ok (.aload_n 0, 1) := by decide +kernel
theorem dX7_takeTextLine_122 : decode cX7_takeTextLine 122 = .ok (.getfield 38, 3) := by decide +kernel
theorem dX7_takeTextLine_125 : decode cX7_takeTextLine 125 = .ok (.iconst 3, 1) := by decide +kernel
theorem dX7_takeTextLine_126 : decode cX7_takeTextLine 126 = .ok (.if_icmp .ne 26, 3) := by decide +kernel
theorem dX7_takeTextLine_129 : decode cX7_takeTextLine 129 = .ok (.aload_n 0, 1) := by decide +kernel
theorem dX7_takeTextLine_130 : decode cX7_takeTextLine 130 = .ok (.aload_n 0, 1) := by decide +kernel
theorem dX7_takeTextLine_131 : decode cX7_takeTextLine 131 = .ok (.getfield 167, 3) := by decide +kernel
theorem dX7_takeTextLine_134 : decode cX7_takeTextLine 134 = .ok (.aload_n 0, 1) := by decide +kernel
theorem dX7_takeTextLine_135 : decode cX7_takeTextLine 135 = .ok (.getfield 12, 3) := by decide +kernel
theorem dX7_takeTextLine_138 : decode cX7_takeTextLine 138 = .ok (.getfield 110, 3) := by decide +kernel
theorem dX7_takeTextLine_141 : decode cX7_takeTextLine 141 = .ok (.if_icmp .gt 7, 3) := by decide +kernel
theorem dX7_takeTextLine_144 : decode cX7_takeTextLine 144 = .ok (.iconst 3, 1) := by decide +kernel
theorem dX7_takeTextLine_145 : decode cX7_takeTextLine 145 = .ok (.goto 4, 3) := by decide +kernel
theorem dX7_takeTextLine_148 : decode cX7_takeTextLine 148 = .ok (.iconst 2, 1) := by decide +kernel
theorem dX7_takeTextLine_149 : decode cX7_takeTextLine 149 = .ok (.invokevirtual 92, 3) := by decide +kernel
theorem dX7_takeTextLine_152 : decode cX7_takeTextLine 152 = .ok (.return_, 1) := by decide +kernel
theorem mm_k255 : mm_rg 255 255 255 := ⟨by decide, by decide⟩
theorem mm_k7 : mm_rg 7 7 7 := ⟨by decide, by decide⟩
theorem mm_k9 : mm_rg 9 9 9 := ⟨by decide, by decide⟩
theorem hd_J0_charAt_5068e : yJ0_charAt_5068e.cls = RJ0 ∧ yJ0_charAt_5068e.cls ≠ "java/lang/invoke/MethodHandle" ∧ yJ0_charAt_5068e.cls ≠ "java/lang/invoke/VarHandle" ∧ (parseMethodDescriptor yJ0_charAt_5068e.desc).map (fun d => d.parameters.length) = some 1 := by decide +kernel
theorem hd_J0_coder_7d493 : yJ0_coder_7d493.cls = RJ0 ∧ yJ0_coder_7d493.cls ≠ "java/lang/invoke/MethodHandle" ∧ yJ0_coder_7d493.cls ≠ "java/lang/invoke/VarHandle" ∧ (parseMethodDescriptor yJ0_coder_7d493.desc).map (fun d => d.parameters.length) = some 0 := by decide +kernel
theorem hd_J0_isLatin1_aae02 : yJ0_isLatin1_aae02.cls = RJ0 ∧ yJ0_isLatin1_aae02.cls ≠ "java/lang/invoke/MethodHandle" ∧ yJ0_isLatin1_aae02.cls ≠ "java/lang/invoke/VarHandle" ∧ (parseMethodDescriptor yJ0_isLatin1_aae02.desc).map (fun d => d.parameters.length) = some 0 := by decide +kernel
theorem hd_J0_length_8abf5 : yJ0_length_8abf5.cls = RJ0 ∧ yJ0_length_8abf5.cls ≠ "java/lang/invoke/MethodHandle" ∧ yJ0_length_8abf5.cls ≠ "java/lang/invoke/VarHandle" ∧ (parseMethodDescriptor yJ0_length_8abf5.desc).map (fun d => d.parameters.length) = some 0 := by decide +kernel
theorem hd_X0_setTaken : yX0_setTaken.cls = RX0 ∧ yX0_setTaken.cls ≠ "java/lang/invoke/MethodHandle" ∧ yX0_setTaken.cls ≠ "java/lang/invoke/VarHandle" ∧ (parseMethodDescriptor yX0_setTaken.desc).map (fun d => d.parameters.length) = some 4 := by decide +kernel
theorem hd_X0_setWordAt : yX0_setWordAt.cls = RX0 ∧ yX0_setWordAt.cls ≠ "java/lang/invoke/MethodHandle" ∧ yX0_setWordAt.cls ≠ "java/lang/invoke/VarHandle" ∧ (parseMethodDescriptor yX0_setWordAt.desc).map (fun d => d.parameters.length) = some 3 := by decide +kernel
theorem hd_X0_wordCount : yX0_wordCount.cls = RX0 ∧ yX0_wordCount.cls ≠ "java/lang/invoke/MethodHandle" ∧ yX0_wordCount.cls ≠ "java/lang/invoke/VarHandle" ∧ (parseMethodDescriptor yX0_wordCount.desc).map (fun d => d.parameters.length) = some 0 := by decide +kernel
theorem hd_X7_blame : yX7_blame.cls = RX7 ∧ yX7_blame.cls ≠ "java/lang/invoke/MethodHandle" ∧ yX7_blame.cls ≠ "java/lang/invoke/VarHandle" ∧ (parseMethodDescriptor yX7_blame.desc).map (fun d => d.parameters.length) = some 1 := by decide +kernel
theorem hd_X7_isName : yX7_isName.cls = RX7 ∧ yX7_isName.cls ≠ "java/lang/invoke/MethodHandle" ∧ yX7_isName.cls ≠ "java/lang/invoke/VarHandle" ∧ (parseMethodDescriptor yX7_isName.desc).map (fun d => d.parameters.length) = some 1 := by decide +kernel
theorem hd_X7_nextToken : yX7_nextToken.cls = RX7 ∧ yX7_nextToken.cls ≠ "java/lang/invoke/MethodHandle" ∧ yX7_nextToken.cls ≠ "java/lang/invoke/VarHandle" ∧ (parseMethodDescriptor yX7_nextToken.desc).map (fun d => d.parameters.length) = some 0 := by decide +kernel
theorem hd_X7_refuse : yX7_refuse.cls = RX7 ∧ yX7_refuse.cls ≠ "java/lang/invoke/MethodHandle" ∧ yX7_refuse.cls ≠ "java/lang/invoke/VarHandle" ∧ (parseMethodDescriptor yX7_refuse.desc).map (fun d => d.parameters.length) = some 1 := by decide +kernel
theorem hd_X7_shiftAll : yX7_shiftAll.cls = RX7 ∧ yX7_shiftAll.cls ≠ "java/lang/invoke/MethodHandle" ∧ yX7_shiftAll.cls ≠ "java/lang/invoke/VarHandle" ∧ (parseMethodDescriptor yX7_shiftAll.desc).map (fun d => d.parameters.length) = some 3 := by decide +kernel
theorem hd_X7_takeIf : yX7_takeIf.cls = RX7 ∧ yX7_takeIf.cls ≠ "java/lang/invoke/MethodHandle" ∧ yX7_takeIf.cls ≠ "java/lang/invoke/VarHandle" ∧ (parseMethodDescriptor yX7_takeIf.desc).map (fun d => d.parameters.length) = some 1 := by decide +kernel
theorem hd_X7_takeNumber : yX7_takeNumber.cls = RX7 ∧ yX7_takeNumber.cls ≠ "java/lang/invoke/MethodHandle" ∧ yX7_takeNumber.cls ≠ "java/lang/invoke/VarHandle" ∧ (parseMethodDescriptor yX7_takeNumber.desc).map (fun d => d.parameters.length) = some 2 := by decide +kernel
theorem hs_J0_checkIndex_df160 : yJ0_checkIndex_df160.cls ≠ "java/lang/invoke/MethodHandle" ∧ yJ0_checkIndex_df160.cls ≠ "java/lang/invoke/VarHandle" ∧ (parseMethodDescriptor yJ0_checkIndex_df160.desc).map (fun d => d.parameters.length) = some 2 := by decide +kernel
theorem hs_J1_charAt_3b067 : yJ1_charAt_3b067.cls ≠ "java/lang/invoke/MethodHandle" ∧ yJ1_charAt_3b067.cls ≠ "java/lang/invoke/VarHandle" ∧ (parseMethodDescriptor yJ1_charAt_3b067.desc).map (fun d => d.parameters.length) = some 2 := by decide +kernel
theorem hs_J3_checkIndex_8e157 : yJ3_checkIndex_8e157.cls ≠ "java/lang/invoke/MethodHandle" ∧ yJ3_checkIndex_8e157.cls ≠ "java/lang/invoke/VarHandle" ∧ (parseMethodDescriptor yJ3_checkIndex_8e157.desc).map (fun d => d.parameters.length) = some 3 := by decide +kernel
set_option maxHeartbeats 4000000 in
set_option maxRecDepth 100000 in
theorem K10_J0_coder_7d493 (l : Launch) (G : va_G) (cy : Nat → ClassId) (sz : Nat)    : mm_CI l yJ0_coder_7d493 (mm_ws yJ0_coder_7d493 cJ0_coder_7d493 1 (some .byte)) ({ frames := 0, cells := 0, slots := 0, locals := 0 } : Room) G cy sz [] [.ref (cy 106)] (fun u : Unit => []) (fun (r : Int32) (u : Unit) => 0 = r) 0 0 := by
  refine mm_begin (lv := [(0, .ref (cy 106))]) (by decide) (Nat.le_of_ble_eq_true rfl) rfl ?_
  intro p e s m below meth c A ls R args Q H locs hRe hQ hAe hx hb hr hlocks hml hown hnm hts hsz hA hS hP hK hD hZ hl
  have hRf : R.frames = 0 := by rw [hRe]
  have hRl : R.locals = 0 := by rw [hRe]
  have hRc : R.cells = 0 := by rw [hRe]
  have hRs : R.slots = 0 := by rw [hRe]
  refine va_gets hx hb hZ.2.1 hS hown (mm_h hts mm_w268) (fun _ h9 => h9) dJ0_coder_7d493_0 ?_
  refine lv_if_eq (tgt := 13) hx hb dJ0_coder_7d493_3 (by decide) (fun c1 => ?_) (fun c1 => ?_)
  · exact mm_eqN c1.symm mm_k0 mm_k1 (by decide)
  · refine lv_aload_n hx hb dJ0_coder_7d493_6 rfl (lv_at hl 0 rfl) ?_
    refine vk_getf hx hb ((hZ.1.1 3 (by decide)).2.1) hS hown (mm_h hts mm_w269) (fun _ h9 => h9) dJ0_coder_7d493_7 ?_
    refine W.eq (g2 := F0 m 10 ls [.int 0]) rfl ?_
    refine lv_goto (tgt := 14) hx hb dJ0_coder_7d493_10 (by decide) ?_
    subst hAe
    rw [hQ]
    exact W.zret (v := 0) hx hb hr rfl (fun t ht hW => ⟨⟨0, (), rfl, rfl, by rw [ht]; exact hP, hK.warm hW, hD⟩, hS.F ht⟩) hS.2.2 dJ0_coder_7d493_14

set_option maxHeartbeats 4000000 in
set_option maxRecDepth 100000 in
theorem K11_J0_length_8abf5 (l : Launch) (G : va_G) (cy : Nat → ClassId) (sz : Nat)    : mm_CI l yJ0_length_8abf5 (mm_ws yJ0_length_8abf5 cJ0_length_8abf5 1 (some .int)) ({ frames := 1, cells := 0, slots := 0, locals := 20 } : Room) G cy sz [] [.ref (cy 106)] (fun u : Unit => []) (fun (r : Int32) (u : Unit) => 5 = r) 0 0 := by
  refine mm_begin (lv := [(0, .ref (cy 106))]) (by decide) (Nat.le_of_ble_eq_true rfl) rfl ?_
  intro p e s m below meth c A ls R args Q H locs hRe hQ hAe hx hb hr hlocks hml hown hnm hts hsz hA hS hP hK hD hZ hl
  have hRf : R.frames = 1 := by rw [hRe]
  have hRl : R.locals = 20 := by rw [hRe]
  have hRc : R.cells = 0 := by rw [hRe]
  have hRs : R.slots = 0 := by rw [hRe]
  refine lv_aload_n hx hb dJ0_length_8abf5_0 rfl (lv_at hl 0 rfl) ?_
  refine vk_getf hx hb ((hZ.1.1 3 (by decide)).2.2.1) hS hown (mm_h hts mm_w263) (fun _ h9 => h9) dJ0_length_8abf5_1 ?_
  refine W.eq (g2 := F0 m 4 ls [.ref (cy 107)]) rfl ?_
  refine va_tlen hx hb ((hZ.1.1 3 (by decide)).2.2.2) hS (v := 5) (by decide) dJ0_length_8abf5_4 ?_
  refine lv_aload_n hx hb dJ0_length_8abf5_5 rfl (lv_at hl 0 rfl) ?_
  refine mm_finir (va_runV (As := []) (rest := [.int 5]) ⟨hx, hb, hml, hown, hts⟩ (K10_J0_coder_7d493 l G cy H.size  ) (cwV 0 hts (mm_gV mm_w264 mm_w265 mm_w266 mm_w261 mm_w267) rfl rfl rfl hd_J0_coder_7d493 ⟨by rw [hRf]; exact Nat.le_of_ble_eq_true rfl, by rw [hRl]; exact Nat.le_of_ble_eq_true rfl⟩) (mm_preVS hK hZ hS hA hP hD [] rfl rfl 3 (by decide)) rfl rfl hl.1 rfl (lv_room (Nat.le_of_ble_eq_true rfl)) dJ0_length_8abf5_6 ⟨by rw [hRc]; exact Nat.le_of_ble_eq_true rfl, by rw [hRs]; exact Nat.le_of_ble_eq_true rfl⟩) hP hD hS hA [] rfl (fun _ => rfl) ?_
  clear hP hD hS
  clear H locs
  intro v1 _u H locs hw hP hD hS
  subst hw
  refine lv_ishr hx hb dJ0_length_8abf5_9 ?_
  refine lv_topi (fun v2 ev2 => ?_)
  obtain rfl : v2 = 5 := ev2.trans (by decide)
  subst hAe
  rw [hQ]
  exact W.iret (v := 5) hx hb hr (fun t ht hW => ⟨⟨5, (), rfl, rfl, by rw [ht]; exact hP, hK.warm hW, hD⟩, hS.F ht⟩) hS.2.2 dJ0_length_8abf5_10

set_option maxHeartbeats 4000000 in
set_option maxRecDepth 100000 in
theorem K12_J0_isLatin1_aae02 (l : Launch) (G : va_G) (cy : Nat → ClassId) (sz : Nat)    : mm_CI l yJ0_isLatin1_aae02 (mm_ws yJ0_isLatin1_aae02 cJ0_isLatin1_aae02 1 (some .boolean)) ({ frames := 0, cells := 0, slots := 0, locals := 0 } : Room) G cy sz [] [.ref (cy 106)] (fun u : Unit => []) (fun (r : Int32) (u : Unit) => 1 = r) 0 0 := by
  refine mm_begin (lv := [(0, .ref (cy 106))]) (by decide) (Nat.le_of_ble_eq_true rfl) rfl ?_
  intro p e s m below meth c A ls R args Q H locs hRe hQ hAe hx hb hr hlocks hml hown hnm hts hsz hA hS hP hK hD hZ hl
  have hRf : R.frames = 0 := by rw [hRe]
  have hRl : R.locals = 0 := by rw [hRe]
  have hRc : R.cells = 0 := by rw [hRe]
  have hRs : R.slots = 0 := by rw [hRe]
  refine va_gets hx hb hZ.2.1 hS hown (mm_h hts mm_w268) (fun _ h9 => h9) dJ0_isLatin1_aae02_0 ?_
  refine lv_if_eq (tgt := 17) hx hb dJ0_isLatin1_aae02_3 (by decide) (fun c1 => ?_) (fun c1 => ?_)
  · exact mm_eqN c1.symm mm_k0 mm_k1 (by decide)
  · refine lv_aload_n hx hb dJ0_isLatin1_aae02_6 rfl (lv_at hl 0 rfl) ?_
    refine vk_getf hx hb ((hZ.1.1 3 (by decide)).2.1) hS hown (mm_h hts mm_w269) (fun _ h9 => h9) dJ0_isLatin1_aae02_7 ?_
    refine W.eq (g2 := F0 m 10 ls [.int 0]) rfl ?_
    refine lv_if_ne (tgt := 17) hx hb dJ0_isLatin1_aae02_10 (by decide) (fun c2 => ?_) (fun c2 => ?_)
    · have q3 := mm_neL (lo := 1) (mm_ne c2) mm_k0 mm_k0 (by decide) (by decide)
      exact mm_no q3 (by decide)
    · refine lv_iconst (v := 1) hx hb dJ0_isLatin1_aae02_13 (by decide) ?_
      refine lv_goto (tgt := 18) hx hb dJ0_isLatin1_aae02_14 (by decide) ?_
      subst hAe
      rw [hQ]
      exact W.zret (v := 1) hx hb hr rfl (fun t ht hW => ⟨⟨1, (), rfl, rfl, by rw [ht]; exact hP, hK.warm hW, hD⟩, hS.F ht⟩) hS.2.2 dJ0_isLatin1_aae02_18

set_option maxHeartbeats 4000000 in
set_option maxRecDepth 100000 in
theorem K38_J3_checkIndex_8e157 (l : Launch) (G : va_G) (cy : Nat → ClassId) (sz : Nat) (i_0 : Int32) (h0 : mm_rg i_0 0 4)  : mm_CI l yJ3_checkIndex_8e157 (mm_ws yJ3_checkIndex_8e157 cJ3_checkIndex_8e157 3 (some .int)) ({ frames := 0, cells := 0, slots := 0, locals := 0 } : Room) G cy sz [] [.int i_0, .int 5, .null] (fun u : Unit => []) (fun (r : Int32) (u : Unit) => mm_rg r 0 4) 0 0 := by
  refine mm_begin (lv := [(0, .int i_0), (1, .int 5), (2, .null)]) (by decide) (Nat.le_of_ble_eq_true rfl) rfl ?_
  intro p e s m below meth c A ls R args Q H locs hRe hQ hAe hx hb hr hlocks hml hown hnm hts hsz hA hS hP hK hD hZ hl
  have hRf : R.frames = 0 := by rw [hRe]
  have hRl : R.locals = 0 := by rw [hRe]
  have hRc : R.cells = 0 := by rw [hRe]
  have hRs : R.slots = 0 := by rw [hRe]
  refine lv_iload_n hx hb dJ3_checkIndex_8e157_0 rfl (lv_at hl 0 rfl) ?_
  refine lv_if_lt (tgt := 9) hx hb dJ3_checkIndex_8e157_1 (by decide) (fun c1 => ?_) (fun c1 => ?_)
  · have q2 := mm_ltL (h := (-1)) (mm_lt c1) h0 mm_k0 (by decide)
    exact mm_no q2 (by decide)
  · refine lv_iload_n hx hb dJ3_checkIndex_8e157_4 rfl (lv_at hl 0 rfl) ?_
    refine lv_iload_n hx hb dJ3_checkIndex_8e157_5 rfl (lv_at hl 1 rfl) ?_
    refine lv_icmp_lt (tgt := 16) hx hb dJ3_checkIndex_8e157_6 (by decide) (fun c3 => ?_) (fun c3 => ?_)
    · refine lv_iload_n hx hb dJ3_checkIndex_8e157_16 rfl (lv_at hl 0 rfl) ?_
      subst hAe
      rw [hQ]
      exact W.iret (v := i_0) hx hb hr (fun t ht hW => ⟨⟨i_0, (), rfl, h0, by rw [ht]; exact hP, hK.warm hW, hD⟩, hS.F ht⟩) hS.2.2 dJ3_checkIndex_8e157_17
    · have q4 := mm_leL (mm_nlt c3) mm_k5 h0
      exact mm_no q4 (by decide)

set_option maxHeartbeats 4000000 in
set_option maxRecDepth 100000 in
theorem K39_J3_checkIndex_8e157 (l : Launch) (G : va_G) (cy : Nat → ClassId) (sz : Nat) (i_0 : Int32) (a_0 : Nat) (h0 : mm_rg i_0 0 4)  : mm_CI l yJ3_checkIndex_8e157 (mm_ws yJ3_checkIndex_8e157 cJ3_checkIndex_8e157 3 (some .int)) ({ frames := 0, cells := 0, slots := 0, locals := 0 } : Room) G cy sz [] [.int i_0, .int 5, .ref a_0] (fun u : Unit => []) (fun (r : Int32) (u : Unit) => mm_rg r 0 4) 0 0 := by
  refine mm_begin (lv := [(0, .int i_0), (1, .int 5), (2, .ref a_0)]) (by decide) (Nat.le_of_ble_eq_true rfl) rfl ?_
  intro p e s m below meth c A ls R args Q H locs hRe hQ hAe hx hb hr hlocks hml hown hnm hts hsz hA hS hP hK hD hZ hl
  have hRf : R.frames = 0 := by rw [hRe]
  have hRl : R.locals = 0 := by rw [hRe]
  have hRc : R.cells = 0 := by rw [hRe]
  have hRs : R.slots = 0 := by rw [hRe]
  refine lv_iload_n hx hb dJ3_checkIndex_8e157_0 rfl (lv_at hl 0 rfl) ?_
  refine lv_if_lt (tgt := 9) hx hb dJ3_checkIndex_8e157_1 (by decide) (fun c1 => ?_) (fun c1 => ?_)
  · have q2 := mm_ltL (h := (-1)) (mm_lt c1) h0 mm_k0 (by decide)
    exact mm_no q2 (by decide)
  · refine lv_iload_n hx hb dJ3_checkIndex_8e157_4 rfl (lv_at hl 0 rfl) ?_
    refine lv_iload_n hx hb dJ3_checkIndex_8e157_5 rfl (lv_at hl 1 rfl) ?_
    refine lv_icmp_lt (tgt := 16) hx hb dJ3_checkIndex_8e157_6 (by decide) (fun c3 => ?_) (fun c3 => ?_)
    · refine lv_iload_n hx hb dJ3_checkIndex_8e157_16 rfl (lv_at hl 0 rfl) ?_
      subst hAe
      rw [hQ]
      exact W.iret (v := i_0) hx hb hr (fun t ht hW => ⟨⟨i_0, (), rfl, h0, by rw [ht]; exact hP, hK.warm hW, hD⟩, hS.F ht⟩) hS.2.2 dJ3_checkIndex_8e157_17
    · have q4 := mm_leL (mm_nlt c3) mm_k5 h0
      exact mm_no q4 (by decide)

set_option maxHeartbeats 4000000 in
set_option maxRecDepth 100000 in
theorem K40_J0_checkIndex_df160 (l : Launch) (G : va_G) (cy : Nat → ClassId) (sz : Nat) (i_0 : Int32) (h0 : mm_rg i_0 0 4)  : mm_CV l yJ0_checkIndex_df160 (mm_ws yJ0_checkIndex_df160 cJ0_checkIndex_df160 2 (none)) ({ frames := 1, cells := 0, slots := 0, locals := 22 } : Room) G cy sz [] [.int i_0, .int 5] (fun u : Unit => []) (fun u : Unit => True) 0 0 := by
  refine mm_begin (lv := [(0, .int i_0), (1, .int 5)]) (by decide) (Nat.le_of_ble_eq_true rfl) rfl ?_
  intro p e s m below meth c A ls R args Q H locs hRe hQ hAe hx hb hr hlocks hml hown hnm hts hsz hA hS hP hK hD hZ hl
  have hRf : R.frames = 1 := by rw [hRe]
  have hRl : R.locals = 22 := by rw [hRe]
  have hRc : R.cells = 0 := by rw [hRe]
  have hRs : R.slots = 0 := by rw [hRe]
  refine lv_iload_n hx hb dJ0_checkIndex_df160_0 rfl (lv_at hl 0 rfl) ?_
  refine lv_iload_n hx hb dJ0_checkIndex_df160_1 rfl (lv_at hl 1 rfl) ?_
  rcases hZ.2.2 with hz1 | ⟨z1, hz1⟩
  · refine va_gets hx hb hz1 hS hown (mm_h hts mm_w285) (fun _ h9 => h9) dJ0_checkIndex_df160_2 ?_
    refine mm_finir (va_runS (As := [.int i_0, .int 5, .null]) (rest := []) ⟨hx, hb, hml, hown, hts⟩ (K38_J3_checkIndex_8e157 l G cy H.size i_0 h0) (va_cwS 3 hts (mm_gS mm_w286 mm_w287 mm_w288 mm_w289) rfl rfl rfl hs_J3_checkIndex_8e157 ⟨by rw [hRf]; exact Nat.le_of_ble_eq_true rfl, by rw [hRl]; exact Nat.le_of_ble_eq_true rfl⟩) (mm_preS hK hZ hS hA hP hD [] rfl rfl) rfl rfl hl.1 rfl (lv_room (Nat.le_of_ble_eq_true rfl)) dJ0_checkIndex_df160_5 ⟨by rw [hRc]; exact Nat.le_of_ble_eq_true rfl, by rw [hRs]; exact Nat.le_of_ble_eq_true rfl⟩) hP hD hS hA [] rfl (fun _ => rfl) ?_
    clear hP hD hS
    clear H locs
    intro v2 _u H locs hw hP hD hS
    have w3 := hw
    refine lv_pop hx hb dJ0_checkIndex_df160_8 rfl ?_
    subst hAe
    rw [hQ]
    exact W.vret hx hb hr (fun t ht hW => ⟨⟨(), rfl, trivial, by rw [ht]; exact hP, hK.warm hW, hD⟩, hS.F ht⟩) hS.2.2 dJ0_checkIndex_df160_9
  · refine va_gets hx hb hz1 hS hown (mm_h hts mm_w285) (fun _ h9 => h9) dJ0_checkIndex_df160_2 ?_
    refine mm_finir (va_runS (As := [.int i_0, .int 5, .ref z1]) (rest := []) ⟨hx, hb, hml, hown, hts⟩ (K39_J3_checkIndex_8e157 l G cy H.size i_0 z1 h0) (va_cwS 3 hts (mm_gS mm_w286 mm_w287 mm_w288 mm_w289) rfl rfl rfl hs_J3_checkIndex_8e157 ⟨by rw [hRf]; exact Nat.le_of_ble_eq_true rfl, by rw [hRl]; exact Nat.le_of_ble_eq_true rfl⟩) (mm_preS hK hZ hS hA hP hD [] rfl rfl) rfl rfl hl.1 rfl (lv_room (Nat.le_of_ble_eq_true rfl)) dJ0_checkIndex_df160_5 ⟨by rw [hRc]; exact Nat.le_of_ble_eq_true rfl, by rw [hRs]; exact Nat.le_of_ble_eq_true rfl⟩) hP hD hS hA [] rfl (fun _ => rfl) ?_
    clear hP hD hS
    clear H locs
    intro v4 _u H locs hw hP hD hS
    have w5 := hw
    refine lv_pop hx hb dJ0_checkIndex_df160_8 rfl ?_
    subst hAe
    rw [hQ]
    exact W.vret hx hb hr (fun t ht hW => ⟨⟨(), rfl, trivial, by rw [ht]; exact hP, hK.warm hW, hD⟩, hS.F ht⟩) hS.2.2 dJ0_checkIndex_df160_9

set_option maxHeartbeats 4000000 in
set_option maxRecDepth 100000 in
theorem K41_J1_charAt_3b067 (l : Launch) (G : va_G) (cy : Nat → ClassId) (sz : Nat) (i_0 : Int32) (h0 : mm_rg i_0 0 4)  : mm_CI l yJ1_charAt_3b067 (mm_ws yJ1_charAt_3b067 cJ1_charAt_3b067 2 (some .char)) ({ frames := 2, cells := 0, slots := 0, locals := 43 } : Room) G cy sz [] [.ref (cy 107), .int i_0] (fun u : Unit => []) (fun (r : Int32) (u : Unit) => mm_rg r 0 65535) 0 0 := by
  refine mm_begin (lv := [(0, .ref (cy 107)), (1, .int i_0)]) (by decide) (Nat.le_of_ble_eq_true rfl) rfl ?_
  intro p e s m below meth c A ls R args Q H locs hRe hQ hAe hx hb hr hlocks hml hown hnm hts hsz hA hS hP hK hD hZ hl
  have hRf : R.frames = 2 := by rw [hRe]
  have hRl : R.locals = 43 := by rw [hRe]
  have hRc : R.cells = 0 := by rw [hRe]
  have hRs : R.slots = 0 := by rw [hRe]
  refine lv_iload_n hx hb dJ1_charAt_3b067_0 rfl (lv_at hl 1 rfl) ?_
  refine lv_aload_n hx hb dJ1_charAt_3b067_1 rfl (lv_at hl 0 rfl) ?_
  refine va_tlen hx hb ((hZ.1.1 3 (by decide)).2.2.2) hS (v := 5) (by decide) dJ1_charAt_3b067_2 ?_
  refine mm_finvr (va_runS (As := [.int i_0, .int 5]) (rest := []) ⟨hx, hb, hml, hown, hts⟩ (K40_J0_checkIndex_df160 l G cy H.size i_0 h0) (va_cwS 2 hts (mm_gS mm_w282 mm_w283 mm_w261 mm_w284) rfl rfl rfl hs_J0_checkIndex_df160 ⟨by rw [hRf]; exact Nat.le_of_ble_eq_true rfl, by rw [hRl]; exact Nat.le_of_ble_eq_true rfl⟩) (mm_preS hK hZ hS hA hP hD [] rfl rfl) rfl rfl hl.1 rfl (lv_room (Nat.le_of_ble_eq_true rfl)) dJ1_charAt_3b067_3 ⟨by rw [hRc]; exact Nat.le_of_ble_eq_true rfl, by rw [hRs]; exact Nat.le_of_ble_eq_true rfl⟩) hP hD hS hA [] rfl (fun _ => rfl) ?_
  clear hP hD hS
  clear H locs
  intro _u H locs hw hP hD hS
  refine lv_aload_n hx hb dJ1_charAt_3b067_6 rfl (lv_at hl 0 rfl) ?_
  refine lv_iload_n hx hb dJ1_charAt_3b067_7 rfl (lv_at hl 1 rfl) ?_
  refine va_tb hx hb ((hZ.1.1 3 (by decide)).2.2.2) hS (mm_in h0 (by decide)) rfl dJ1_charAt_3b067_8 ?_
  refine lv_topi (fun v1 ev1 => ?_)
  refine lv_sipush (v := 255) hx hb dJ1_charAt_3b067_9 (by decide) ?_
  refine lv_iand hx hb dJ1_charAt_3b067_12 ?_
  refine lv_topi (fun v2 ev2 => ?_)
  have rv2 : mm_rg v2 0 255 := mm_andR ev2 mm_k255 (by decide)
  obtain ⟨v3, ev3⟩ : ∃ y : Int32, y = (v2.toUInt32 % 65536).toInt32 := ⟨_, rfl⟩
  refine lv_i2c hx hb dJ1_charAt_3b067_13 ev3.symm ?_
  have rv3 : mm_rg v3 0 65535 := mm_i2c ev3
  subst hAe
  rw [hQ]
  exact W.zret (v := v3) hx hb hr (mm_nch rv3) (fun t ht hW => ⟨⟨v3, (), rfl, rv3, by rw [ht]; exact hP, hK.warm hW, hD⟩, hS.F ht⟩) hS.2.2 dJ1_charAt_3b067_14

set_option maxHeartbeats 4000000 in
set_option maxRecDepth 100000 in
theorem K42_J0_charAt_5068e (l : Launch) (G : va_G) (cy : Nat → ClassId) (sz : Nat) (i_0 : Int32) (h0 : mm_rg i_0 0 4)  : mm_CI l yJ0_charAt_5068e (mm_ws yJ0_charAt_5068e cJ0_charAt_5068e 2 (some .char)) ({ frames := 3, cells := 0, slots := 0, locals := 64 } : Room) G cy sz [] [.ref (cy 106), .int i_0] (fun u : Unit => []) (fun (r : Int32) (u : Unit) => mm_rg r 0 65535) 0 0 := by
  refine mm_begin (lv := [(0, .ref (cy 106)), (1, .int i_0)]) (by decide) (Nat.le_of_ble_eq_true rfl) rfl ?_
  intro p e s m below meth c A ls R args Q H locs hRe hQ hAe hx hb hr hlocks hml hown hnm hts hsz hA hS hP hK hD hZ hl
  have hRf : R.frames = 3 := by rw [hRe]
  have hRl : R.locals = 64 := by rw [hRe]
  have hRc : R.cells = 0 := by rw [hRe]
  have hRs : R.slots = 0 := by rw [hRe]
  refine lv_aload_n hx hb dJ0_charAt_5068e_0 rfl (lv_at hl 0 rfl) ?_
  refine mm_finir (va_runV (As := []) (rest := []) ⟨hx, hb, hml, hown, hts⟩ (K12_J0_isLatin1_aae02 l G cy H.size  ) (cwV 0 hts (mm_gV mm_w274 mm_w275 mm_w276 mm_w261 mm_w277) rfl rfl rfl hd_J0_isLatin1_aae02 ⟨by rw [hRf]; exact Nat.le_of_ble_eq_true rfl, by rw [hRl]; exact Nat.le_of_ble_eq_true rfl⟩) (mm_preVS hK hZ hS hA hP hD [] rfl rfl 3 (by decide)) rfl rfl hl.1 rfl (lv_room (Nat.le_of_ble_eq_true rfl)) dJ0_charAt_5068e_1 ⟨by rw [hRc]; exact Nat.le_of_ble_eq_true rfl, by rw [hRs]; exact Nat.le_of_ble_eq_true rfl⟩) hP hD hS hA [] rfl (fun _ => rfl) ?_
  clear hP hD hS
  clear H locs
  intro v1 _u H locs hw hP hD hS
  subst hw
  refine lv_if_eq (tgt := 16) hx hb dJ0_charAt_5068e_4 (by decide) (fun c2 => ?_) (fun c2 => ?_)
  · exact mm_eqN c2.symm mm_k0 mm_k1 (by decide)
  · refine lv_aload_n hx hb dJ0_charAt_5068e_7 rfl (lv_at hl 0 rfl) ?_
    refine vk_getf hx hb ((hZ.1.1 3 (by decide)).2.2.1) hS hown (mm_h hts mm_w263) (fun _ h9 => h9) dJ0_charAt_5068e_8 ?_
    refine W.eq (g2 := F0 m 11 ls [.ref (cy 107)]) rfl ?_
    refine lv_iload_n hx hb dJ0_charAt_5068e_11 rfl (lv_at hl 1 rfl) ?_
    refine mm_finir (va_runS (As := [.ref (cy 107), .int i_0]) (rest := []) ⟨hx, hb, hml, hown, hts⟩ (K41_J1_charAt_3b067 l G cy H.size i_0 h0) (va_cwS 2 hts (mm_gS mm_w278 mm_w279 mm_w280 mm_w281) rfl rfl rfl hs_J1_charAt_3b067 ⟨by rw [hRf]; exact Nat.le_of_ble_eq_true rfl, by rw [hRl]; exact Nat.le_of_ble_eq_true rfl⟩) (mm_preS hK hZ hS hA hP hD [] rfl rfl) rfl rfl hl.1 rfl (lv_room (Nat.le_of_ble_eq_true rfl)) dJ0_charAt_5068e_12 ⟨by rw [hRc]; exact Nat.le_of_ble_eq_true rfl, by rw [hRs]; exact Nat.le_of_ble_eq_true rfl⟩) hP hD hS hA [] rfl (fun _ => rfl) ?_
    clear hP hD hS
    clear H locs
    intro v3 _u H locs hw hP hD hS
    have w4 := hw
    subst hAe
    rw [hQ]
    exact W.zret (v := v3) hx hb hr (mm_nch w4) (fun t ht hW => ⟨⟨v3, (), rfl, w4, by rw [ht]; exact hP, hK.warm hW, hD⟩, hS.F ht⟩) hS.2.2 dJ0_charAt_5068e_15

set_option maxHeartbeats 4000000 in
set_option maxRecDepth 100000 in
theorem K43_X7_isName (l : Launch) (G : va_G) (cy : Nat → ClassId) (sz : Nat) (a_0 : Nat) (a_1 : Nat) (a_2 : Nat) (i_0 : Int32) (f_0 : Nat → Int32) (a_3 : Nat) (i_1 : Int32) (i_2 : Int32) (i_3 : Int32) (i_4 : Int32) (i_5 : Int32) (i_6 : Int32) (h0 : mm_rg i_0 0 600) (h1 : mm_ar f_0 (-128) 127) (h2 : mm_rg i_3 0 5) (h3 : mm_rg i_4 0 600) (h4 : mm_rg i_5 0 600)  : mm_CI l yX7_isName (mm_ws yX7_isName cX7_isName 4 (some .boolean)) ({ frames := 4, cells := 0, slots := 0, locals := 85 } : Room) G cy sz [(a_1, .inr (9, [.ref a_2, .int i_0])), (a_2, .inl (cy 0, 600, .inl f_0)), (a_0, .inr (7, [.ref a_1, .ref a_3, .int i_1, .int i_2, .int i_3, .int i_4, .int i_5, .int i_6]))] [.ref a_0, .ref (cy 106)] (fun u : Unit => [(a_1, .inr (9, [.ref a_2, .int i_0])), (a_2, .inl (cy 0, 600, .inl f_0)), (a_0, .inr (7, [.ref a_1, .ref a_3, .int i_1, .int i_2, .int i_3, .int i_4, .int i_5, .int i_6]))]) (fun (r : Int32) (u : Unit) => ((0 = r) ∨ (1 = r))) 0 0 := by
  refine mm_begin (lv := [(0, .ref a_0), (1, .ref (cy 106))]) (by decide) (Nat.le_of_ble_eq_true rfl) rfl ?_
  intro p e s m below meth c A ls R args Q H locs hRe hQ hAe hx hb hr hlocks hml hown hnm hts hsz hA hS hP hK hD hZ hl
  have hRf : R.frames = 4 := by rw [hRe]
  have hRl : R.locals = 85 := by rw [hRe]
  have hRc : R.cells = 0 := by rw [hRe]
  have hRs : R.slots = 0 := by rw [hRe]
  refine lv_aload_n hx hb dX7_isName_0 rfl (lv_at hl 1 rfl) ?_
  refine mm_finir (va_runV (As := []) (rest := []) ⟨hx, hb, hml, hown, hts⟩ (K11_J0_length_8abf5 l G cy H.size  ) (cwV 0 hts (mm_gV mm_w258 mm_w259 mm_w260 mm_w261 mm_w262) rfl rfl rfl hd_J0_length_8abf5 ⟨by rw [hRf]; exact Nat.le_of_ble_eq_true rfl, by rw [hRl]; exact Nat.le_of_ble_eq_true rfl⟩) (mm_preVS hK hZ hS hA hP hD [] rfl rfl 3 (by decide)) rfl rfl hl.1 rfl (lv_room (Nat.le_of_ble_eq_true rfl)) dX7_isName_1 ⟨by rw [hRc]; exact Nat.le_of_ble_eq_true rfl, by rw [hRs]; exact Nat.le_of_ble_eq_true rfl⟩) hP hD hS hA [] rfl (fun _ => rfl) ?_
  clear hP hD hS
  clear H locs
  intro v1 _u H locs hw hP hD hS
  subst hw
  refine lv_istore_n (lv' := [(2, .int 5), (0, .ref a_0), (1, .ref (cy 106))]) hx hb dX7_isName_4 rfl hl (by decide) rfl ?_
  clear hl
  clear ls
  intro ls hl
  refine lv_aload_n hx hb dX7_isName_5 rfl (lv_at hl 1 rfl) ?_
  refine va_get (D := G) (ci := 7) (v := .int i_3) (C := RX7) (T := TX7) (N := 8) hx hb hts (mm_i inlX7) hown hK.1 hP 2 rfl rfl 4 (by decide) (mm_h hts mm_w207) (fun _ h9 => h9) rfl dX7_isName_6 ?_
  refine lv_iconst (v := 2) hx hb dX7_isName_9 (by decide) ?_
  refine lv_icmp_ne (tgt := 40) hx hb dX7_isName_10 (by decide) (fun c2 => ?_) (fun c2 => ?_)
  · refine lv_iconst (v := 0) hx hb dX7_isName_40 (by decide) ?_
    subst hAe
    rw [hQ]
    exact W.zret (v := 0) hx hb hr rfl (fun t ht hW => ⟨⟨0, (), rfl, (Or.inl rfl), by rw [ht]; exact hP, hK.warm hW, hD⟩, hS.F ht⟩) hS.2.2 dX7_isName_41
  · have q3 := mm_eqI (lo := 2) (hi := 2) c2 h2 mm_k2 (by decide)
    refine lv_aload_n hx hb dX7_isName_13 rfl (lv_at hl 1 rfl) ?_
    refine va_get (D := G) (ci := 7) (v := .int i_5) (C := RX7) (T := TX7) (N := 8) hx hb hts (mm_i inlX7) hown hK.1 hP 2 rfl rfl 6 (by decide) (mm_h hts mm_w206) (fun _ h9 => h9) rfl dX7_isName_14 ?_
    refine lv_aload_n hx hb dX7_isName_17 rfl (lv_at hl 1 rfl) ?_
    refine va_get (D := G) (ci := 7) (v := .int i_4) (C := RX7) (T := TX7) (N := 8) hx hb hts (mm_i inlX7) hown hK.1 hP 2 rfl rfl 5 (by decide) (mm_h hts mm_w232) (fun _ h9 => h9) rfl dX7_isName_18 ?_
    refine lv_isub hx hb dX7_isName_21 ?_
    refine lv_topi (fun v4 ev4 => ?_)
    have rv4 : mm_rg v4 (-600) 600 := mm_sub ev4 h4 h3 (by decide) (by decide)
    have tv4 := mm_subE ev4 h4 h3 (by decide)
    refine lv_iload_n hx hb dX7_isName_22 rfl (lv_at hl 0 rfl) ?_
    refine lv_icmp_ne (tgt := 40) hx hb dX7_isName_23 (by decide) (fun c5 => ?_) (fun c5 => ?_)
    · refine lv_iconst (v := 0) hx hb dX7_isName_40 (by decide) ?_
      subst hAe
      rw [hQ]
      exact W.zret (v := 0) hx hb hr rfl (fun t ht hW => ⟨⟨0, (), rfl, (Or.inl rfl), by rw [ht]; exact hP, hK.warm hW, hD⟩, hS.F ht⟩) hS.2.2 dX7_isName_41
    · have q6 := mm_eqI (lo := 5) (hi := 5) c5 rv4 mm_k5 (by decide)
      have q7 : mm_rg i_4 0 595 := mm_unsubY tv4 q6 h4 h3 (by decide)
      have q8 : mm_rg i_5 5 600 := mm_unsubX tv4 q6 q7 h4 (by decide)
      refine lv_aload_n hx hb dX7_isName_26 rfl (lv_at hl 1 rfl) ?_
      refine va_get (D := G) (ci := 7) (v := .int i_5) (C := RX7) (T := TX7) (N := 8) hx hb hts (mm_i inlX7) hown hK.1 hP 2 rfl rfl 6 (by decide) (mm_h hts mm_w206) (fun _ h9 => h9) rfl dX7_isName_27 ?_
      refine lv_aload_n hx hb dX7_isName_30 rfl (lv_at hl 1 rfl) ?_
      refine va_get (D := G) (ci := 7) (v := .ref a_1) (C := RX7) (T := TX7) (N := 8) hx hb hts (mm_i inlX7) hown hK.1 hP 2 rfl rfl 0 (by decide) (mm_h hts mm_w67) (fun _ h9 => h9) rfl dX7_isName_31 ?_
      refine va_get (D := G) (ci := 9) (v := .int i_0) (C := RX9) (T := TX9) (N := 2) hx hb hts (mm_i inlX9) hown hK.1 hP 0 rfl rfl 1 (by decide) (mm_h hts mm_w231) (fun _ h9 => h9) rfl dX7_isName_34 ?_
      refine lv_icmp_le (tgt := 42) hx hb dX7_isName_37 (by decide) (fun c9 => ?_) (fun c9 => ?_)
      · have q10 := mm_leR (mm_le c9) q8 h0
        refine lv_iconst (v := 0) hx hb dX7_isName_42 (by decide) ?_
        refine lv_istore_n (lv' := [(3, .int 0), (2, .int 5), (0, .ref a_0), (1, .ref (cy 106))]) hx hb dX7_isName_43 rfl hl (by decide) rfl ?_
        clear hl
        clear ls
        intro ls hl
        have L44_81 : ∀ (n : Nat) (x44_3_81 : Int32), mm_rg x44_3_81 0 5 → (5 - x44_3_81.toInt).toNat < n → ∀ (H : Heap) (locs : List Loc), va_P G vwCl [(a_1, .inr (9, [.ref a_2, .int i_0])), (a_2, .inl (cy 0, 600, .inl f_0)), (a_0, .inr (7, [.ref a_1, .ref a_3, .int i_1, .int i_2, .int i_3, .int i_4, .int i_5, .int i_6]))] H → va_D A [(a_1, .inr (9, [.ref a_2, .int i_0])), (a_2, .inl (cy 0, 600, .inl f_0)), (a_0, .inr (7, [.ref a_1, .ref a_3, .int i_1, .int i_2, .int i_3, .int i_4, .int i_5, .int i_6]))] → va_S A s.heap H locs → ∀ (ls : Array Slot), lv_has ls 4 [(3, .int x44_3_81), (2, .int 5), (0, .ref a_0), (1, .ref (cy 106))] → W p l e R s m args below meth c H locs 0 0 Q (F0 m 44 ls []) := by
          intro n
          induction n with
          | zero => intro x44_3_81 rx44_3_81 hm; exact absurd hm (Nat.not_lt_zero _)
          | succ n ih44 =>
            intro x44_3_81 rx44_3_81 hm44 H locs hP hD hS ls hl
            refine lv_iload_n hx hb dX7_isName_44 rfl (lv_at hl 0 rfl) ?_
            refine lv_iload_n hx hb dX7_isName_45 rfl (lv_at hl 1 rfl) ?_
            refine lv_icmp_ge (tgt := 79) hx hb dX7_isName_46 (by decide) (fun c83 => ?_) (fun c83 => ?_)
            · have q84 := mm_leR (mm_le c83) mm_k5 rx44_3_81
              refine lv_iconst (v := 1) hx hb dX7_isName_79 (by decide) ?_
              subst hAe
              rw [hQ]
              exact W.zret (v := 1) hx hb hr rfl (fun t ht hW => ⟨⟨1, (), rfl, (Or.inr rfl), by rw [ht]; exact hP, hK.warm hW, hD⟩, hS.F ht⟩) hS.2.2 dX7_isName_80
            · have q85 := mm_ltL (h := 4) (mm_nle c83) rx44_3_81 mm_k5 (by decide)
              refine lv_aload_n hx hb dX7_isName_49 rfl (lv_at hl 2 rfl) ?_
              refine va_get (D := G) (ci := 7) (v := .ref a_1) (C := RX7) (T := TX7) (N := 8) hx hb hts (mm_i inlX7) hown hK.1 hP 2 rfl rfl 0 (by decide) (mm_h hts mm_w67) (fun _ h9 => h9) rfl dX7_isName_50 ?_
              refine va_get (D := G) (ci := 9) (v := .ref a_2) (C := RX9) (T := TX9) (N := 2) hx hb hts (mm_i inlX9) hown hK.1 hP 0 rfl rfl 0 (by decide) (mm_h hts mm_w238) (fun _ h9 => h9) rfl dX7_isName_53 ?_
              refine lv_aload_n hx hb dX7_isName_56 rfl (lv_at hl 2 rfl) ?_
              refine va_get (D := G) (ci := 7) (v := .int i_4) (C := RX7) (T := TX7) (N := 8) hx hb hts (mm_i inlX7) hown hK.1 hP 2 rfl rfl 5 (by decide) (mm_h hts mm_w232) (fun _ h9 => h9) rfl dX7_isName_57 ?_
              refine lv_iload_n hx hb dX7_isName_60 rfl (lv_at hl 0 rfl) ?_
              refine lv_iadd hx hb dX7_isName_61 ?_
              refine lv_topi (fun v86 ev86 => ?_)
              have rv86 : mm_rg v86 0 599 := mm_add ev86 q7 q85 (by decide) (by decide)
              have tv86 := mm_addE ev86 q7 q85 (by decide)
              refine va_bald hx hb hK.1 hP 1 0 rfl rfl (mm_in rv86 (by decide)) dX7_isName_62 ?_
              refine lv_topi (fun v87 ev87 => ?_)
              have rv87 : mm_rg v87 (-128) 127 := mm_eqv ev87 (h1 _)
              refine lv_aload_n hx hb dX7_isName_63 rfl (lv_at hl 3 rfl) ?_
              refine lv_iload_n hx hb dX7_isName_64 rfl (lv_at hl 0 rfl) ?_
              refine mm_finir (va_runV (As := [.int x44_3_81]) (rest := [.int v87]) ⟨hx, hb, hml, hown, hts⟩ (K42_J0_charAt_5068e l G cy H.size x44_3_81 q85) (cwV 1 hts (mm_gV mm_w270 mm_w271 mm_w272 mm_w261 mm_w273) rfl rfl rfl hd_J0_charAt_5068e ⟨by rw [hRf]; exact Nat.le_of_ble_eq_true rfl, by rw [hRl]; exact Nat.le_of_ble_eq_true rfl⟩) (mm_preVS hK hZ hS hA hP hD [] rfl rfl 3 (by decide)) rfl rfl hl.1 rfl (lv_room (Nat.le_of_ble_eq_true rfl)) dX7_isName_65 ⟨by rw [hRc]; exact Nat.le_of_ble_eq_true rfl, by rw [hRs]; exact Nat.le_of_ble_eq_true rfl⟩) hP hD hS hA [] rfl (fun _ => rfl) ?_
              clear hP hD hS
              clear H locs
              intro v88 _u H locs hw hP hD hS
              have w89 := hw
              refine lv_icmp_eq (tgt := 73) hx hb dX7_isName_68 (by decide) (fun c90 => ?_) (fun c90 => ?_)
              · have q91 := mm_eqI (lo := 0) (hi := 127) c90 rv87 w89 (by decide)
                have q92 := mm_eqI (lo := 0) (hi := 127) c90.symm w89 rv87 (by decide)
                obtain ⟨v93, ev93⟩ : ∃ y : Int32, y = x44_3_81 + 1 := ⟨_, rfl⟩
                refine lv_iinc (v := v93) (lv' := [(3, .int v93), (2, .int 5), (0, .ref a_0), (1, .ref (cy 106))]) hx hb dX7_isName_73 hl (k := 0) rfl (by rw [ev93]; rfl) (by decide) rfl ?_
                clear hl
                clear ls
                intro ls hl
                have rv93 : mm_rg v93 1 5 := mm_add ev93 q85 mm_k1 (by decide) (by decide)
                have tv93 := mm_addEc ev93 q85 mm_k1 (by decide) (k := 1) (by decide)
                refine lv_goto (tgt := 44) hx hb dX7_isName_76 (by decide) ?_
                exact ih44 v93 (mm_wk rv93 (by decide)) (mm_mu hm44 tv93 (by decide) (rv93).2 (by decide)) H locs hP hD hS ls (lv_sub hl [0, 1, 2, 3] rfl)
              · refine lv_iconst (v := 0) hx hb dX7_isName_71 (by decide) ?_
                subst hAe
                rw [hQ]
                exact W.zret (v := 0) hx hb hr rfl (fun t ht hW => ⟨⟨0, (), rfl, (Or.inl rfl), by rw [ht]; exact hP, hK.warm hW, hD⟩, hS.F ht⟩) hS.2.2 dX7_isName_72
        exact L44_81 _ 0 (mm_wk mm_k0 (by decide)) (Nat.lt_succ_self _) H locs hP hD hS ls (lv_sub hl [0, 1, 2, 3] rfl)
      · have q94 := mm_ltL (h := 599) (mm_nle c9) h0 q8 (by decide)
        refine lv_iconst (v := 0) hx hb dX7_isName_40 (by decide) ?_
        subst hAe
        rw [hQ]
        exact W.zret (v := 0) hx hb hr rfl (fun t ht hW => ⟨⟨0, (), rfl, (Or.inl rfl), by rw [ht]; exact hP, hK.warm hW, hD⟩, hS.F ht⟩) hS.2.2 dX7_isName_41

set_option maxHeartbeats 4000000 in
set_option maxRecDepth 100000 in
theorem K44_J0_coder_7d493 (l : Launch) (G : va_G) (cy : Nat → ClassId) (sz : Nat)    : mm_CI l yJ0_coder_7d493 (mm_ws yJ0_coder_7d493 cJ0_coder_7d493 1 (some .byte)) ({ frames := 0, cells := 0, slots := 0, locals := 0 } : Room) G cy sz [] [.ref (cy 118)] (fun u : Unit => []) (fun (r : Int32) (u : Unit) => 0 = r) 0 0 := by
  refine mm_begin (lv := [(0, .ref (cy 118))]) (by decide) (Nat.le_of_ble_eq_true rfl) rfl ?_
  intro p e s m below meth c A ls R args Q H locs hRe hQ hAe hx hb hr hlocks hml hown hnm hts hsz hA hS hP hK hD hZ hl
  have hRf : R.frames = 0 := by rw [hRe]
  have hRl : R.locals = 0 := by rw [hRe]
  have hRc : R.cells = 0 := by rw [hRe]
  have hRs : R.slots = 0 := by rw [hRe]
  refine va_gets hx hb hZ.2.1 hS hown (mm_h hts mm_w268) (fun _ h9 => h9) dJ0_coder_7d493_0 ?_
  refine lv_if_eq (tgt := 13) hx hb dJ0_coder_7d493_3 (by decide) (fun c1 => ?_) (fun c1 => ?_)
  · exact mm_eqN c1.symm mm_k0 mm_k1 (by decide)
  · refine lv_aload_n hx hb dJ0_coder_7d493_6 rfl (lv_at hl 0 rfl) ?_
    refine vk_getf hx hb ((hZ.1.1 9 (by decide)).2.1) hS hown (mm_h hts mm_w269) (fun _ h9 => h9) dJ0_coder_7d493_7 ?_
    refine W.eq (g2 := F0 m 10 ls [.int 0]) rfl ?_
    refine lv_goto (tgt := 14) hx hb dJ0_coder_7d493_10 (by decide) ?_
    subst hAe
    rw [hQ]
    exact W.zret (v := 0) hx hb hr rfl (fun t ht hW => ⟨⟨0, (), rfl, rfl, by rw [ht]; exact hP, hK.warm hW, hD⟩, hS.F ht⟩) hS.2.2 dJ0_coder_7d493_14

set_option maxHeartbeats 4000000 in
set_option maxRecDepth 100000 in
theorem K45_J0_length_8abf5 (l : Launch) (G : va_G) (cy : Nat → ClassId) (sz : Nat)    : mm_CI l yJ0_length_8abf5 (mm_ws yJ0_length_8abf5 cJ0_length_8abf5 1 (some .int)) ({ frames := 1, cells := 0, slots := 0, locals := 20 } : Room) G cy sz [] [.ref (cy 118)] (fun u : Unit => []) (fun (r : Int32) (u : Unit) => 4 = r) 0 0 := by
  refine mm_begin (lv := [(0, .ref (cy 118))]) (by decide) (Nat.le_of_ble_eq_true rfl) rfl ?_
  intro p e s m below meth c A ls R args Q H locs hRe hQ hAe hx hb hr hlocks hml hown hnm hts hsz hA hS hP hK hD hZ hl
  have hRf : R.frames = 1 := by rw [hRe]
  have hRl : R.locals = 20 := by rw [hRe]
  have hRc : R.cells = 0 := by rw [hRe]
  have hRs : R.slots = 0 := by rw [hRe]
  refine lv_aload_n hx hb dJ0_length_8abf5_0 rfl (lv_at hl 0 rfl) ?_
  refine vk_getf hx hb ((hZ.1.1 9 (by decide)).2.2.1) hS hown (mm_h hts mm_w263) (fun _ h9 => h9) dJ0_length_8abf5_1 ?_
  refine W.eq (g2 := F0 m 4 ls [.ref (cy 119)]) rfl ?_
  refine va_tlen hx hb ((hZ.1.1 9 (by decide)).2.2.2) hS (v := 4) (by decide) dJ0_length_8abf5_4 ?_
  refine lv_aload_n hx hb dJ0_length_8abf5_5 rfl (lv_at hl 0 rfl) ?_
  refine mm_finir (va_runV (As := []) (rest := [.int 4]) ⟨hx, hb, hml, hown, hts⟩ (K44_J0_coder_7d493 l G cy H.size  ) (cwV 0 hts (mm_gV mm_w264 mm_w265 mm_w266 mm_w261 mm_w267) rfl rfl rfl hd_J0_coder_7d493 ⟨by rw [hRf]; exact Nat.le_of_ble_eq_true rfl, by rw [hRl]; exact Nat.le_of_ble_eq_true rfl⟩) (mm_preVS hK hZ hS hA hP hD [] rfl rfl 9 (by decide)) rfl rfl hl.1 rfl (lv_room (Nat.le_of_ble_eq_true rfl)) dJ0_length_8abf5_6 ⟨by rw [hRc]; exact Nat.le_of_ble_eq_true rfl, by rw [hRs]; exact Nat.le_of_ble_eq_true rfl⟩) hP hD hS hA [] rfl (fun _ => rfl) ?_
  clear hP hD hS
  clear H locs
  intro v1 _u H locs hw hP hD hS
  subst hw
  refine lv_ishr hx hb dJ0_length_8abf5_9 ?_
  refine lv_topi (fun v2 ev2 => ?_)
  obtain rfl : v2 = 4 := ev2.trans (by decide)
  subst hAe
  rw [hQ]
  exact W.iret (v := 4) hx hb hr (fun t ht hW => ⟨⟨4, (), rfl, rfl, by rw [ht]; exact hP, hK.warm hW, hD⟩, hS.F ht⟩) hS.2.2 dJ0_length_8abf5_10

set_option maxHeartbeats 4000000 in
set_option maxRecDepth 100000 in
theorem K46_J0_isLatin1_aae02 (l : Launch) (G : va_G) (cy : Nat → ClassId) (sz : Nat)    : mm_CI l yJ0_isLatin1_aae02 (mm_ws yJ0_isLatin1_aae02 cJ0_isLatin1_aae02 1 (some .boolean)) ({ frames := 0, cells := 0, slots := 0, locals := 0 } : Room) G cy sz [] [.ref (cy 118)] (fun u : Unit => []) (fun (r : Int32) (u : Unit) => 1 = r) 0 0 := by
  refine mm_begin (lv := [(0, .ref (cy 118))]) (by decide) (Nat.le_of_ble_eq_true rfl) rfl ?_
  intro p e s m below meth c A ls R args Q H locs hRe hQ hAe hx hb hr hlocks hml hown hnm hts hsz hA hS hP hK hD hZ hl
  have hRf : R.frames = 0 := by rw [hRe]
  have hRl : R.locals = 0 := by rw [hRe]
  have hRc : R.cells = 0 := by rw [hRe]
  have hRs : R.slots = 0 := by rw [hRe]
  refine va_gets hx hb hZ.2.1 hS hown (mm_h hts mm_w268) (fun _ h9 => h9) dJ0_isLatin1_aae02_0 ?_
  refine lv_if_eq (tgt := 17) hx hb dJ0_isLatin1_aae02_3 (by decide) (fun c1 => ?_) (fun c1 => ?_)
  · exact mm_eqN c1.symm mm_k0 mm_k1 (by decide)
  · refine lv_aload_n hx hb dJ0_isLatin1_aae02_6 rfl (lv_at hl 0 rfl) ?_
    refine vk_getf hx hb ((hZ.1.1 9 (by decide)).2.1) hS hown (mm_h hts mm_w269) (fun _ h9 => h9) dJ0_isLatin1_aae02_7 ?_
    refine W.eq (g2 := F0 m 10 ls [.int 0]) rfl ?_
    refine lv_if_ne (tgt := 17) hx hb dJ0_isLatin1_aae02_10 (by decide) (fun c2 => ?_) (fun c2 => ?_)
    · have q3 := mm_neL (lo := 1) (mm_ne c2) mm_k0 mm_k0 (by decide) (by decide)
      exact mm_no q3 (by decide)
    · refine lv_iconst (v := 1) hx hb dJ0_isLatin1_aae02_13 (by decide) ?_
      refine lv_goto (tgt := 18) hx hb dJ0_isLatin1_aae02_14 (by decide) ?_
      subst hAe
      rw [hQ]
      exact W.zret (v := 1) hx hb hr rfl (fun t ht hW => ⟨⟨1, (), rfl, rfl, by rw [ht]; exact hP, hK.warm hW, hD⟩, hS.F ht⟩) hS.2.2 dJ0_isLatin1_aae02_18

set_option maxHeartbeats 4000000 in
set_option maxRecDepth 100000 in
theorem K67_J3_checkIndex_8e157 (l : Launch) (G : va_G) (cy : Nat → ClassId) (sz : Nat) (i_0 : Int32) (h0 : mm_rg i_0 0 3)  : mm_CI l yJ3_checkIndex_8e157 (mm_ws yJ3_checkIndex_8e157 cJ3_checkIndex_8e157 3 (some .int)) ({ frames := 0, cells := 0, slots := 0, locals := 0 } : Room) G cy sz [] [.int i_0, .int 4, .null] (fun u : Unit => []) (fun (r : Int32) (u : Unit) => mm_rg r 0 3) 0 0 := by
  refine mm_begin (lv := [(0, .int i_0), (1, .int 4), (2, .null)]) (by decide) (Nat.le_of_ble_eq_true rfl) rfl ?_
  intro p e s m below meth c A ls R args Q H locs hRe hQ hAe hx hb hr hlocks hml hown hnm hts hsz hA hS hP hK hD hZ hl
  have hRf : R.frames = 0 := by rw [hRe]
  have hRl : R.locals = 0 := by rw [hRe]
  have hRc : R.cells = 0 := by rw [hRe]
  have hRs : R.slots = 0 := by rw [hRe]
  refine lv_iload_n hx hb dJ3_checkIndex_8e157_0 rfl (lv_at hl 0 rfl) ?_
  refine lv_if_lt (tgt := 9) hx hb dJ3_checkIndex_8e157_1 (by decide) (fun c1 => ?_) (fun c1 => ?_)
  · have q2 := mm_ltL (h := (-1)) (mm_lt c1) h0 mm_k0 (by decide)
    exact mm_no q2 (by decide)
  · refine lv_iload_n hx hb dJ3_checkIndex_8e157_4 rfl (lv_at hl 0 rfl) ?_
    refine lv_iload_n hx hb dJ3_checkIndex_8e157_5 rfl (lv_at hl 1 rfl) ?_
    refine lv_icmp_lt (tgt := 16) hx hb dJ3_checkIndex_8e157_6 (by decide) (fun c3 => ?_) (fun c3 => ?_)
    · refine lv_iload_n hx hb dJ3_checkIndex_8e157_16 rfl (lv_at hl 0 rfl) ?_
      subst hAe
      rw [hQ]
      exact W.iret (v := i_0) hx hb hr (fun t ht hW => ⟨⟨i_0, (), rfl, h0, by rw [ht]; exact hP, hK.warm hW, hD⟩, hS.F ht⟩) hS.2.2 dJ3_checkIndex_8e157_17
    · have q4 := mm_leL (mm_nlt c3) mm_k4 h0
      exact mm_no q4 (by decide)

set_option maxHeartbeats 4000000 in
set_option maxRecDepth 100000 in
theorem K68_J3_checkIndex_8e157 (l : Launch) (G : va_G) (cy : Nat → ClassId) (sz : Nat) (i_0 : Int32) (a_0 : Nat) (h0 : mm_rg i_0 0 3)  : mm_CI l yJ3_checkIndex_8e157 (mm_ws yJ3_checkIndex_8e157 cJ3_checkIndex_8e157 3 (some .int)) ({ frames := 0, cells := 0, slots := 0, locals := 0 } : Room) G cy sz [] [.int i_0, .int 4, .ref a_0] (fun u : Unit => []) (fun (r : Int32) (u : Unit) => mm_rg r 0 3) 0 0 := by
  refine mm_begin (lv := [(0, .int i_0), (1, .int 4), (2, .ref a_0)]) (by decide) (Nat.le_of_ble_eq_true rfl) rfl ?_
  intro p e s m below meth c A ls R args Q H locs hRe hQ hAe hx hb hr hlocks hml hown hnm hts hsz hA hS hP hK hD hZ hl
  have hRf : R.frames = 0 := by rw [hRe]
  have hRl : R.locals = 0 := by rw [hRe]
  have hRc : R.cells = 0 := by rw [hRe]
  have hRs : R.slots = 0 := by rw [hRe]
  refine lv_iload_n hx hb dJ3_checkIndex_8e157_0 rfl (lv_at hl 0 rfl) ?_
  refine lv_if_lt (tgt := 9) hx hb dJ3_checkIndex_8e157_1 (by decide) (fun c1 => ?_) (fun c1 => ?_)
  · have q2 := mm_ltL (h := (-1)) (mm_lt c1) h0 mm_k0 (by decide)
    exact mm_no q2 (by decide)
  · refine lv_iload_n hx hb dJ3_checkIndex_8e157_4 rfl (lv_at hl 0 rfl) ?_
    refine lv_iload_n hx hb dJ3_checkIndex_8e157_5 rfl (lv_at hl 1 rfl) ?_
    refine lv_icmp_lt (tgt := 16) hx hb dJ3_checkIndex_8e157_6 (by decide) (fun c3 => ?_) (fun c3 => ?_)
    · refine lv_iload_n hx hb dJ3_checkIndex_8e157_16 rfl (lv_at hl 0 rfl) ?_
      subst hAe
      rw [hQ]
      exact W.iret (v := i_0) hx hb hr (fun t ht hW => ⟨⟨i_0, (), rfl, h0, by rw [ht]; exact hP, hK.warm hW, hD⟩, hS.F ht⟩) hS.2.2 dJ3_checkIndex_8e157_17
    · have q4 := mm_leL (mm_nlt c3) mm_k4 h0
      exact mm_no q4 (by decide)

set_option maxHeartbeats 4000000 in
set_option maxRecDepth 100000 in
theorem K69_J0_checkIndex_df160 (l : Launch) (G : va_G) (cy : Nat → ClassId) (sz : Nat) (i_0 : Int32) (h0 : mm_rg i_0 0 3)  : mm_CV l yJ0_checkIndex_df160 (mm_ws yJ0_checkIndex_df160 cJ0_checkIndex_df160 2 (none)) ({ frames := 1, cells := 0, slots := 0, locals := 22 } : Room) G cy sz [] [.int i_0, .int 4] (fun u : Unit => []) (fun u : Unit => True) 0 0 := by
  refine mm_begin (lv := [(0, .int i_0), (1, .int 4)]) (by decide) (Nat.le_of_ble_eq_true rfl) rfl ?_
  intro p e s m below meth c A ls R args Q H locs hRe hQ hAe hx hb hr hlocks hml hown hnm hts hsz hA hS hP hK hD hZ hl
  have hRf : R.frames = 1 := by rw [hRe]
  have hRl : R.locals = 22 := by rw [hRe]
  have hRc : R.cells = 0 := by rw [hRe]
  have hRs : R.slots = 0 := by rw [hRe]
  refine lv_iload_n hx hb dJ0_checkIndex_df160_0 rfl (lv_at hl 0 rfl) ?_
  refine lv_iload_n hx hb dJ0_checkIndex_df160_1 rfl (lv_at hl 1 rfl) ?_
  rcases hZ.2.2 with hz1 | ⟨z1, hz1⟩
  · refine va_gets hx hb hz1 hS hown (mm_h hts mm_w285) (fun _ h9 => h9) dJ0_checkIndex_df160_2 ?_
    refine mm_finir (va_runS (As := [.int i_0, .int 4, .null]) (rest := []) ⟨hx, hb, hml, hown, hts⟩ (K67_J3_checkIndex_8e157 l G cy H.size i_0 h0) (va_cwS 3 hts (mm_gS mm_w286 mm_w287 mm_w288 mm_w289) rfl rfl rfl hs_J3_checkIndex_8e157 ⟨by rw [hRf]; exact Nat.le_of_ble_eq_true rfl, by rw [hRl]; exact Nat.le_of_ble_eq_true rfl⟩) (mm_preS hK hZ hS hA hP hD [] rfl rfl) rfl rfl hl.1 rfl (lv_room (Nat.le_of_ble_eq_true rfl)) dJ0_checkIndex_df160_5 ⟨by rw [hRc]; exact Nat.le_of_ble_eq_true rfl, by rw [hRs]; exact Nat.le_of_ble_eq_true rfl⟩) hP hD hS hA [] rfl (fun _ => rfl) ?_
    clear hP hD hS
    clear H locs
    intro v2 _u H locs hw hP hD hS
    have w3 := hw
    refine lv_pop hx hb dJ0_checkIndex_df160_8 rfl ?_
    subst hAe
    rw [hQ]
    exact W.vret hx hb hr (fun t ht hW => ⟨⟨(), rfl, trivial, by rw [ht]; exact hP, hK.warm hW, hD⟩, hS.F ht⟩) hS.2.2 dJ0_checkIndex_df160_9
  · refine va_gets hx hb hz1 hS hown (mm_h hts mm_w285) (fun _ h9 => h9) dJ0_checkIndex_df160_2 ?_
    refine mm_finir (va_runS (As := [.int i_0, .int 4, .ref z1]) (rest := []) ⟨hx, hb, hml, hown, hts⟩ (K68_J3_checkIndex_8e157 l G cy H.size i_0 z1 h0) (va_cwS 3 hts (mm_gS mm_w286 mm_w287 mm_w288 mm_w289) rfl rfl rfl hs_J3_checkIndex_8e157 ⟨by rw [hRf]; exact Nat.le_of_ble_eq_true rfl, by rw [hRl]; exact Nat.le_of_ble_eq_true rfl⟩) (mm_preS hK hZ hS hA hP hD [] rfl rfl) rfl rfl hl.1 rfl (lv_room (Nat.le_of_ble_eq_true rfl)) dJ0_checkIndex_df160_5 ⟨by rw [hRc]; exact Nat.le_of_ble_eq_true rfl, by rw [hRs]; exact Nat.le_of_ble_eq_true rfl⟩) hP hD hS hA [] rfl (fun _ => rfl) ?_
    clear hP hD hS
    clear H locs
    intro v4 _u H locs hw hP hD hS
    have w5 := hw
    refine lv_pop hx hb dJ0_checkIndex_df160_8 rfl ?_
    subst hAe
    rw [hQ]
    exact W.vret hx hb hr (fun t ht hW => ⟨⟨(), rfl, trivial, by rw [ht]; exact hP, hK.warm hW, hD⟩, hS.F ht⟩) hS.2.2 dJ0_checkIndex_df160_9

set_option maxHeartbeats 4000000 in
set_option maxRecDepth 100000 in
theorem K70_J1_charAt_3b067 (l : Launch) (G : va_G) (cy : Nat → ClassId) (sz : Nat) (i_0 : Int32) (h0 : mm_rg i_0 0 3)  : mm_CI l yJ1_charAt_3b067 (mm_ws yJ1_charAt_3b067 cJ1_charAt_3b067 2 (some .char)) ({ frames := 2, cells := 0, slots := 0, locals := 43 } : Room) G cy sz [] [.ref (cy 119), .int i_0] (fun u : Unit => []) (fun (r : Int32) (u : Unit) => mm_rg r 0 65535) 0 0 := by
  refine mm_begin (lv := [(0, .ref (cy 119)), (1, .int i_0)]) (by decide) (Nat.le_of_ble_eq_true rfl) rfl ?_
  intro p e s m below meth c A ls R args Q H locs hRe hQ hAe hx hb hr hlocks hml hown hnm hts hsz hA hS hP hK hD hZ hl
  have hRf : R.frames = 2 := by rw [hRe]
  have hRl : R.locals = 43 := by rw [hRe]
  have hRc : R.cells = 0 := by rw [hRe]
  have hRs : R.slots = 0 := by rw [hRe]
  refine lv_iload_n hx hb dJ1_charAt_3b067_0 rfl (lv_at hl 1 rfl) ?_
  refine lv_aload_n hx hb dJ1_charAt_3b067_1 rfl (lv_at hl 0 rfl) ?_
  refine va_tlen hx hb ((hZ.1.1 9 (by decide)).2.2.2) hS (v := 4) (by decide) dJ1_charAt_3b067_2 ?_
  refine mm_finvr (va_runS (As := [.int i_0, .int 4]) (rest := []) ⟨hx, hb, hml, hown, hts⟩ (K69_J0_checkIndex_df160 l G cy H.size i_0 h0) (va_cwS 2 hts (mm_gS mm_w282 mm_w283 mm_w261 mm_w284) rfl rfl rfl hs_J0_checkIndex_df160 ⟨by rw [hRf]; exact Nat.le_of_ble_eq_true rfl, by rw [hRl]; exact Nat.le_of_ble_eq_true rfl⟩) (mm_preS hK hZ hS hA hP hD [] rfl rfl) rfl rfl hl.1 rfl (lv_room (Nat.le_of_ble_eq_true rfl)) dJ1_charAt_3b067_3 ⟨by rw [hRc]; exact Nat.le_of_ble_eq_true rfl, by rw [hRs]; exact Nat.le_of_ble_eq_true rfl⟩) hP hD hS hA [] rfl (fun _ => rfl) ?_
  clear hP hD hS
  clear H locs
  intro _u H locs hw hP hD hS
  refine lv_aload_n hx hb dJ1_charAt_3b067_6 rfl (lv_at hl 0 rfl) ?_
  refine lv_iload_n hx hb dJ1_charAt_3b067_7 rfl (lv_at hl 1 rfl) ?_
  refine va_tb hx hb ((hZ.1.1 9 (by decide)).2.2.2) hS (mm_in h0 (by decide)) rfl dJ1_charAt_3b067_8 ?_
  refine lv_topi (fun v1 ev1 => ?_)
  refine lv_sipush (v := 255) hx hb dJ1_charAt_3b067_9 (by decide) ?_
  refine lv_iand hx hb dJ1_charAt_3b067_12 ?_
  refine lv_topi (fun v2 ev2 => ?_)
  have rv2 : mm_rg v2 0 255 := mm_andR ev2 mm_k255 (by decide)
  obtain ⟨v3, ev3⟩ : ∃ y : Int32, y = (v2.toUInt32 % 65536).toInt32 := ⟨_, rfl⟩
  refine lv_i2c hx hb dJ1_charAt_3b067_13 ev3.symm ?_
  have rv3 : mm_rg v3 0 65535 := mm_i2c ev3
  subst hAe
  rw [hQ]
  exact W.zret (v := v3) hx hb hr (mm_nch rv3) (fun t ht hW => ⟨⟨v3, (), rfl, rv3, by rw [ht]; exact hP, hK.warm hW, hD⟩, hS.F ht⟩) hS.2.2 dJ1_charAt_3b067_14

set_option maxHeartbeats 4000000 in
set_option maxRecDepth 100000 in
theorem K71_J0_charAt_5068e (l : Launch) (G : va_G) (cy : Nat → ClassId) (sz : Nat) (i_0 : Int32) (h0 : mm_rg i_0 0 3)  : mm_CI l yJ0_charAt_5068e (mm_ws yJ0_charAt_5068e cJ0_charAt_5068e 2 (some .char)) ({ frames := 3, cells := 0, slots := 0, locals := 64 } : Room) G cy sz [] [.ref (cy 118), .int i_0] (fun u : Unit => []) (fun (r : Int32) (u : Unit) => mm_rg r 0 65535) 0 0 := by
  refine mm_begin (lv := [(0, .ref (cy 118)), (1, .int i_0)]) (by decide) (Nat.le_of_ble_eq_true rfl) rfl ?_
  intro p e s m below meth c A ls R args Q H locs hRe hQ hAe hx hb hr hlocks hml hown hnm hts hsz hA hS hP hK hD hZ hl
  have hRf : R.frames = 3 := by rw [hRe]
  have hRl : R.locals = 64 := by rw [hRe]
  have hRc : R.cells = 0 := by rw [hRe]
  have hRs : R.slots = 0 := by rw [hRe]
  refine lv_aload_n hx hb dJ0_charAt_5068e_0 rfl (lv_at hl 0 rfl) ?_
  refine mm_finir (va_runV (As := []) (rest := []) ⟨hx, hb, hml, hown, hts⟩ (K46_J0_isLatin1_aae02 l G cy H.size  ) (cwV 0 hts (mm_gV mm_w274 mm_w275 mm_w276 mm_w261 mm_w277) rfl rfl rfl hd_J0_isLatin1_aae02 ⟨by rw [hRf]; exact Nat.le_of_ble_eq_true rfl, by rw [hRl]; exact Nat.le_of_ble_eq_true rfl⟩) (mm_preVS hK hZ hS hA hP hD [] rfl rfl 9 (by decide)) rfl rfl hl.1 rfl (lv_room (Nat.le_of_ble_eq_true rfl)) dJ0_charAt_5068e_1 ⟨by rw [hRc]; exact Nat.le_of_ble_eq_true rfl, by rw [hRs]; exact Nat.le_of_ble_eq_true rfl⟩) hP hD hS hA [] rfl (fun _ => rfl) ?_
  clear hP hD hS
  clear H locs
  intro v1 _u H locs hw hP hD hS
  subst hw
  refine lv_if_eq (tgt := 16) hx hb dJ0_charAt_5068e_4 (by decide) (fun c2 => ?_) (fun c2 => ?_)
  · exact mm_eqN c2.symm mm_k0 mm_k1 (by decide)
  · refine lv_aload_n hx hb dJ0_charAt_5068e_7 rfl (lv_at hl 0 rfl) ?_
    refine vk_getf hx hb ((hZ.1.1 9 (by decide)).2.2.1) hS hown (mm_h hts mm_w263) (fun _ h9 => h9) dJ0_charAt_5068e_8 ?_
    refine W.eq (g2 := F0 m 11 ls [.ref (cy 119)]) rfl ?_
    refine lv_iload_n hx hb dJ0_charAt_5068e_11 rfl (lv_at hl 1 rfl) ?_
    refine mm_finir (va_runS (As := [.ref (cy 119), .int i_0]) (rest := []) ⟨hx, hb, hml, hown, hts⟩ (K70_J1_charAt_3b067 l G cy H.size i_0 h0) (va_cwS 2 hts (mm_gS mm_w278 mm_w279 mm_w280 mm_w281) rfl rfl rfl hs_J1_charAt_3b067 ⟨by rw [hRf]; exact Nat.le_of_ble_eq_true rfl, by rw [hRl]; exact Nat.le_of_ble_eq_true rfl⟩) (mm_preS hK hZ hS hA hP hD [] rfl rfl) rfl rfl hl.1 rfl (lv_room (Nat.le_of_ble_eq_true rfl)) dJ0_charAt_5068e_12 ⟨by rw [hRc]; exact Nat.le_of_ble_eq_true rfl, by rw [hRs]; exact Nat.le_of_ble_eq_true rfl⟩) hP hD hS hA [] rfl (fun _ => rfl) ?_
    clear hP hD hS
    clear H locs
    intro v3 _u H locs hw hP hD hS
    have w4 := hw
    subst hAe
    rw [hQ]
    exact W.zret (v := v3) hx hb hr (mm_nch w4) (fun t ht hW => ⟨⟨v3, (), rfl, w4, by rw [ht]; exact hP, hK.warm hW, hD⟩, hS.F ht⟩) hS.2.2 dJ0_charAt_5068e_15

set_option maxHeartbeats 4000000 in
set_option maxRecDepth 100000 in
theorem K72_X7_isName (l : Launch) (G : va_G) (cy : Nat → ClassId) (sz : Nat) (a_0 : Nat) (a_1 : Nat) (a_2 : Nat) (i_0 : Int32) (f_0 : Nat → Int32) (a_3 : Nat) (i_1 : Int32) (i_2 : Int32) (i_3 : Int32) (i_4 : Int32) (i_5 : Int32) (i_6 : Int32) (h0 : mm_rg i_0 0 600) (h1 : mm_ar f_0 (-128) 127) (h2 : mm_rg i_3 0 5) (h3 : mm_rg i_4 0 600) (h4 : mm_rg i_5 0 600)  : mm_CI l yX7_isName (mm_ws yX7_isName cX7_isName 4 (some .boolean)) ({ frames := 4, cells := 0, slots := 0, locals := 85 } : Room) G cy sz [(a_1, .inr (9, [.ref a_2, .int i_0])), (a_2, .inl (cy 0, 600, .inl f_0)), (a_0, .inr (7, [.ref a_1, .ref a_3, .int i_1, .int i_2, .int i_3, .int i_4, .int i_5, .int i_6]))] [.ref a_0, .ref (cy 118)] (fun u : Unit => [(a_1, .inr (9, [.ref a_2, .int i_0])), (a_2, .inl (cy 0, 600, .inl f_0)), (a_0, .inr (7, [.ref a_1, .ref a_3, .int i_1, .int i_2, .int i_3, .int i_4, .int i_5, .int i_6]))]) (fun (r : Int32) (u : Unit) => ((0 = r) ∨ (1 = r))) 0 0 := by
  refine mm_begin (lv := [(0, .ref a_0), (1, .ref (cy 118))]) (by decide) (Nat.le_of_ble_eq_true rfl) rfl ?_
  intro p e s m below meth c A ls R args Q H locs hRe hQ hAe hx hb hr hlocks hml hown hnm hts hsz hA hS hP hK hD hZ hl
  have hRf : R.frames = 4 := by rw [hRe]
  have hRl : R.locals = 85 := by rw [hRe]
  have hRc : R.cells = 0 := by rw [hRe]
  have hRs : R.slots = 0 := by rw [hRe]
  refine lv_aload_n hx hb dX7_isName_0 rfl (lv_at hl 1 rfl) ?_
  refine mm_finir (va_runV (As := []) (rest := []) ⟨hx, hb, hml, hown, hts⟩ (K45_J0_length_8abf5 l G cy H.size  ) (cwV 0 hts (mm_gV mm_w258 mm_w259 mm_w260 mm_w261 mm_w262) rfl rfl rfl hd_J0_length_8abf5 ⟨by rw [hRf]; exact Nat.le_of_ble_eq_true rfl, by rw [hRl]; exact Nat.le_of_ble_eq_true rfl⟩) (mm_preVS hK hZ hS hA hP hD [] rfl rfl 9 (by decide)) rfl rfl hl.1 rfl (lv_room (Nat.le_of_ble_eq_true rfl)) dX7_isName_1 ⟨by rw [hRc]; exact Nat.le_of_ble_eq_true rfl, by rw [hRs]; exact Nat.le_of_ble_eq_true rfl⟩) hP hD hS hA [] rfl (fun _ => rfl) ?_
  clear hP hD hS
  clear H locs
  intro v1 _u H locs hw hP hD hS
  subst hw
  refine lv_istore_n (lv' := [(2, .int 4), (0, .ref a_0), (1, .ref (cy 118))]) hx hb dX7_isName_4 rfl hl (by decide) rfl ?_
  clear hl
  clear ls
  intro ls hl
  refine lv_aload_n hx hb dX7_isName_5 rfl (lv_at hl 1 rfl) ?_
  refine va_get (D := G) (ci := 7) (v := .int i_3) (C := RX7) (T := TX7) (N := 8) hx hb hts (mm_i inlX7) hown hK.1 hP 2 rfl rfl 4 (by decide) (mm_h hts mm_w207) (fun _ h9 => h9) rfl dX7_isName_6 ?_
  refine lv_iconst (v := 2) hx hb dX7_isName_9 (by decide) ?_
  refine lv_icmp_ne (tgt := 40) hx hb dX7_isName_10 (by decide) (fun c2 => ?_) (fun c2 => ?_)
  · refine lv_iconst (v := 0) hx hb dX7_isName_40 (by decide) ?_
    subst hAe
    rw [hQ]
    exact W.zret (v := 0) hx hb hr rfl (fun t ht hW => ⟨⟨0, (), rfl, (Or.inl rfl), by rw [ht]; exact hP, hK.warm hW, hD⟩, hS.F ht⟩) hS.2.2 dX7_isName_41
  · have q3 := mm_eqI (lo := 2) (hi := 2) c2 h2 mm_k2 (by decide)
    refine lv_aload_n hx hb dX7_isName_13 rfl (lv_at hl 1 rfl) ?_
    refine va_get (D := G) (ci := 7) (v := .int i_5) (C := RX7) (T := TX7) (N := 8) hx hb hts (mm_i inlX7) hown hK.1 hP 2 rfl rfl 6 (by decide) (mm_h hts mm_w206) (fun _ h9 => h9) rfl dX7_isName_14 ?_
    refine lv_aload_n hx hb dX7_isName_17 rfl (lv_at hl 1 rfl) ?_
    refine va_get (D := G) (ci := 7) (v := .int i_4) (C := RX7) (T := TX7) (N := 8) hx hb hts (mm_i inlX7) hown hK.1 hP 2 rfl rfl 5 (by decide) (mm_h hts mm_w232) (fun _ h9 => h9) rfl dX7_isName_18 ?_
    refine lv_isub hx hb dX7_isName_21 ?_
    refine lv_topi (fun v4 ev4 => ?_)
    have rv4 : mm_rg v4 (-600) 600 := mm_sub ev4 h4 h3 (by decide) (by decide)
    have tv4 := mm_subE ev4 h4 h3 (by decide)
    refine lv_iload_n hx hb dX7_isName_22 rfl (lv_at hl 0 rfl) ?_
    refine lv_icmp_ne (tgt := 40) hx hb dX7_isName_23 (by decide) (fun c5 => ?_) (fun c5 => ?_)
    · refine lv_iconst (v := 0) hx hb dX7_isName_40 (by decide) ?_
      subst hAe
      rw [hQ]
      exact W.zret (v := 0) hx hb hr rfl (fun t ht hW => ⟨⟨0, (), rfl, (Or.inl rfl), by rw [ht]; exact hP, hK.warm hW, hD⟩, hS.F ht⟩) hS.2.2 dX7_isName_41
    · have q6 := mm_eqI (lo := 4) (hi := 4) c5 rv4 mm_k4 (by decide)
      have q7 : mm_rg i_4 0 596 := mm_unsubY tv4 q6 h4 h3 (by decide)
      have q8 : mm_rg i_5 4 600 := mm_unsubX tv4 q6 q7 h4 (by decide)
      refine lv_aload_n hx hb dX7_isName_26 rfl (lv_at hl 1 rfl) ?_
      refine va_get (D := G) (ci := 7) (v := .int i_5) (C := RX7) (T := TX7) (N := 8) hx hb hts (mm_i inlX7) hown hK.1 hP 2 rfl rfl 6 (by decide) (mm_h hts mm_w206) (fun _ h9 => h9) rfl dX7_isName_27 ?_
      refine lv_aload_n hx hb dX7_isName_30 rfl (lv_at hl 1 rfl) ?_
      refine va_get (D := G) (ci := 7) (v := .ref a_1) (C := RX7) (T := TX7) (N := 8) hx hb hts (mm_i inlX7) hown hK.1 hP 2 rfl rfl 0 (by decide) (mm_h hts mm_w67) (fun _ h9 => h9) rfl dX7_isName_31 ?_
      refine va_get (D := G) (ci := 9) (v := .int i_0) (C := RX9) (T := TX9) (N := 2) hx hb hts (mm_i inlX9) hown hK.1 hP 0 rfl rfl 1 (by decide) (mm_h hts mm_w231) (fun _ h9 => h9) rfl dX7_isName_34 ?_
      refine lv_icmp_le (tgt := 42) hx hb dX7_isName_37 (by decide) (fun c9 => ?_) (fun c9 => ?_)
      · have q10 := mm_leR (mm_le c9) q8 h0
        refine lv_iconst (v := 0) hx hb dX7_isName_42 (by decide) ?_
        refine lv_istore_n (lv' := [(3, .int 0), (2, .int 4), (0, .ref a_0), (1, .ref (cy 118))]) hx hb dX7_isName_43 rfl hl (by decide) rfl ?_
        clear hl
        clear ls
        intro ls hl
        have L44_71 : ∀ (n : Nat) (x44_3_71 : Int32), mm_rg x44_3_71 0 4 → (4 - x44_3_71.toInt).toNat < n → ∀ (H : Heap) (locs : List Loc), va_P G vwCl [(a_1, .inr (9, [.ref a_2, .int i_0])), (a_2, .inl (cy 0, 600, .inl f_0)), (a_0, .inr (7, [.ref a_1, .ref a_3, .int i_1, .int i_2, .int i_3, .int i_4, .int i_5, .int i_6]))] H → va_D A [(a_1, .inr (9, [.ref a_2, .int i_0])), (a_2, .inl (cy 0, 600, .inl f_0)), (a_0, .inr (7, [.ref a_1, .ref a_3, .int i_1, .int i_2, .int i_3, .int i_4, .int i_5, .int i_6]))] → va_S A s.heap H locs → ∀ (ls : Array Slot), lv_has ls 4 [(3, .int x44_3_71), (2, .int 4), (0, .ref a_0), (1, .ref (cy 118))] → W p l e R s m args below meth c H locs 0 0 Q (F0 m 44 ls []) := by
          intro n
          induction n with
          | zero => intro x44_3_71 rx44_3_71 hm; exact absurd hm (Nat.not_lt_zero _)
          | succ n ih44 =>
            intro x44_3_71 rx44_3_71 hm44 H locs hP hD hS ls hl
            refine lv_iload_n hx hb dX7_isName_44 rfl (lv_at hl 0 rfl) ?_
            refine lv_iload_n hx hb dX7_isName_45 rfl (lv_at hl 1 rfl) ?_
            refine lv_icmp_ge (tgt := 79) hx hb dX7_isName_46 (by decide) (fun c73 => ?_) (fun c73 => ?_)
            · have q74 := mm_leR (mm_le c73) mm_k4 rx44_3_71
              refine lv_iconst (v := 1) hx hb dX7_isName_79 (by decide) ?_
              subst hAe
              rw [hQ]
              exact W.zret (v := 1) hx hb hr rfl (fun t ht hW => ⟨⟨1, (), rfl, (Or.inr rfl), by rw [ht]; exact hP, hK.warm hW, hD⟩, hS.F ht⟩) hS.2.2 dX7_isName_80
            · have q75 := mm_ltL (h := 3) (mm_nle c73) rx44_3_71 mm_k4 (by decide)
              refine lv_aload_n hx hb dX7_isName_49 rfl (lv_at hl 2 rfl) ?_
              refine va_get (D := G) (ci := 7) (v := .ref a_1) (C := RX7) (T := TX7) (N := 8) hx hb hts (mm_i inlX7) hown hK.1 hP 2 rfl rfl 0 (by decide) (mm_h hts mm_w67) (fun _ h9 => h9) rfl dX7_isName_50 ?_
              refine va_get (D := G) (ci := 9) (v := .ref a_2) (C := RX9) (T := TX9) (N := 2) hx hb hts (mm_i inlX9) hown hK.1 hP 0 rfl rfl 0 (by decide) (mm_h hts mm_w238) (fun _ h9 => h9) rfl dX7_isName_53 ?_
              refine lv_aload_n hx hb dX7_isName_56 rfl (lv_at hl 2 rfl) ?_
              refine va_get (D := G) (ci := 7) (v := .int i_4) (C := RX7) (T := TX7) (N := 8) hx hb hts (mm_i inlX7) hown hK.1 hP 2 rfl rfl 5 (by decide) (mm_h hts mm_w232) (fun _ h9 => h9) rfl dX7_isName_57 ?_
              refine lv_iload_n hx hb dX7_isName_60 rfl (lv_at hl 0 rfl) ?_
              refine lv_iadd hx hb dX7_isName_61 ?_
              refine lv_topi (fun v76 ev76 => ?_)
              have rv76 : mm_rg v76 0 599 := mm_add ev76 q7 q75 (by decide) (by decide)
              have tv76 := mm_addE ev76 q7 q75 (by decide)
              refine va_bald hx hb hK.1 hP 1 0 rfl rfl (mm_in rv76 (by decide)) dX7_isName_62 ?_
              refine lv_topi (fun v77 ev77 => ?_)
              have rv77 : mm_rg v77 (-128) 127 := mm_eqv ev77 (h1 _)
              refine lv_aload_n hx hb dX7_isName_63 rfl (lv_at hl 3 rfl) ?_
              refine lv_iload_n hx hb dX7_isName_64 rfl (lv_at hl 0 rfl) ?_
              refine mm_finir (va_runV (As := [.int x44_3_71]) (rest := [.int v77]) ⟨hx, hb, hml, hown, hts⟩ (K71_J0_charAt_5068e l G cy H.size x44_3_71 q75) (cwV 1 hts (mm_gV mm_w270 mm_w271 mm_w272 mm_w261 mm_w273) rfl rfl rfl hd_J0_charAt_5068e ⟨by rw [hRf]; exact Nat.le_of_ble_eq_true rfl, by rw [hRl]; exact Nat.le_of_ble_eq_true rfl⟩) (mm_preVS hK hZ hS hA hP hD [] rfl rfl 9 (by decide)) rfl rfl hl.1 rfl (lv_room (Nat.le_of_ble_eq_true rfl)) dX7_isName_65 ⟨by rw [hRc]; exact Nat.le_of_ble_eq_true rfl, by rw [hRs]; exact Nat.le_of_ble_eq_true rfl⟩) hP hD hS hA [] rfl (fun _ => rfl) ?_
              clear hP hD hS
              clear H locs
              intro v78 _u H locs hw hP hD hS
              have w79 := hw
              refine lv_icmp_eq (tgt := 73) hx hb dX7_isName_68 (by decide) (fun c80 => ?_) (fun c80 => ?_)
              · have q81 := mm_eqI (lo := 0) (hi := 127) c80 rv77 w79 (by decide)
                have q82 := mm_eqI (lo := 0) (hi := 127) c80.symm w79 rv77 (by decide)
                obtain ⟨v83, ev83⟩ : ∃ y : Int32, y = x44_3_71 + 1 := ⟨_, rfl⟩
                refine lv_iinc (v := v83) (lv' := [(3, .int v83), (2, .int 4), (0, .ref a_0), (1, .ref (cy 118))]) hx hb dX7_isName_73 hl (k := 0) rfl (by rw [ev83]; rfl) (by decide) rfl ?_
                clear hl
                clear ls
                intro ls hl
                have rv83 : mm_rg v83 1 4 := mm_add ev83 q75 mm_k1 (by decide) (by decide)
                have tv83 := mm_addEc ev83 q75 mm_k1 (by decide) (k := 1) (by decide)
                refine lv_goto (tgt := 44) hx hb dX7_isName_76 (by decide) ?_
                exact ih44 v83 (mm_wk rv83 (by decide)) (mm_mu hm44 tv83 (by decide) (rv83).2 (by decide)) H locs hP hD hS ls (lv_sub hl [0, 1, 2, 3] rfl)
              · refine lv_iconst (v := 0) hx hb dX7_isName_71 (by decide) ?_
                subst hAe
                rw [hQ]
                exact W.zret (v := 0) hx hb hr rfl (fun t ht hW => ⟨⟨0, (), rfl, (Or.inl rfl), by rw [ht]; exact hP, hK.warm hW, hD⟩, hS.F ht⟩) hS.2.2 dX7_isName_72
        exact L44_71 _ 0 (mm_wk mm_k0 (by decide)) (Nat.lt_succ_self _) H locs hP hD hS ls (lv_sub hl [0, 1, 2, 3] rfl)
      · have q84 := mm_ltL (h := 599) (mm_nle c9) h0 q8 (by decide)
        refine lv_iconst (v := 0) hx hb dX7_isName_40 (by decide) ?_
        subst hAe
        rw [hQ]
        exact W.zret (v := 0) hx hb hr rfl (fun t ht hW => ⟨⟨0, (), rfl, (Or.inl rfl), by rw [ht]; exact hP, hK.warm hW, hD⟩, hS.F ht⟩) hS.2.2 dX7_isName_41

set_option maxHeartbeats 4000000 in
set_option maxRecDepth 100000 in
theorem K73_J0_coder_7d493 (l : Launch) (G : va_G) (cy : Nat → ClassId) (sz : Nat)    : mm_CI l yJ0_coder_7d493 (mm_ws yJ0_coder_7d493 cJ0_coder_7d493 1 (some .byte)) ({ frames := 0, cells := 0, slots := 0, locals := 0 } : Room) G cy sz [] [.ref (cy 120)] (fun u : Unit => []) (fun (r : Int32) (u : Unit) => 0 = r) 0 0 := by
  refine mm_begin (lv := [(0, .ref (cy 120))]) (by decide) (Nat.le_of_ble_eq_true rfl) rfl ?_
  intro p e s m below meth c A ls R args Q H locs hRe hQ hAe hx hb hr hlocks hml hown hnm hts hsz hA hS hP hK hD hZ hl
  have hRf : R.frames = 0 := by rw [hRe]
  have hRl : R.locals = 0 := by rw [hRe]
  have hRc : R.cells = 0 := by rw [hRe]
  have hRs : R.slots = 0 := by rw [hRe]
  refine va_gets hx hb hZ.2.1 hS hown (mm_h hts mm_w268) (fun _ h9 => h9) dJ0_coder_7d493_0 ?_
  refine lv_if_eq (tgt := 13) hx hb dJ0_coder_7d493_3 (by decide) (fun c1 => ?_) (fun c1 => ?_)
  · exact mm_eqN c1.symm mm_k0 mm_k1 (by decide)
  · refine lv_aload_n hx hb dJ0_coder_7d493_6 rfl (lv_at hl 0 rfl) ?_
    refine vk_getf hx hb ((hZ.1.1 10 (by decide)).2.1) hS hown (mm_h hts mm_w269) (fun _ h9 => h9) dJ0_coder_7d493_7 ?_
    refine W.eq (g2 := F0 m 10 ls [.int 0]) rfl ?_
    refine lv_goto (tgt := 14) hx hb dJ0_coder_7d493_10 (by decide) ?_
    subst hAe
    rw [hQ]
    exact W.zret (v := 0) hx hb hr rfl (fun t ht hW => ⟨⟨0, (), rfl, rfl, by rw [ht]; exact hP, hK.warm hW, hD⟩, hS.F ht⟩) hS.2.2 dJ0_coder_7d493_14

set_option maxHeartbeats 4000000 in
set_option maxRecDepth 100000 in
theorem K74_J0_length_8abf5 (l : Launch) (G : va_G) (cy : Nat → ClassId) (sz : Nat)    : mm_CI l yJ0_length_8abf5 (mm_ws yJ0_length_8abf5 cJ0_length_8abf5 1 (some .int)) ({ frames := 1, cells := 0, slots := 0, locals := 20 } : Room) G cy sz [] [.ref (cy 120)] (fun u : Unit => []) (fun (r : Int32) (u : Unit) => 4 = r) 0 0 := by
  refine mm_begin (lv := [(0, .ref (cy 120))]) (by decide) (Nat.le_of_ble_eq_true rfl) rfl ?_
  intro p e s m below meth c A ls R args Q H locs hRe hQ hAe hx hb hr hlocks hml hown hnm hts hsz hA hS hP hK hD hZ hl
  have hRf : R.frames = 1 := by rw [hRe]
  have hRl : R.locals = 20 := by rw [hRe]
  have hRc : R.cells = 0 := by rw [hRe]
  have hRs : R.slots = 0 := by rw [hRe]
  refine lv_aload_n hx hb dJ0_length_8abf5_0 rfl (lv_at hl 0 rfl) ?_
  refine vk_getf hx hb ((hZ.1.1 10 (by decide)).2.2.1) hS hown (mm_h hts mm_w263) (fun _ h9 => h9) dJ0_length_8abf5_1 ?_
  refine W.eq (g2 := F0 m 4 ls [.ref (cy 121)]) rfl ?_
  refine va_tlen hx hb ((hZ.1.1 10 (by decide)).2.2.2) hS (v := 4) (by decide) dJ0_length_8abf5_4 ?_
  refine lv_aload_n hx hb dJ0_length_8abf5_5 rfl (lv_at hl 0 rfl) ?_
  refine mm_finir (va_runV (As := []) (rest := [.int 4]) ⟨hx, hb, hml, hown, hts⟩ (K73_J0_coder_7d493 l G cy H.size  ) (cwV 0 hts (mm_gV mm_w264 mm_w265 mm_w266 mm_w261 mm_w267) rfl rfl rfl hd_J0_coder_7d493 ⟨by rw [hRf]; exact Nat.le_of_ble_eq_true rfl, by rw [hRl]; exact Nat.le_of_ble_eq_true rfl⟩) (mm_preVS hK hZ hS hA hP hD [] rfl rfl 10 (by decide)) rfl rfl hl.1 rfl (lv_room (Nat.le_of_ble_eq_true rfl)) dJ0_length_8abf5_6 ⟨by rw [hRc]; exact Nat.le_of_ble_eq_true rfl, by rw [hRs]; exact Nat.le_of_ble_eq_true rfl⟩) hP hD hS hA [] rfl (fun _ => rfl) ?_
  clear hP hD hS
  clear H locs
  intro v1 _u H locs hw hP hD hS
  subst hw
  refine lv_ishr hx hb dJ0_length_8abf5_9 ?_
  refine lv_topi (fun v2 ev2 => ?_)
  obtain rfl : v2 = 4 := ev2.trans (by decide)
  subst hAe
  rw [hQ]
  exact W.iret (v := 4) hx hb hr (fun t ht hW => ⟨⟨4, (), rfl, rfl, by rw [ht]; exact hP, hK.warm hW, hD⟩, hS.F ht⟩) hS.2.2 dJ0_length_8abf5_10

set_option maxHeartbeats 4000000 in
set_option maxRecDepth 100000 in
theorem K75_J0_isLatin1_aae02 (l : Launch) (G : va_G) (cy : Nat → ClassId) (sz : Nat)    : mm_CI l yJ0_isLatin1_aae02 (mm_ws yJ0_isLatin1_aae02 cJ0_isLatin1_aae02 1 (some .boolean)) ({ frames := 0, cells := 0, slots := 0, locals := 0 } : Room) G cy sz [] [.ref (cy 120)] (fun u : Unit => []) (fun (r : Int32) (u : Unit) => 1 = r) 0 0 := by
  refine mm_begin (lv := [(0, .ref (cy 120))]) (by decide) (Nat.le_of_ble_eq_true rfl) rfl ?_
  intro p e s m below meth c A ls R args Q H locs hRe hQ hAe hx hb hr hlocks hml hown hnm hts hsz hA hS hP hK hD hZ hl
  have hRf : R.frames = 0 := by rw [hRe]
  have hRl : R.locals = 0 := by rw [hRe]
  have hRc : R.cells = 0 := by rw [hRe]
  have hRs : R.slots = 0 := by rw [hRe]
  refine va_gets hx hb hZ.2.1 hS hown (mm_h hts mm_w268) (fun _ h9 => h9) dJ0_isLatin1_aae02_0 ?_
  refine lv_if_eq (tgt := 17) hx hb dJ0_isLatin1_aae02_3 (by decide) (fun c1 => ?_) (fun c1 => ?_)
  · exact mm_eqN c1.symm mm_k0 mm_k1 (by decide)
  · refine lv_aload_n hx hb dJ0_isLatin1_aae02_6 rfl (lv_at hl 0 rfl) ?_
    refine vk_getf hx hb ((hZ.1.1 10 (by decide)).2.1) hS hown (mm_h hts mm_w269) (fun _ h9 => h9) dJ0_isLatin1_aae02_7 ?_
    refine W.eq (g2 := F0 m 10 ls [.int 0]) rfl ?_
    refine lv_if_ne (tgt := 17) hx hb dJ0_isLatin1_aae02_10 (by decide) (fun c2 => ?_) (fun c2 => ?_)
    · have q3 := mm_neL (lo := 1) (mm_ne c2) mm_k0 mm_k0 (by decide) (by decide)
      exact mm_no q3 (by decide)
    · refine lv_iconst (v := 1) hx hb dJ0_isLatin1_aae02_13 (by decide) ?_
      refine lv_goto (tgt := 18) hx hb dJ0_isLatin1_aae02_14 (by decide) ?_
      subst hAe
      rw [hQ]
      exact W.zret (v := 1) hx hb hr rfl (fun t ht hW => ⟨⟨1, (), rfl, rfl, by rw [ht]; exact hP, hK.warm hW, hD⟩, hS.F ht⟩) hS.2.2 dJ0_isLatin1_aae02_18

set_option maxHeartbeats 4000000 in
set_option maxRecDepth 100000 in
theorem K84_J1_charAt_3b067 (l : Launch) (G : va_G) (cy : Nat → ClassId) (sz : Nat) (i_0 : Int32) (h0 : mm_rg i_0 0 3)  : mm_CI l yJ1_charAt_3b067 (mm_ws yJ1_charAt_3b067 cJ1_charAt_3b067 2 (some .char)) ({ frames := 2, cells := 0, slots := 0, locals := 43 } : Room) G cy sz [] [.ref (cy 121), .int i_0] (fun u : Unit => []) (fun (r : Int32) (u : Unit) => mm_rg r 0 65535) 0 0 := by
  refine mm_begin (lv := [(0, .ref (cy 121)), (1, .int i_0)]) (by decide) (Nat.le_of_ble_eq_true rfl) rfl ?_
  intro p e s m below meth c A ls R args Q H locs hRe hQ hAe hx hb hr hlocks hml hown hnm hts hsz hA hS hP hK hD hZ hl
  have hRf : R.frames = 2 := by rw [hRe]
  have hRl : R.locals = 43 := by rw [hRe]
  have hRc : R.cells = 0 := by rw [hRe]
  have hRs : R.slots = 0 := by rw [hRe]
  refine lv_iload_n hx hb dJ1_charAt_3b067_0 rfl (lv_at hl 1 rfl) ?_
  refine lv_aload_n hx hb dJ1_charAt_3b067_1 rfl (lv_at hl 0 rfl) ?_
  refine va_tlen hx hb ((hZ.1.1 10 (by decide)).2.2.2) hS (v := 4) (by decide) dJ1_charAt_3b067_2 ?_
  refine mm_finvr (va_runS (As := [.int i_0, .int 4]) (rest := []) ⟨hx, hb, hml, hown, hts⟩ (K69_J0_checkIndex_df160 l G cy H.size i_0 h0) (va_cwS 2 hts (mm_gS mm_w282 mm_w283 mm_w261 mm_w284) rfl rfl rfl hs_J0_checkIndex_df160 ⟨by rw [hRf]; exact Nat.le_of_ble_eq_true rfl, by rw [hRl]; exact Nat.le_of_ble_eq_true rfl⟩) (mm_preS hK hZ hS hA hP hD [] rfl rfl) rfl rfl hl.1 rfl (lv_room (Nat.le_of_ble_eq_true rfl)) dJ1_charAt_3b067_3 ⟨by rw [hRc]; exact Nat.le_of_ble_eq_true rfl, by rw [hRs]; exact Nat.le_of_ble_eq_true rfl⟩) hP hD hS hA [] rfl (fun _ => rfl) ?_
  clear hP hD hS
  clear H locs
  intro _u H locs hw hP hD hS
  refine lv_aload_n hx hb dJ1_charAt_3b067_6 rfl (lv_at hl 0 rfl) ?_
  refine lv_iload_n hx hb dJ1_charAt_3b067_7 rfl (lv_at hl 1 rfl) ?_
  refine va_tb hx hb ((hZ.1.1 10 (by decide)).2.2.2) hS (mm_in h0 (by decide)) rfl dJ1_charAt_3b067_8 ?_
  refine lv_topi (fun v1 ev1 => ?_)
  refine lv_sipush (v := 255) hx hb dJ1_charAt_3b067_9 (by decide) ?_
  refine lv_iand hx hb dJ1_charAt_3b067_12 ?_
  refine lv_topi (fun v2 ev2 => ?_)
  have rv2 : mm_rg v2 0 255 := mm_andR ev2 mm_k255 (by decide)
  obtain ⟨v3, ev3⟩ : ∃ y : Int32, y = (v2.toUInt32 % 65536).toInt32 := ⟨_, rfl⟩
  refine lv_i2c hx hb dJ1_charAt_3b067_13 ev3.symm ?_
  have rv3 : mm_rg v3 0 65535 := mm_i2c ev3
  subst hAe
  rw [hQ]
  exact W.zret (v := v3) hx hb hr (mm_nch rv3) (fun t ht hW => ⟨⟨v3, (), rfl, rv3, by rw [ht]; exact hP, hK.warm hW, hD⟩, hS.F ht⟩) hS.2.2 dJ1_charAt_3b067_14

set_option maxHeartbeats 4000000 in
set_option maxRecDepth 100000 in
theorem K85_J0_charAt_5068e (l : Launch) (G : va_G) (cy : Nat → ClassId) (sz : Nat) (i_0 : Int32) (h0 : mm_rg i_0 0 3)  : mm_CI l yJ0_charAt_5068e (mm_ws yJ0_charAt_5068e cJ0_charAt_5068e 2 (some .char)) ({ frames := 3, cells := 0, slots := 0, locals := 64 } : Room) G cy sz [] [.ref (cy 120), .int i_0] (fun u : Unit => []) (fun (r : Int32) (u : Unit) => mm_rg r 0 65535) 0 0 := by
  refine mm_begin (lv := [(0, .ref (cy 120)), (1, .int i_0)]) (by decide) (Nat.le_of_ble_eq_true rfl) rfl ?_
  intro p e s m below meth c A ls R args Q H locs hRe hQ hAe hx hb hr hlocks hml hown hnm hts hsz hA hS hP hK hD hZ hl
  have hRf : R.frames = 3 := by rw [hRe]
  have hRl : R.locals = 64 := by rw [hRe]
  have hRc : R.cells = 0 := by rw [hRe]
  have hRs : R.slots = 0 := by rw [hRe]
  refine lv_aload_n hx hb dJ0_charAt_5068e_0 rfl (lv_at hl 0 rfl) ?_
  refine mm_finir (va_runV (As := []) (rest := []) ⟨hx, hb, hml, hown, hts⟩ (K75_J0_isLatin1_aae02 l G cy H.size  ) (cwV 0 hts (mm_gV mm_w274 mm_w275 mm_w276 mm_w261 mm_w277) rfl rfl rfl hd_J0_isLatin1_aae02 ⟨by rw [hRf]; exact Nat.le_of_ble_eq_true rfl, by rw [hRl]; exact Nat.le_of_ble_eq_true rfl⟩) (mm_preVS hK hZ hS hA hP hD [] rfl rfl 10 (by decide)) rfl rfl hl.1 rfl (lv_room (Nat.le_of_ble_eq_true rfl)) dJ0_charAt_5068e_1 ⟨by rw [hRc]; exact Nat.le_of_ble_eq_true rfl, by rw [hRs]; exact Nat.le_of_ble_eq_true rfl⟩) hP hD hS hA [] rfl (fun _ => rfl) ?_
  clear hP hD hS
  clear H locs
  intro v1 _u H locs hw hP hD hS
  subst hw
  refine lv_if_eq (tgt := 16) hx hb dJ0_charAt_5068e_4 (by decide) (fun c2 => ?_) (fun c2 => ?_)
  · exact mm_eqN c2.symm mm_k0 mm_k1 (by decide)
  · refine lv_aload_n hx hb dJ0_charAt_5068e_7 rfl (lv_at hl 0 rfl) ?_
    refine vk_getf hx hb ((hZ.1.1 10 (by decide)).2.2.1) hS hown (mm_h hts mm_w263) (fun _ h9 => h9) dJ0_charAt_5068e_8 ?_
    refine W.eq (g2 := F0 m 11 ls [.ref (cy 121)]) rfl ?_
    refine lv_iload_n hx hb dJ0_charAt_5068e_11 rfl (lv_at hl 1 rfl) ?_
    refine mm_finir (va_runS (As := [.ref (cy 121), .int i_0]) (rest := []) ⟨hx, hb, hml, hown, hts⟩ (K84_J1_charAt_3b067 l G cy H.size i_0 h0) (va_cwS 2 hts (mm_gS mm_w278 mm_w279 mm_w280 mm_w281) rfl rfl rfl hs_J1_charAt_3b067 ⟨by rw [hRf]; exact Nat.le_of_ble_eq_true rfl, by rw [hRl]; exact Nat.le_of_ble_eq_true rfl⟩) (mm_preS hK hZ hS hA hP hD [] rfl rfl) rfl rfl hl.1 rfl (lv_room (Nat.le_of_ble_eq_true rfl)) dJ0_charAt_5068e_12 ⟨by rw [hRc]; exact Nat.le_of_ble_eq_true rfl, by rw [hRs]; exact Nat.le_of_ble_eq_true rfl⟩) hP hD hS hA [] rfl (fun _ => rfl) ?_
    clear hP hD hS
    clear H locs
    intro v3 _u H locs hw hP hD hS
    have w4 := hw
    subst hAe
    rw [hQ]
    exact W.zret (v := v3) hx hb hr (mm_nch w4) (fun t ht hW => ⟨⟨v3, (), rfl, w4, by rw [ht]; exact hP, hK.warm hW, hD⟩, hS.F ht⟩) hS.2.2 dJ0_charAt_5068e_15

set_option maxHeartbeats 4000000 in
set_option maxRecDepth 100000 in
theorem K86_X7_isName (l : Launch) (G : va_G) (cy : Nat → ClassId) (sz : Nat) (a_0 : Nat) (a_1 : Nat) (a_2 : Nat) (i_0 : Int32) (f_0 : Nat → Int32) (a_3 : Nat) (i_1 : Int32) (i_2 : Int32) (i_3 : Int32) (i_4 : Int32) (i_5 : Int32) (i_6 : Int32) (h0 : mm_rg i_0 0 600) (h1 : mm_ar f_0 (-128) 127) (h2 : mm_rg i_3 0 5) (h3 : mm_rg i_4 0 600) (h4 : mm_rg i_5 0 600)  : mm_CI l yX7_isName (mm_ws yX7_isName cX7_isName 4 (some .boolean)) ({ frames := 4, cells := 0, slots := 0, locals := 85 } : Room) G cy sz [(a_1, .inr (9, [.ref a_2, .int i_0])), (a_2, .inl (cy 0, 600, .inl f_0)), (a_0, .inr (7, [.ref a_1, .ref a_3, .int i_1, .int i_2, .int i_3, .int i_4, .int i_5, .int i_6]))] [.ref a_0, .ref (cy 120)] (fun u : Unit => [(a_1, .inr (9, [.ref a_2, .int i_0])), (a_2, .inl (cy 0, 600, .inl f_0)), (a_0, .inr (7, [.ref a_1, .ref a_3, .int i_1, .int i_2, .int i_3, .int i_4, .int i_5, .int i_6]))]) (fun (r : Int32) (u : Unit) => ((0 = r) ∨ (1 = r))) 0 0 := by
  refine mm_begin (lv := [(0, .ref a_0), (1, .ref (cy 120))]) (by decide) (Nat.le_of_ble_eq_true rfl) rfl ?_
  intro p e s m below meth c A ls R args Q H locs hRe hQ hAe hx hb hr hlocks hml hown hnm hts hsz hA hS hP hK hD hZ hl
  have hRf : R.frames = 4 := by rw [hRe]
  have hRl : R.locals = 85 := by rw [hRe]
  have hRc : R.cells = 0 := by rw [hRe]
  have hRs : R.slots = 0 := by rw [hRe]
  refine lv_aload_n hx hb dX7_isName_0 rfl (lv_at hl 1 rfl) ?_
  refine mm_finir (va_runV (As := []) (rest := []) ⟨hx, hb, hml, hown, hts⟩ (K74_J0_length_8abf5 l G cy H.size  ) (cwV 0 hts (mm_gV mm_w258 mm_w259 mm_w260 mm_w261 mm_w262) rfl rfl rfl hd_J0_length_8abf5 ⟨by rw [hRf]; exact Nat.le_of_ble_eq_true rfl, by rw [hRl]; exact Nat.le_of_ble_eq_true rfl⟩) (mm_preVS hK hZ hS hA hP hD [] rfl rfl 10 (by decide)) rfl rfl hl.1 rfl (lv_room (Nat.le_of_ble_eq_true rfl)) dX7_isName_1 ⟨by rw [hRc]; exact Nat.le_of_ble_eq_true rfl, by rw [hRs]; exact Nat.le_of_ble_eq_true rfl⟩) hP hD hS hA [] rfl (fun _ => rfl) ?_
  clear hP hD hS
  clear H locs
  intro v1 _u H locs hw hP hD hS
  subst hw
  refine lv_istore_n (lv' := [(2, .int 4), (0, .ref a_0), (1, .ref (cy 120))]) hx hb dX7_isName_4 rfl hl (by decide) rfl ?_
  clear hl
  clear ls
  intro ls hl
  refine lv_aload_n hx hb dX7_isName_5 rfl (lv_at hl 1 rfl) ?_
  refine va_get (D := G) (ci := 7) (v := .int i_3) (C := RX7) (T := TX7) (N := 8) hx hb hts (mm_i inlX7) hown hK.1 hP 2 rfl rfl 4 (by decide) (mm_h hts mm_w207) (fun _ h9 => h9) rfl dX7_isName_6 ?_
  refine lv_iconst (v := 2) hx hb dX7_isName_9 (by decide) ?_
  refine lv_icmp_ne (tgt := 40) hx hb dX7_isName_10 (by decide) (fun c2 => ?_) (fun c2 => ?_)
  · refine lv_iconst (v := 0) hx hb dX7_isName_40 (by decide) ?_
    subst hAe
    rw [hQ]
    exact W.zret (v := 0) hx hb hr rfl (fun t ht hW => ⟨⟨0, (), rfl, (Or.inl rfl), by rw [ht]; exact hP, hK.warm hW, hD⟩, hS.F ht⟩) hS.2.2 dX7_isName_41
  · have q3 := mm_eqI (lo := 2) (hi := 2) c2 h2 mm_k2 (by decide)
    refine lv_aload_n hx hb dX7_isName_13 rfl (lv_at hl 1 rfl) ?_
    refine va_get (D := G) (ci := 7) (v := .int i_5) (C := RX7) (T := TX7) (N := 8) hx hb hts (mm_i inlX7) hown hK.1 hP 2 rfl rfl 6 (by decide) (mm_h hts mm_w206) (fun _ h9 => h9) rfl dX7_isName_14 ?_
    refine lv_aload_n hx hb dX7_isName_17 rfl (lv_at hl 1 rfl) ?_
    refine va_get (D := G) (ci := 7) (v := .int i_4) (C := RX7) (T := TX7) (N := 8) hx hb hts (mm_i inlX7) hown hK.1 hP 2 rfl rfl 5 (by decide) (mm_h hts mm_w232) (fun _ h9 => h9) rfl dX7_isName_18 ?_
    refine lv_isub hx hb dX7_isName_21 ?_
    refine lv_topi (fun v4 ev4 => ?_)
    have rv4 : mm_rg v4 (-600) 600 := mm_sub ev4 h4 h3 (by decide) (by decide)
    have tv4 := mm_subE ev4 h4 h3 (by decide)
    refine lv_iload_n hx hb dX7_isName_22 rfl (lv_at hl 0 rfl) ?_
    refine lv_icmp_ne (tgt := 40) hx hb dX7_isName_23 (by decide) (fun c5 => ?_) (fun c5 => ?_)
    · refine lv_iconst (v := 0) hx hb dX7_isName_40 (by decide) ?_
      subst hAe
      rw [hQ]
      exact W.zret (v := 0) hx hb hr rfl (fun t ht hW => ⟨⟨0, (), rfl, (Or.inl rfl), by rw [ht]; exact hP, hK.warm hW, hD⟩, hS.F ht⟩) hS.2.2 dX7_isName_41
    · have q6 := mm_eqI (lo := 4) (hi := 4) c5 rv4 mm_k4 (by decide)
      have q7 : mm_rg i_4 0 596 := mm_unsubY tv4 q6 h4 h3 (by decide)
      have q8 : mm_rg i_5 4 600 := mm_unsubX tv4 q6 q7 h4 (by decide)
      refine lv_aload_n hx hb dX7_isName_26 rfl (lv_at hl 1 rfl) ?_
      refine va_get (D := G) (ci := 7) (v := .int i_5) (C := RX7) (T := TX7) (N := 8) hx hb hts (mm_i inlX7) hown hK.1 hP 2 rfl rfl 6 (by decide) (mm_h hts mm_w206) (fun _ h9 => h9) rfl dX7_isName_27 ?_
      refine lv_aload_n hx hb dX7_isName_30 rfl (lv_at hl 1 rfl) ?_
      refine va_get (D := G) (ci := 7) (v := .ref a_1) (C := RX7) (T := TX7) (N := 8) hx hb hts (mm_i inlX7) hown hK.1 hP 2 rfl rfl 0 (by decide) (mm_h hts mm_w67) (fun _ h9 => h9) rfl dX7_isName_31 ?_
      refine va_get (D := G) (ci := 9) (v := .int i_0) (C := RX9) (T := TX9) (N := 2) hx hb hts (mm_i inlX9) hown hK.1 hP 0 rfl rfl 1 (by decide) (mm_h hts mm_w231) (fun _ h9 => h9) rfl dX7_isName_34 ?_
      refine lv_icmp_le (tgt := 42) hx hb dX7_isName_37 (by decide) (fun c9 => ?_) (fun c9 => ?_)
      · have q10 := mm_leR (mm_le c9) q8 h0
        refine lv_iconst (v := 0) hx hb dX7_isName_42 (by decide) ?_
        refine lv_istore_n (lv' := [(3, .int 0), (2, .int 4), (0, .ref a_0), (1, .ref (cy 120))]) hx hb dX7_isName_43 rfl hl (by decide) rfl ?_
        clear hl
        clear ls
        intro ls hl
        have L44_71 : ∀ (n : Nat) (x44_3_71 : Int32), mm_rg x44_3_71 0 4 → (4 - x44_3_71.toInt).toNat < n → ∀ (H : Heap) (locs : List Loc), va_P G vwCl [(a_1, .inr (9, [.ref a_2, .int i_0])), (a_2, .inl (cy 0, 600, .inl f_0)), (a_0, .inr (7, [.ref a_1, .ref a_3, .int i_1, .int i_2, .int i_3, .int i_4, .int i_5, .int i_6]))] H → va_D A [(a_1, .inr (9, [.ref a_2, .int i_0])), (a_2, .inl (cy 0, 600, .inl f_0)), (a_0, .inr (7, [.ref a_1, .ref a_3, .int i_1, .int i_2, .int i_3, .int i_4, .int i_5, .int i_6]))] → va_S A s.heap H locs → ∀ (ls : Array Slot), lv_has ls 4 [(3, .int x44_3_71), (2, .int 4), (0, .ref a_0), (1, .ref (cy 120))] → W p l e R s m args below meth c H locs 0 0 Q (F0 m 44 ls []) := by
          intro n
          induction n with
          | zero => intro x44_3_71 rx44_3_71 hm; exact absurd hm (Nat.not_lt_zero _)
          | succ n ih44 =>
            intro x44_3_71 rx44_3_71 hm44 H locs hP hD hS ls hl
            refine lv_iload_n hx hb dX7_isName_44 rfl (lv_at hl 0 rfl) ?_
            refine lv_iload_n hx hb dX7_isName_45 rfl (lv_at hl 1 rfl) ?_
            refine lv_icmp_ge (tgt := 79) hx hb dX7_isName_46 (by decide) (fun c73 => ?_) (fun c73 => ?_)
            · have q74 := mm_leR (mm_le c73) mm_k4 rx44_3_71
              refine lv_iconst (v := 1) hx hb dX7_isName_79 (by decide) ?_
              subst hAe
              rw [hQ]
              exact W.zret (v := 1) hx hb hr rfl (fun t ht hW => ⟨⟨1, (), rfl, (Or.inr rfl), by rw [ht]; exact hP, hK.warm hW, hD⟩, hS.F ht⟩) hS.2.2 dX7_isName_80
            · have q75 := mm_ltL (h := 3) (mm_nle c73) rx44_3_71 mm_k4 (by decide)
              refine lv_aload_n hx hb dX7_isName_49 rfl (lv_at hl 2 rfl) ?_
              refine va_get (D := G) (ci := 7) (v := .ref a_1) (C := RX7) (T := TX7) (N := 8) hx hb hts (mm_i inlX7) hown hK.1 hP 2 rfl rfl 0 (by decide) (mm_h hts mm_w67) (fun _ h9 => h9) rfl dX7_isName_50 ?_
              refine va_get (D := G) (ci := 9) (v := .ref a_2) (C := RX9) (T := TX9) (N := 2) hx hb hts (mm_i inlX9) hown hK.1 hP 0 rfl rfl 0 (by decide) (mm_h hts mm_w238) (fun _ h9 => h9) rfl dX7_isName_53 ?_
              refine lv_aload_n hx hb dX7_isName_56 rfl (lv_at hl 2 rfl) ?_
              refine va_get (D := G) (ci := 7) (v := .int i_4) (C := RX7) (T := TX7) (N := 8) hx hb hts (mm_i inlX7) hown hK.1 hP 2 rfl rfl 5 (by decide) (mm_h hts mm_w232) (fun _ h9 => h9) rfl dX7_isName_57 ?_
              refine lv_iload_n hx hb dX7_isName_60 rfl (lv_at hl 0 rfl) ?_
              refine lv_iadd hx hb dX7_isName_61 ?_
              refine lv_topi (fun v76 ev76 => ?_)
              have rv76 : mm_rg v76 0 599 := mm_add ev76 q7 q75 (by decide) (by decide)
              have tv76 := mm_addE ev76 q7 q75 (by decide)
              refine va_bald hx hb hK.1 hP 1 0 rfl rfl (mm_in rv76 (by decide)) dX7_isName_62 ?_
              refine lv_topi (fun v77 ev77 => ?_)
              have rv77 : mm_rg v77 (-128) 127 := mm_eqv ev77 (h1 _)
              refine lv_aload_n hx hb dX7_isName_63 rfl (lv_at hl 3 rfl) ?_
              refine lv_iload_n hx hb dX7_isName_64 rfl (lv_at hl 0 rfl) ?_
              refine mm_finir (va_runV (As := [.int x44_3_71]) (rest := [.int v77]) ⟨hx, hb, hml, hown, hts⟩ (K85_J0_charAt_5068e l G cy H.size x44_3_71 q75) (cwV 1 hts (mm_gV mm_w270 mm_w271 mm_w272 mm_w261 mm_w273) rfl rfl rfl hd_J0_charAt_5068e ⟨by rw [hRf]; exact Nat.le_of_ble_eq_true rfl, by rw [hRl]; exact Nat.le_of_ble_eq_true rfl⟩) (mm_preVS hK hZ hS hA hP hD [] rfl rfl 10 (by decide)) rfl rfl hl.1 rfl (lv_room (Nat.le_of_ble_eq_true rfl)) dX7_isName_65 ⟨by rw [hRc]; exact Nat.le_of_ble_eq_true rfl, by rw [hRs]; exact Nat.le_of_ble_eq_true rfl⟩) hP hD hS hA [] rfl (fun _ => rfl) ?_
              clear hP hD hS
              clear H locs
              intro v78 _u H locs hw hP hD hS
              have w79 := hw
              refine lv_icmp_eq (tgt := 73) hx hb dX7_isName_68 (by decide) (fun c80 => ?_) (fun c80 => ?_)
              · have q81 := mm_eqI (lo := 0) (hi := 127) c80 rv77 w79 (by decide)
                have q82 := mm_eqI (lo := 0) (hi := 127) c80.symm w79 rv77 (by decide)
                obtain ⟨v83, ev83⟩ : ∃ y : Int32, y = x44_3_71 + 1 := ⟨_, rfl⟩
                refine lv_iinc (v := v83) (lv' := [(3, .int v83), (2, .int 4), (0, .ref a_0), (1, .ref (cy 120))]) hx hb dX7_isName_73 hl (k := 0) rfl (by rw [ev83]; rfl) (by decide) rfl ?_
                clear hl
                clear ls
                intro ls hl
                have rv83 : mm_rg v83 1 4 := mm_add ev83 q75 mm_k1 (by decide) (by decide)
                have tv83 := mm_addEc ev83 q75 mm_k1 (by decide) (k := 1) (by decide)
                refine lv_goto (tgt := 44) hx hb dX7_isName_76 (by decide) ?_
                exact ih44 v83 (mm_wk rv83 (by decide)) (mm_mu hm44 tv83 (by decide) (rv83).2 (by decide)) H locs hP hD hS ls (lv_sub hl [0, 1, 2, 3] rfl)
              · refine lv_iconst (v := 0) hx hb dX7_isName_71 (by decide) ?_
                subst hAe
                rw [hQ]
                exact W.zret (v := 0) hx hb hr rfl (fun t ht hW => ⟨⟨0, (), rfl, (Or.inl rfl), by rw [ht]; exact hP, hK.warm hW, hD⟩, hS.F ht⟩) hS.2.2 dX7_isName_72
        exact L44_71 _ 0 (mm_wk mm_k0 (by decide)) (Nat.lt_succ_self _) H locs hP hD hS ls (lv_sub hl [0, 1, 2, 3] rfl)
      · have q84 := mm_ltL (h := 599) (mm_nle c9) h0 q8 (by decide)
        refine lv_iconst (v := 0) hx hb dX7_isName_40 (by decide) ?_
        subst hAe
        rw [hQ]
        exact W.zret (v := 0) hx hb hr rfl (fun t ht hW => ⟨⟨0, (), rfl, (Or.inl rfl), by rw [ht]; exact hP, hK.warm hW, hD⟩, hS.F ht⟩) hS.2.2 dX7_isName_41

set_option maxHeartbeats 4000000 in
set_option maxRecDepth 100000 in
theorem K87_J0_coder_7d493 (l : Launch) (G : va_G) (cy : Nat → ClassId) (sz : Nat)    : mm_CI l yJ0_coder_7d493 (mm_ws yJ0_coder_7d493 cJ0_coder_7d493 1 (some .byte)) ({ frames := 0, cells := 0, slots := 0, locals := 0 } : Room) G cy sz [] [.ref (cy 130)] (fun u : Unit => []) (fun (r : Int32) (u : Unit) => 0 = r) 0 0 := by
  refine mm_begin (lv := [(0, .ref (cy 130))]) (by decide) (Nat.le_of_ble_eq_true rfl) rfl ?_
  intro p e s m below meth c A ls R args Q H locs hRe hQ hAe hx hb hr hlocks hml hown hnm hts hsz hA hS hP hK hD hZ hl
  have hRf : R.frames = 0 := by rw [hRe]
  have hRl : R.locals = 0 := by rw [hRe]
  have hRc : R.cells = 0 := by rw [hRe]
  have hRs : R.slots = 0 := by rw [hRe]
  refine va_gets hx hb hZ.2.1 hS hown (mm_h hts mm_w268) (fun _ h9 => h9) dJ0_coder_7d493_0 ?_
  refine lv_if_eq (tgt := 13) hx hb dJ0_coder_7d493_3 (by decide) (fun c1 => ?_) (fun c1 => ?_)
  · exact mm_eqN c1.symm mm_k0 mm_k1 (by decide)
  · refine lv_aload_n hx hb dJ0_coder_7d493_6 rfl (lv_at hl 0 rfl) ?_
    refine vk_getf hx hb ((hZ.1.1 15 (by decide)).2.1) hS hown (mm_h hts mm_w269) (fun _ h9 => h9) dJ0_coder_7d493_7 ?_
    refine W.eq (g2 := F0 m 10 ls [.int 0]) rfl ?_
    refine lv_goto (tgt := 14) hx hb dJ0_coder_7d493_10 (by decide) ?_
    subst hAe
    rw [hQ]
    exact W.zret (v := 0) hx hb hr rfl (fun t ht hW => ⟨⟨0, (), rfl, rfl, by rw [ht]; exact hP, hK.warm hW, hD⟩, hS.F ht⟩) hS.2.2 dJ0_coder_7d493_14

set_option maxHeartbeats 4000000 in
set_option maxRecDepth 100000 in
theorem K88_J0_length_8abf5 (l : Launch) (G : va_G) (cy : Nat → ClassId) (sz : Nat)    : mm_CI l yJ0_length_8abf5 (mm_ws yJ0_length_8abf5 cJ0_length_8abf5 1 (some .int)) ({ frames := 1, cells := 0, slots := 0, locals := 20 } : Room) G cy sz [] [.ref (cy 130)] (fun u : Unit => []) (fun (r : Int32) (u : Unit) => 4 = r) 0 0 := by
  refine mm_begin (lv := [(0, .ref (cy 130))]) (by decide) (Nat.le_of_ble_eq_true rfl) rfl ?_
  intro p e s m below meth c A ls R args Q H locs hRe hQ hAe hx hb hr hlocks hml hown hnm hts hsz hA hS hP hK hD hZ hl
  have hRf : R.frames = 1 := by rw [hRe]
  have hRl : R.locals = 20 := by rw [hRe]
  have hRc : R.cells = 0 := by rw [hRe]
  have hRs : R.slots = 0 := by rw [hRe]
  refine lv_aload_n hx hb dJ0_length_8abf5_0 rfl (lv_at hl 0 rfl) ?_
  refine vk_getf hx hb ((hZ.1.1 15 (by decide)).2.2.1) hS hown (mm_h hts mm_w263) (fun _ h9 => h9) dJ0_length_8abf5_1 ?_
  refine W.eq (g2 := F0 m 4 ls [.ref (cy 131)]) rfl ?_
  refine va_tlen hx hb ((hZ.1.1 15 (by decide)).2.2.2) hS (v := 4) (by decide) dJ0_length_8abf5_4 ?_
  refine lv_aload_n hx hb dJ0_length_8abf5_5 rfl (lv_at hl 0 rfl) ?_
  refine mm_finir (va_runV (As := []) (rest := [.int 4]) ⟨hx, hb, hml, hown, hts⟩ (K87_J0_coder_7d493 l G cy H.size  ) (cwV 0 hts (mm_gV mm_w264 mm_w265 mm_w266 mm_w261 mm_w267) rfl rfl rfl hd_J0_coder_7d493 ⟨by rw [hRf]; exact Nat.le_of_ble_eq_true rfl, by rw [hRl]; exact Nat.le_of_ble_eq_true rfl⟩) (mm_preVS hK hZ hS hA hP hD [] rfl rfl 15 (by decide)) rfl rfl hl.1 rfl (lv_room (Nat.le_of_ble_eq_true rfl)) dJ0_length_8abf5_6 ⟨by rw [hRc]; exact Nat.le_of_ble_eq_true rfl, by rw [hRs]; exact Nat.le_of_ble_eq_true rfl⟩) hP hD hS hA [] rfl (fun _ => rfl) ?_
  clear hP hD hS
  clear H locs
  intro v1 _u H locs hw hP hD hS
  subst hw
  refine lv_ishr hx hb dJ0_length_8abf5_9 ?_
  refine lv_topi (fun v2 ev2 => ?_)
  obtain rfl : v2 = 4 := ev2.trans (by decide)
  subst hAe
  rw [hQ]
  exact W.iret (v := 4) hx hb hr (fun t ht hW => ⟨⟨4, (), rfl, rfl, by rw [ht]; exact hP, hK.warm hW, hD⟩, hS.F ht⟩) hS.2.2 dJ0_length_8abf5_10

set_option maxHeartbeats 4000000 in
set_option maxRecDepth 100000 in
theorem K89_J0_isLatin1_aae02 (l : Launch) (G : va_G) (cy : Nat → ClassId) (sz : Nat)    : mm_CI l yJ0_isLatin1_aae02 (mm_ws yJ0_isLatin1_aae02 cJ0_isLatin1_aae02 1 (some .boolean)) ({ frames := 0, cells := 0, slots := 0, locals := 0 } : Room) G cy sz [] [.ref (cy 130)] (fun u : Unit => []) (fun (r : Int32) (u : Unit) => 1 = r) 0 0 := by
  refine mm_begin (lv := [(0, .ref (cy 130))]) (by decide) (Nat.le_of_ble_eq_true rfl) rfl ?_
  intro p e s m below meth c A ls R args Q H locs hRe hQ hAe hx hb hr hlocks hml hown hnm hts hsz hA hS hP hK hD hZ hl
  have hRf : R.frames = 0 := by rw [hRe]
  have hRl : R.locals = 0 := by rw [hRe]
  have hRc : R.cells = 0 := by rw [hRe]
  have hRs : R.slots = 0 := by rw [hRe]
  refine va_gets hx hb hZ.2.1 hS hown (mm_h hts mm_w268) (fun _ h9 => h9) dJ0_isLatin1_aae02_0 ?_
  refine lv_if_eq (tgt := 17) hx hb dJ0_isLatin1_aae02_3 (by decide) (fun c1 => ?_) (fun c1 => ?_)
  · exact mm_eqN c1.symm mm_k0 mm_k1 (by decide)
  · refine lv_aload_n hx hb dJ0_isLatin1_aae02_6 rfl (lv_at hl 0 rfl) ?_
    refine vk_getf hx hb ((hZ.1.1 15 (by decide)).2.1) hS hown (mm_h hts mm_w269) (fun _ h9 => h9) dJ0_isLatin1_aae02_7 ?_
    refine W.eq (g2 := F0 m 10 ls [.int 0]) rfl ?_
    refine lv_if_ne (tgt := 17) hx hb dJ0_isLatin1_aae02_10 (by decide) (fun c2 => ?_) (fun c2 => ?_)
    · have q3 := mm_neL (lo := 1) (mm_ne c2) mm_k0 mm_k0 (by decide) (by decide)
      exact mm_no q3 (by decide)
    · refine lv_iconst (v := 1) hx hb dJ0_isLatin1_aae02_13 (by decide) ?_
      refine lv_goto (tgt := 18) hx hb dJ0_isLatin1_aae02_14 (by decide) ?_
      subst hAe
      rw [hQ]
      exact W.zret (v := 1) hx hb hr rfl (fun t ht hW => ⟨⟨1, (), rfl, rfl, by rw [ht]; exact hP, hK.warm hW, hD⟩, hS.F ht⟩) hS.2.2 dJ0_isLatin1_aae02_18

set_option maxHeartbeats 4000000 in
set_option maxRecDepth 100000 in
theorem K98_J1_charAt_3b067 (l : Launch) (G : va_G) (cy : Nat → ClassId) (sz : Nat) (i_0 : Int32) (h0 : mm_rg i_0 0 3)  : mm_CI l yJ1_charAt_3b067 (mm_ws yJ1_charAt_3b067 cJ1_charAt_3b067 2 (some .char)) ({ frames := 2, cells := 0, slots := 0, locals := 43 } : Room) G cy sz [] [.ref (cy 131), .int i_0] (fun u : Unit => []) (fun (r : Int32) (u : Unit) => mm_rg r 0 65535) 0 0 := by
  refine mm_begin (lv := [(0, .ref (cy 131)), (1, .int i_0)]) (by decide) (Nat.le_of_ble_eq_true rfl) rfl ?_
  intro p e s m below meth c A ls R args Q H locs hRe hQ hAe hx hb hr hlocks hml hown hnm hts hsz hA hS hP hK hD hZ hl
  have hRf : R.frames = 2 := by rw [hRe]
  have hRl : R.locals = 43 := by rw [hRe]
  have hRc : R.cells = 0 := by rw [hRe]
  have hRs : R.slots = 0 := by rw [hRe]
  refine lv_iload_n hx hb dJ1_charAt_3b067_0 rfl (lv_at hl 1 rfl) ?_
  refine lv_aload_n hx hb dJ1_charAt_3b067_1 rfl (lv_at hl 0 rfl) ?_
  refine va_tlen hx hb ((hZ.1.1 15 (by decide)).2.2.2) hS (v := 4) (by decide) dJ1_charAt_3b067_2 ?_
  refine mm_finvr (va_runS (As := [.int i_0, .int 4]) (rest := []) ⟨hx, hb, hml, hown, hts⟩ (K69_J0_checkIndex_df160 l G cy H.size i_0 h0) (va_cwS 2 hts (mm_gS mm_w282 mm_w283 mm_w261 mm_w284) rfl rfl rfl hs_J0_checkIndex_df160 ⟨by rw [hRf]; exact Nat.le_of_ble_eq_true rfl, by rw [hRl]; exact Nat.le_of_ble_eq_true rfl⟩) (mm_preS hK hZ hS hA hP hD [] rfl rfl) rfl rfl hl.1 rfl (lv_room (Nat.le_of_ble_eq_true rfl)) dJ1_charAt_3b067_3 ⟨by rw [hRc]; exact Nat.le_of_ble_eq_true rfl, by rw [hRs]; exact Nat.le_of_ble_eq_true rfl⟩) hP hD hS hA [] rfl (fun _ => rfl) ?_
  clear hP hD hS
  clear H locs
  intro _u H locs hw hP hD hS
  refine lv_aload_n hx hb dJ1_charAt_3b067_6 rfl (lv_at hl 0 rfl) ?_
  refine lv_iload_n hx hb dJ1_charAt_3b067_7 rfl (lv_at hl 1 rfl) ?_
  refine va_tb hx hb ((hZ.1.1 15 (by decide)).2.2.2) hS (mm_in h0 (by decide)) rfl dJ1_charAt_3b067_8 ?_
  refine lv_topi (fun v1 ev1 => ?_)
  refine lv_sipush (v := 255) hx hb dJ1_charAt_3b067_9 (by decide) ?_
  refine lv_iand hx hb dJ1_charAt_3b067_12 ?_
  refine lv_topi (fun v2 ev2 => ?_)
  have rv2 : mm_rg v2 0 255 := mm_andR ev2 mm_k255 (by decide)
  obtain ⟨v3, ev3⟩ : ∃ y : Int32, y = (v2.toUInt32 % 65536).toInt32 := ⟨_, rfl⟩
  refine lv_i2c hx hb dJ1_charAt_3b067_13 ev3.symm ?_
  have rv3 : mm_rg v3 0 65535 := mm_i2c ev3
  subst hAe
  rw [hQ]
  exact W.zret (v := v3) hx hb hr (mm_nch rv3) (fun t ht hW => ⟨⟨v3, (), rfl, rv3, by rw [ht]; exact hP, hK.warm hW, hD⟩, hS.F ht⟩) hS.2.2 dJ1_charAt_3b067_14

set_option maxHeartbeats 4000000 in
set_option maxRecDepth 100000 in
theorem K99_J0_charAt_5068e (l : Launch) (G : va_G) (cy : Nat → ClassId) (sz : Nat) (i_0 : Int32) (h0 : mm_rg i_0 0 3)  : mm_CI l yJ0_charAt_5068e (mm_ws yJ0_charAt_5068e cJ0_charAt_5068e 2 (some .char)) ({ frames := 3, cells := 0, slots := 0, locals := 64 } : Room) G cy sz [] [.ref (cy 130), .int i_0] (fun u : Unit => []) (fun (r : Int32) (u : Unit) => mm_rg r 0 65535) 0 0 := by
  refine mm_begin (lv := [(0, .ref (cy 130)), (1, .int i_0)]) (by decide) (Nat.le_of_ble_eq_true rfl) rfl ?_
  intro p e s m below meth c A ls R args Q H locs hRe hQ hAe hx hb hr hlocks hml hown hnm hts hsz hA hS hP hK hD hZ hl
  have hRf : R.frames = 3 := by rw [hRe]
  have hRl : R.locals = 64 := by rw [hRe]
  have hRc : R.cells = 0 := by rw [hRe]
  have hRs : R.slots = 0 := by rw [hRe]
  refine lv_aload_n hx hb dJ0_charAt_5068e_0 rfl (lv_at hl 0 rfl) ?_
  refine mm_finir (va_runV (As := []) (rest := []) ⟨hx, hb, hml, hown, hts⟩ (K89_J0_isLatin1_aae02 l G cy H.size  ) (cwV 0 hts (mm_gV mm_w274 mm_w275 mm_w276 mm_w261 mm_w277) rfl rfl rfl hd_J0_isLatin1_aae02 ⟨by rw [hRf]; exact Nat.le_of_ble_eq_true rfl, by rw [hRl]; exact Nat.le_of_ble_eq_true rfl⟩) (mm_preVS hK hZ hS hA hP hD [] rfl rfl 15 (by decide)) rfl rfl hl.1 rfl (lv_room (Nat.le_of_ble_eq_true rfl)) dJ0_charAt_5068e_1 ⟨by rw [hRc]; exact Nat.le_of_ble_eq_true rfl, by rw [hRs]; exact Nat.le_of_ble_eq_true rfl⟩) hP hD hS hA [] rfl (fun _ => rfl) ?_
  clear hP hD hS
  clear H locs
  intro v1 _u H locs hw hP hD hS
  subst hw
  refine lv_if_eq (tgt := 16) hx hb dJ0_charAt_5068e_4 (by decide) (fun c2 => ?_) (fun c2 => ?_)
  · exact mm_eqN c2.symm mm_k0 mm_k1 (by decide)
  · refine lv_aload_n hx hb dJ0_charAt_5068e_7 rfl (lv_at hl 0 rfl) ?_
    refine vk_getf hx hb ((hZ.1.1 15 (by decide)).2.2.1) hS hown (mm_h hts mm_w263) (fun _ h9 => h9) dJ0_charAt_5068e_8 ?_
    refine W.eq (g2 := F0 m 11 ls [.ref (cy 131)]) rfl ?_
    refine lv_iload_n hx hb dJ0_charAt_5068e_11 rfl (lv_at hl 1 rfl) ?_
    refine mm_finir (va_runS (As := [.ref (cy 131), .int i_0]) (rest := []) ⟨hx, hb, hml, hown, hts⟩ (K98_J1_charAt_3b067 l G cy H.size i_0 h0) (va_cwS 2 hts (mm_gS mm_w278 mm_w279 mm_w280 mm_w281) rfl rfl rfl hs_J1_charAt_3b067 ⟨by rw [hRf]; exact Nat.le_of_ble_eq_true rfl, by rw [hRl]; exact Nat.le_of_ble_eq_true rfl⟩) (mm_preS hK hZ hS hA hP hD [] rfl rfl) rfl rfl hl.1 rfl (lv_room (Nat.le_of_ble_eq_true rfl)) dJ0_charAt_5068e_12 ⟨by rw [hRc]; exact Nat.le_of_ble_eq_true rfl, by rw [hRs]; exact Nat.le_of_ble_eq_true rfl⟩) hP hD hS hA [] rfl (fun _ => rfl) ?_
    clear hP hD hS
    clear H locs
    intro v3 _u H locs hw hP hD hS
    have w4 := hw
    subst hAe
    rw [hQ]
    exact W.zret (v := v3) hx hb hr (mm_nch w4) (fun t ht hW => ⟨⟨v3, (), rfl, w4, by rw [ht]; exact hP, hK.warm hW, hD⟩, hS.F ht⟩) hS.2.2 dJ0_charAt_5068e_15

set_option maxHeartbeats 4000000 in
set_option maxRecDepth 100000 in
theorem K100_X7_isName (l : Launch) (G : va_G) (cy : Nat → ClassId) (sz : Nat) (a_0 : Nat) (a_1 : Nat) (a_2 : Nat) (i_0 : Int32) (f_0 : Nat → Int32) (a_3 : Nat) (i_1 : Int32) (i_2 : Int32) (i_3 : Int32) (i_4 : Int32) (i_5 : Int32) (i_6 : Int32) (h0 : mm_rg i_0 0 600) (h1 : mm_ar f_0 (-128) 127) (h2 : mm_rg i_3 0 5) (h3 : mm_rg i_4 0 600) (h4 : mm_rg i_5 0 600)  : mm_CI l yX7_isName (mm_ws yX7_isName cX7_isName 4 (some .boolean)) ({ frames := 4, cells := 0, slots := 0, locals := 85 } : Room) G cy sz [(a_1, .inr (9, [.ref a_2, .int i_0])), (a_2, .inl (cy 0, 600, .inl f_0)), (a_0, .inr (7, [.ref a_1, .ref a_3, .int i_1, .int i_2, .int i_3, .int i_4, .int i_5, .int i_6]))] [.ref a_0, .ref (cy 130)] (fun u : Unit => [(a_1, .inr (9, [.ref a_2, .int i_0])), (a_2, .inl (cy 0, 600, .inl f_0)), (a_0, .inr (7, [.ref a_1, .ref a_3, .int i_1, .int i_2, .int i_3, .int i_4, .int i_5, .int i_6]))]) (fun (r : Int32) (u : Unit) => ((0 = r) ∨ (1 = r))) 0 0 := by
  refine mm_begin (lv := [(0, .ref a_0), (1, .ref (cy 130))]) (by decide) (Nat.le_of_ble_eq_true rfl) rfl ?_
  intro p e s m below meth c A ls R args Q H locs hRe hQ hAe hx hb hr hlocks hml hown hnm hts hsz hA hS hP hK hD hZ hl
  have hRf : R.frames = 4 := by rw [hRe]
  have hRl : R.locals = 85 := by rw [hRe]
  have hRc : R.cells = 0 := by rw [hRe]
  have hRs : R.slots = 0 := by rw [hRe]
  refine lv_aload_n hx hb dX7_isName_0 rfl (lv_at hl 1 rfl) ?_
  refine mm_finir (va_runV (As := []) (rest := []) ⟨hx, hb, hml, hown, hts⟩ (K88_J0_length_8abf5 l G cy H.size  ) (cwV 0 hts (mm_gV mm_w258 mm_w259 mm_w260 mm_w261 mm_w262) rfl rfl rfl hd_J0_length_8abf5 ⟨by rw [hRf]; exact Nat.le_of_ble_eq_true rfl, by rw [hRl]; exact Nat.le_of_ble_eq_true rfl⟩) (mm_preVS hK hZ hS hA hP hD [] rfl rfl 15 (by decide)) rfl rfl hl.1 rfl (lv_room (Nat.le_of_ble_eq_true rfl)) dX7_isName_1 ⟨by rw [hRc]; exact Nat.le_of_ble_eq_true rfl, by rw [hRs]; exact Nat.le_of_ble_eq_true rfl⟩) hP hD hS hA [] rfl (fun _ => rfl) ?_
  clear hP hD hS
  clear H locs
  intro v1 _u H locs hw hP hD hS
  subst hw
  refine lv_istore_n (lv' := [(2, .int 4), (0, .ref a_0), (1, .ref (cy 130))]) hx hb dX7_isName_4 rfl hl (by decide) rfl ?_
  clear hl
  clear ls
  intro ls hl
  refine lv_aload_n hx hb dX7_isName_5 rfl (lv_at hl 1 rfl) ?_
  refine va_get (D := G) (ci := 7) (v := .int i_3) (C := RX7) (T := TX7) (N := 8) hx hb hts (mm_i inlX7) hown hK.1 hP 2 rfl rfl 4 (by decide) (mm_h hts mm_w207) (fun _ h9 => h9) rfl dX7_isName_6 ?_
  refine lv_iconst (v := 2) hx hb dX7_isName_9 (by decide) ?_
  refine lv_icmp_ne (tgt := 40) hx hb dX7_isName_10 (by decide) (fun c2 => ?_) (fun c2 => ?_)
  · refine lv_iconst (v := 0) hx hb dX7_isName_40 (by decide) ?_
    subst hAe
    rw [hQ]
    exact W.zret (v := 0) hx hb hr rfl (fun t ht hW => ⟨⟨0, (), rfl, (Or.inl rfl), by rw [ht]; exact hP, hK.warm hW, hD⟩, hS.F ht⟩) hS.2.2 dX7_isName_41
  · have q3 := mm_eqI (lo := 2) (hi := 2) c2 h2 mm_k2 (by decide)
    refine lv_aload_n hx hb dX7_isName_13 rfl (lv_at hl 1 rfl) ?_
    refine va_get (D := G) (ci := 7) (v := .int i_5) (C := RX7) (T := TX7) (N := 8) hx hb hts (mm_i inlX7) hown hK.1 hP 2 rfl rfl 6 (by decide) (mm_h hts mm_w206) (fun _ h9 => h9) rfl dX7_isName_14 ?_
    refine lv_aload_n hx hb dX7_isName_17 rfl (lv_at hl 1 rfl) ?_
    refine va_get (D := G) (ci := 7) (v := .int i_4) (C := RX7) (T := TX7) (N := 8) hx hb hts (mm_i inlX7) hown hK.1 hP 2 rfl rfl 5 (by decide) (mm_h hts mm_w232) (fun _ h9 => h9) rfl dX7_isName_18 ?_
    refine lv_isub hx hb dX7_isName_21 ?_
    refine lv_topi (fun v4 ev4 => ?_)
    have rv4 : mm_rg v4 (-600) 600 := mm_sub ev4 h4 h3 (by decide) (by decide)
    have tv4 := mm_subE ev4 h4 h3 (by decide)
    refine lv_iload_n hx hb dX7_isName_22 rfl (lv_at hl 0 rfl) ?_
    refine lv_icmp_ne (tgt := 40) hx hb dX7_isName_23 (by decide) (fun c5 => ?_) (fun c5 => ?_)
    · refine lv_iconst (v := 0) hx hb dX7_isName_40 (by decide) ?_
      subst hAe
      rw [hQ]
      exact W.zret (v := 0) hx hb hr rfl (fun t ht hW => ⟨⟨0, (), rfl, (Or.inl rfl), by rw [ht]; exact hP, hK.warm hW, hD⟩, hS.F ht⟩) hS.2.2 dX7_isName_41
    · have q6 := mm_eqI (lo := 4) (hi := 4) c5 rv4 mm_k4 (by decide)
      have q7 : mm_rg i_4 0 596 := mm_unsubY tv4 q6 h4 h3 (by decide)
      have q8 : mm_rg i_5 4 600 := mm_unsubX tv4 q6 q7 h4 (by decide)
      refine lv_aload_n hx hb dX7_isName_26 rfl (lv_at hl 1 rfl) ?_
      refine va_get (D := G) (ci := 7) (v := .int i_5) (C := RX7) (T := TX7) (N := 8) hx hb hts (mm_i inlX7) hown hK.1 hP 2 rfl rfl 6 (by decide) (mm_h hts mm_w206) (fun _ h9 => h9) rfl dX7_isName_27 ?_
      refine lv_aload_n hx hb dX7_isName_30 rfl (lv_at hl 1 rfl) ?_
      refine va_get (D := G) (ci := 7) (v := .ref a_1) (C := RX7) (T := TX7) (N := 8) hx hb hts (mm_i inlX7) hown hK.1 hP 2 rfl rfl 0 (by decide) (mm_h hts mm_w67) (fun _ h9 => h9) rfl dX7_isName_31 ?_
      refine va_get (D := G) (ci := 9) (v := .int i_0) (C := RX9) (T := TX9) (N := 2) hx hb hts (mm_i inlX9) hown hK.1 hP 0 rfl rfl 1 (by decide) (mm_h hts mm_w231) (fun _ h9 => h9) rfl dX7_isName_34 ?_
      refine lv_icmp_le (tgt := 42) hx hb dX7_isName_37 (by decide) (fun c9 => ?_) (fun c9 => ?_)
      · have q10 := mm_leR (mm_le c9) q8 h0
        refine lv_iconst (v := 0) hx hb dX7_isName_42 (by decide) ?_
        refine lv_istore_n (lv' := [(3, .int 0), (2, .int 4), (0, .ref a_0), (1, .ref (cy 130))]) hx hb dX7_isName_43 rfl hl (by decide) rfl ?_
        clear hl
        clear ls
        intro ls hl
        have L44_71 : ∀ (n : Nat) (x44_3_71 : Int32), mm_rg x44_3_71 0 4 → (4 - x44_3_71.toInt).toNat < n → ∀ (H : Heap) (locs : List Loc), va_P G vwCl [(a_1, .inr (9, [.ref a_2, .int i_0])), (a_2, .inl (cy 0, 600, .inl f_0)), (a_0, .inr (7, [.ref a_1, .ref a_3, .int i_1, .int i_2, .int i_3, .int i_4, .int i_5, .int i_6]))] H → va_D A [(a_1, .inr (9, [.ref a_2, .int i_0])), (a_2, .inl (cy 0, 600, .inl f_0)), (a_0, .inr (7, [.ref a_1, .ref a_3, .int i_1, .int i_2, .int i_3, .int i_4, .int i_5, .int i_6]))] → va_S A s.heap H locs → ∀ (ls : Array Slot), lv_has ls 4 [(3, .int x44_3_71), (2, .int 4), (0, .ref a_0), (1, .ref (cy 130))] → W p l e R s m args below meth c H locs 0 0 Q (F0 m 44 ls []) := by
          intro n
          induction n with
          | zero => intro x44_3_71 rx44_3_71 hm; exact absurd hm (Nat.not_lt_zero _)
          | succ n ih44 =>
            intro x44_3_71 rx44_3_71 hm44 H locs hP hD hS ls hl
            refine lv_iload_n hx hb dX7_isName_44 rfl (lv_at hl 0 rfl) ?_
            refine lv_iload_n hx hb dX7_isName_45 rfl (lv_at hl 1 rfl) ?_
            refine lv_icmp_ge (tgt := 79) hx hb dX7_isName_46 (by decide) (fun c73 => ?_) (fun c73 => ?_)
            · have q74 := mm_leR (mm_le c73) mm_k4 rx44_3_71
              refine lv_iconst (v := 1) hx hb dX7_isName_79 (by decide) ?_
              subst hAe
              rw [hQ]
              exact W.zret (v := 1) hx hb hr rfl (fun t ht hW => ⟨⟨1, (), rfl, (Or.inr rfl), by rw [ht]; exact hP, hK.warm hW, hD⟩, hS.F ht⟩) hS.2.2 dX7_isName_80
            · have q75 := mm_ltL (h := 3) (mm_nle c73) rx44_3_71 mm_k4 (by decide)
              refine lv_aload_n hx hb dX7_isName_49 rfl (lv_at hl 2 rfl) ?_
              refine va_get (D := G) (ci := 7) (v := .ref a_1) (C := RX7) (T := TX7) (N := 8) hx hb hts (mm_i inlX7) hown hK.1 hP 2 rfl rfl 0 (by decide) (mm_h hts mm_w67) (fun _ h9 => h9) rfl dX7_isName_50 ?_
              refine va_get (D := G) (ci := 9) (v := .ref a_2) (C := RX9) (T := TX9) (N := 2) hx hb hts (mm_i inlX9) hown hK.1 hP 0 rfl rfl 0 (by decide) (mm_h hts mm_w238) (fun _ h9 => h9) rfl dX7_isName_53 ?_
              refine lv_aload_n hx hb dX7_isName_56 rfl (lv_at hl 2 rfl) ?_
              refine va_get (D := G) (ci := 7) (v := .int i_4) (C := RX7) (T := TX7) (N := 8) hx hb hts (mm_i inlX7) hown hK.1 hP 2 rfl rfl 5 (by decide) (mm_h hts mm_w232) (fun _ h9 => h9) rfl dX7_isName_57 ?_
              refine lv_iload_n hx hb dX7_isName_60 rfl (lv_at hl 0 rfl) ?_
              refine lv_iadd hx hb dX7_isName_61 ?_
              refine lv_topi (fun v76 ev76 => ?_)
              have rv76 : mm_rg v76 0 599 := mm_add ev76 q7 q75 (by decide) (by decide)
              have tv76 := mm_addE ev76 q7 q75 (by decide)
              refine va_bald hx hb hK.1 hP 1 0 rfl rfl (mm_in rv76 (by decide)) dX7_isName_62 ?_
              refine lv_topi (fun v77 ev77 => ?_)
              have rv77 : mm_rg v77 (-128) 127 := mm_eqv ev77 (h1 _)
              refine lv_aload_n hx hb dX7_isName_63 rfl (lv_at hl 3 rfl) ?_
              refine lv_iload_n hx hb dX7_isName_64 rfl (lv_at hl 0 rfl) ?_
              refine mm_finir (va_runV (As := [.int x44_3_71]) (rest := [.int v77]) ⟨hx, hb, hml, hown, hts⟩ (K99_J0_charAt_5068e l G cy H.size x44_3_71 q75) (cwV 1 hts (mm_gV mm_w270 mm_w271 mm_w272 mm_w261 mm_w273) rfl rfl rfl hd_J0_charAt_5068e ⟨by rw [hRf]; exact Nat.le_of_ble_eq_true rfl, by rw [hRl]; exact Nat.le_of_ble_eq_true rfl⟩) (mm_preVS hK hZ hS hA hP hD [] rfl rfl 15 (by decide)) rfl rfl hl.1 rfl (lv_room (Nat.le_of_ble_eq_true rfl)) dX7_isName_65 ⟨by rw [hRc]; exact Nat.le_of_ble_eq_true rfl, by rw [hRs]; exact Nat.le_of_ble_eq_true rfl⟩) hP hD hS hA [] rfl (fun _ => rfl) ?_
              clear hP hD hS
              clear H locs
              intro v78 _u H locs hw hP hD hS
              have w79 := hw
              refine lv_icmp_eq (tgt := 73) hx hb dX7_isName_68 (by decide) (fun c80 => ?_) (fun c80 => ?_)
              · have q81 := mm_eqI (lo := 0) (hi := 127) c80 rv77 w79 (by decide)
                have q82 := mm_eqI (lo := 0) (hi := 127) c80.symm w79 rv77 (by decide)
                obtain ⟨v83, ev83⟩ : ∃ y : Int32, y = x44_3_71 + 1 := ⟨_, rfl⟩
                refine lv_iinc (v := v83) (lv' := [(3, .int v83), (2, .int 4), (0, .ref a_0), (1, .ref (cy 130))]) hx hb dX7_isName_73 hl (k := 0) rfl (by rw [ev83]; rfl) (by decide) rfl ?_
                clear hl
                clear ls
                intro ls hl
                have rv83 : mm_rg v83 1 4 := mm_add ev83 q75 mm_k1 (by decide) (by decide)
                have tv83 := mm_addEc ev83 q75 mm_k1 (by decide) (k := 1) (by decide)
                refine lv_goto (tgt := 44) hx hb dX7_isName_76 (by decide) ?_
                exact ih44 v83 (mm_wk rv83 (by decide)) (mm_mu hm44 tv83 (by decide) (rv83).2 (by decide)) H locs hP hD hS ls (lv_sub hl [0, 1, 2, 3] rfl)
              · refine lv_iconst (v := 0) hx hb dX7_isName_71 (by decide) ?_
                subst hAe
                rw [hQ]
                exact W.zret (v := 0) hx hb hr rfl (fun t ht hW => ⟨⟨0, (), rfl, (Or.inl rfl), by rw [ht]; exact hP, hK.warm hW, hD⟩, hS.F ht⟩) hS.2.2 dX7_isName_72
        exact L44_71 _ 0 (mm_wk mm_k0 (by decide)) (Nat.lt_succ_self _) H locs hP hD hS ls (lv_sub hl [0, 1, 2, 3] rfl)
      · have q84 := mm_ltL (h := 599) (mm_nle c9) h0 q8 (by decide)
        refine lv_iconst (v := 0) hx hb dX7_isName_40 (by decide) ?_
        subst hAe
        rw [hQ]
        exact W.zret (v := 0) hx hb hr rfl (fun t ht hW => ⟨⟨0, (), rfl, (Or.inl rfl), by rw [ht]; exact hP, hK.warm hW, hD⟩, hS.F ht⟩) hS.2.2 dX7_isName_41

set_option maxHeartbeats 4000000 in
set_option maxRecDepth 100000 in
theorem K101_X7_blame (l : Launch) (G : va_G) (cy : Nat → ClassId) (sz : Nat) (a_0 : Nat) (a_1 : Nat) (a_2 : Nat) (i_0 : Int32) (i_1 : Int32) (i_2 : Int32) (i_3 : Int32) (i_4 : Int32) (i_5 : Int32) (h0 : mm_rg i_0 0 3) (h1 : mm_rg i_3 0 600)  : mm_CV l yX7_blame (mm_ws yX7_blame cX7_blame 2 (none)) ({ frames := 0, cells := 0, slots := 0, locals := 0 } : Room) G cy sz [(a_0, .inr (7, [.ref a_1, .ref a_2, .int i_0, .int i_1, .int i_2, .int i_3, .int i_4, .int i_5]))] [.ref a_0, .int 1] (fun u : Int32 × Int32 => [(a_0, .inr (7, [.ref a_1, .ref a_2, .int u.1, .int u.2, .int i_2, .int i_3, .int i_4, .int i_5]))]) (fun u : Int32 × Int32 => mm_rg u.1 1 3) 0 0 := by
  refine mm_begin (lv := [(0, .ref a_0), (1, .int 1)]) (by decide) (Nat.le_of_ble_eq_true rfl) rfl ?_
  intro p e s m below meth c A ls R args Q H locs hRe hQ hAe hx hb hr hlocks hml hown hnm hts hsz hA hS hP hK hD hZ hl
  have hRf : R.frames = 0 := by rw [hRe]
  have hRl : R.locals = 0 := by rw [hRe]
  have hRc : R.cells = 0 := by rw [hRe]
  have hRs : R.slots = 0 := by rw [hRe]
  refine lv_aload_n hx hb dX7_blame_0 rfl (lv_at hl 0 rfl) ?_
  refine va_get (D := G) (ci := 7) (v := .int i_0) (C := RX7) (T := TX7) (N := 8) hx hb hts (mm_i inlX7) hown hK.1 hP 0 rfl rfl 2 (by decide) (mm_h hts mm_w205) (fun _ h9 => h9) rfl dX7_blame_1 ?_
  refine lv_if_ne (tgt := 20) hx hb dX7_blame_4 (by decide) (fun c1 => ?_) (fun c1 => ?_)
  · have q2 := mm_neL (lo := 1) (mm_ne c1) h0 mm_k0 (by decide) (by decide)
    subst hAe
    rw [hQ]
    exact W.vret hx hb hr (fun t ht hW => ⟨⟨(i_0, i_1), rfl, q2, by rw [ht]; exact hP, hK.warm hW, hD⟩, hS.F ht⟩) hS.2.2 dX7_blame_20
  · have q3 := mm_eqI (lo := 0) (hi := 0) c1 h0 mm_k0 (by decide)
    refine lv_aload_n hx hb dX7_blame_7 rfl (lv_at hl 0 rfl) ?_
    refine lv_iload_n hx hb dX7_blame_8 rfl (lv_at hl 1 rfl) ?_
    refine va_put (D := G) (ci := 7) (v := .int 1) (ty := tyX7 2) (C := RX7) (T := TX7) (N := 8) hx hb hts (mm_i inlX7) tyX7 tyX7_ok nmX7 hown hK.1 hP hD hS 0 rfl rfl 2 (by decide) (mm_h hts mm_w205) (fun _ h9 => h9) rfl (tyX7_ok 2 (by decide)) rfl rfl (Nat.le_of_ble_eq_true rfl) dX7_blame_9 ?_
    clear hP hD hS
    clear H locs
    intro H locs (hP : va_P G vwCl [(a_0, .inr (7, [.ref a_1, .ref a_2, .int 1, .int i_1, .int i_2, .int i_3, .int i_4, .int i_5]))] H) (hD : va_D A [(a_0, .inr (7, [.ref a_1, .ref a_2, .int 1, .int i_1, .int i_2, .int i_3, .int i_4, .int i_5]))]) hS
    refine lv_aload_n hx hb dX7_blame_12 rfl (lv_at hl 0 rfl) ?_
    refine lv_aload_n hx hb dX7_blame_13 rfl (lv_at hl 0 rfl) ?_
    refine va_get (D := G) (ci := 7) (v := .int i_3) (C := RX7) (T := TX7) (N := 8) hx hb hts (mm_i inlX7) hown hK.1 hP 0 rfl rfl 5 (by decide) (mm_h hts mm_w232) (fun _ h9 => h9) rfl dX7_blame_14 ?_
    refine va_put (D := G) (ci := 7) (v := .int i_3) (ty := tyX7 3) (C := RX7) (T := TX7) (N := 8) hx hb hts (mm_i inlX7) tyX7 tyX7_ok nmX7 hown hK.1 hP hD hS 0 rfl rfl 3 (by decide) (mm_h hts mm_w66) (fun _ h9 => h9) rfl (tyX7_ok 3 (by decide)) rfl rfl (Nat.le_of_ble_eq_true rfl) dX7_blame_17 ?_
    clear hP hD hS
    clear H locs
    intro H locs (hP : va_P G vwCl [(a_0, .inr (7, [.ref a_1, .ref a_2, .int 1, .int i_3, .int i_2, .int i_3, .int i_4, .int i_5]))] H) (hD : va_D A [(a_0, .inr (7, [.ref a_1, .ref a_2, .int 1, .int i_3, .int i_2, .int i_3, .int i_4, .int i_5]))]) hS
    subst hAe
    rw [hQ]
    exact W.vret hx hb hr (fun t ht hW => ⟨⟨(1, i_3), rfl, (mm_wk mm_k1 (by decide)), by rw [ht]; exact hP, hK.warm hW, hD⟩, hS.F ht⟩) hS.2.2 dX7_blame_20

set_option maxHeartbeats 4000000 in
set_option maxRecDepth 100000 in
theorem K102_X7_blame (l : Launch) (G : va_G) (cy : Nat → ClassId) (sz : Nat) (a_0 : Nat) (a_1 : Nat) (a_2 : Nat) (i_0 : Int32) (i_1 : Int32) (i_2 : Int32) (i_3 : Int32) (i_4 : Int32) (i_5 : Int32) (h0 : mm_rg i_0 0 3) (h1 : mm_rg i_3 0 600)  : mm_CV l yX7_blame (mm_ws yX7_blame cX7_blame 2 (none)) ({ frames := 0, cells := 0, slots := 0, locals := 0 } : Room) G cy sz [(a_0, .inr (7, [.ref a_1, .ref a_2, .int i_0, .int i_1, .int i_2, .int i_3, .int i_4, .int i_5]))] [.ref a_0, .int 2] (fun u : Int32 × Int32 => [(a_0, .inr (7, [.ref a_1, .ref a_2, .int u.1, .int u.2, .int i_2, .int i_3, .int i_4, .int i_5]))]) (fun u : Int32 × Int32 => mm_rg u.1 1 3) 0 0 := by
  refine mm_begin (lv := [(0, .ref a_0), (1, .int 2)]) (by decide) (Nat.le_of_ble_eq_true rfl) rfl ?_
  intro p e s m below meth c A ls R args Q H locs hRe hQ hAe hx hb hr hlocks hml hown hnm hts hsz hA hS hP hK hD hZ hl
  have hRf : R.frames = 0 := by rw [hRe]
  have hRl : R.locals = 0 := by rw [hRe]
  have hRc : R.cells = 0 := by rw [hRe]
  have hRs : R.slots = 0 := by rw [hRe]
  refine lv_aload_n hx hb dX7_blame_0 rfl (lv_at hl 0 rfl) ?_
  refine va_get (D := G) (ci := 7) (v := .int i_0) (C := RX7) (T := TX7) (N := 8) hx hb hts (mm_i inlX7) hown hK.1 hP 0 rfl rfl 2 (by decide) (mm_h hts mm_w205) (fun _ h9 => h9) rfl dX7_blame_1 ?_
  refine lv_if_ne (tgt := 20) hx hb dX7_blame_4 (by decide) (fun c1 => ?_) (fun c1 => ?_)
  · have q2 := mm_neL (lo := 1) (mm_ne c1) h0 mm_k0 (by decide) (by decide)
    subst hAe
    rw [hQ]
    exact W.vret hx hb hr (fun t ht hW => ⟨⟨(i_0, i_1), rfl, q2, by rw [ht]; exact hP, hK.warm hW, hD⟩, hS.F ht⟩) hS.2.2 dX7_blame_20
  · have q3 := mm_eqI (lo := 0) (hi := 0) c1 h0 mm_k0 (by decide)
    refine lv_aload_n hx hb dX7_blame_7 rfl (lv_at hl 0 rfl) ?_
    refine lv_iload_n hx hb dX7_blame_8 rfl (lv_at hl 1 rfl) ?_
    refine va_put (D := G) (ci := 7) (v := .int 2) (ty := tyX7 2) (C := RX7) (T := TX7) (N := 8) hx hb hts (mm_i inlX7) tyX7 tyX7_ok nmX7 hown hK.1 hP hD hS 0 rfl rfl 2 (by decide) (mm_h hts mm_w205) (fun _ h9 => h9) rfl (tyX7_ok 2 (by decide)) rfl rfl (Nat.le_of_ble_eq_true rfl) dX7_blame_9 ?_
    clear hP hD hS
    clear H locs
    intro H locs (hP : va_P G vwCl [(a_0, .inr (7, [.ref a_1, .ref a_2, .int 2, .int i_1, .int i_2, .int i_3, .int i_4, .int i_5]))] H) (hD : va_D A [(a_0, .inr (7, [.ref a_1, .ref a_2, .int 2, .int i_1, .int i_2, .int i_3, .int i_4, .int i_5]))]) hS
    refine lv_aload_n hx hb dX7_blame_12 rfl (lv_at hl 0 rfl) ?_
    refine lv_aload_n hx hb dX7_blame_13 rfl (lv_at hl 0 rfl) ?_
    refine va_get (D := G) (ci := 7) (v := .int i_3) (C := RX7) (T := TX7) (N := 8) hx hb hts (mm_i inlX7) hown hK.1 hP 0 rfl rfl 5 (by decide) (mm_h hts mm_w232) (fun _ h9 => h9) rfl dX7_blame_14 ?_
    refine va_put (D := G) (ci := 7) (v := .int i_3) (ty := tyX7 3) (C := RX7) (T := TX7) (N := 8) hx hb hts (mm_i inlX7) tyX7 tyX7_ok nmX7 hown hK.1 hP hD hS 0 rfl rfl 3 (by decide) (mm_h hts mm_w66) (fun _ h9 => h9) rfl (tyX7_ok 3 (by decide)) rfl rfl (Nat.le_of_ble_eq_true rfl) dX7_blame_17 ?_
    clear hP hD hS
    clear H locs
    intro H locs (hP : va_P G vwCl [(a_0, .inr (7, [.ref a_1, .ref a_2, .int 2, .int i_3, .int i_2, .int i_3, .int i_4, .int i_5]))] H) (hD : va_D A [(a_0, .inr (7, [.ref a_1, .ref a_2, .int 2, .int i_3, .int i_2, .int i_3, .int i_4, .int i_5]))]) hS
    subst hAe
    rw [hQ]
    exact W.vret hx hb hr (fun t ht hW => ⟨⟨(2, i_3), rfl, (mm_wk mm_k2 (by decide)), by rw [ht]; exact hP, hK.warm hW, hD⟩, hS.F ht⟩) hS.2.2 dX7_blame_20

set_option maxHeartbeats 4000000 in
set_option maxRecDepth 100000 in
theorem K103_X7_takeNumber (l : Launch) (G : va_G) (cy : Nat → ClassId) (sz : Nat) (a_0 : Nat) (i_0 : Int32) (a_1 : Nat) (a_2 : Nat) (i_1 : Int32) (f_0 : Nat → Int32) (a_3 : Nat) (i_2 : Int32) (i_3 : Int32) (i_4 : Int32) (i_5 : Int32) (i_6 : Int32) (i_7 : Int32) (h0 : mm_rg i_0 0 9) (h1 : mm_rg i_1 0 600) (h2 : mm_ar f_0 (-128) 127) (h3 : mm_rg i_2 0 3) (h4 : mm_rg i_4 0 5) (h5 : mm_rg i_5 0 600) (h6 : mm_rg i_6 0 600)  : mm_CI l yX7_takeNumber (mm_ws yX7_takeNumber cX7_takeNumber 4 (some .int)) ({ frames := 2, cells := 0, slots := 0, locals := 45 } : Room) G cy sz [(a_1, .inr (9, [.ref a_2, .int i_1])), (a_2, .inl (cy 0, 600, .inl f_0)), (a_0, .inr (7, [.ref a_1, .ref a_3, .int i_2, .int i_3, .int i_4, .int i_5, .int i_6, .int i_7]))] [.ref a_0, .int 0, .int i_0] (fun u : Int32 × Int32 × Int32 × Int32 × Int32 × Int32 => [(a_1, .inr (9, [.ref a_2, .int i_1])), (a_2, .inl (cy 0, 600, .inl f_0)), (a_0, .inr (7, [.ref a_1, .ref a_3, .int u.1, .int u.2.1, .int u.2.2.1, .int u.2.2.2.1, .int u.2.2.2.2.1, .int u.2.2.2.2.2]))]) (fun (r : Int32) (u : Int32 × Int32 × Int32 × Int32 × Int32 × Int32) => mm_rg u.1 0 3 ∧ mm_rg u.2.2.1 0 5 ∧ mm_rg u.2.2.2.1 0 600 ∧ mm_rg u.2.2.2.2.1 0 600 ∧ mm_rg r 0 9) 0 0 := by
  refine mm_begin (lv := [(0, .ref a_0), (1, .int 0), (2, .int i_0)]) (by decide) (Nat.le_of_ble_eq_true rfl) rfl ?_
  intro p e s m below meth c A ls R args Q H locs hRe hQ hAe hx hb hr hlocks hml hown hnm hts hsz hA hS hP hK hD hZ hl
  have hRf : R.frames = 2 := by rw [hRe]
  have hRl : R.locals = 45 := by rw [hRe]
  have hRc : R.cells = 0 := by rw [hRe]
  have hRs : R.slots = 0 := by rw [hRe]
  refine lv_aload_n hx hb dX7_takeNumber_0 rfl (lv_at hl 0 rfl) ?_
  refine va_get (D := G) (ci := 7) (v := .int i_4) (C := RX7) (T := TX7) (N := 8) hx hb hts (mm_i inlX7) hown hK.1 hP 2 rfl rfl 4 (by decide) (mm_h hts mm_w207) (fun _ h9 => h9) rfl dX7_takeNumber_1 ?_
  refine lv_iconst (v := 3) hx hb dX7_takeNumber_4 (by decide) ?_
  refine lv_icmp_eq (tgt := 16) hx hb dX7_takeNumber_5 (by decide) (fun c1 => ?_) (fun c1 => ?_)
  · have q2 := mm_eqI (lo := 3) (hi := 3) c1 h4 mm_k3 (by decide)
    refine lv_aload_n hx hb dX7_takeNumber_16 rfl (lv_at hl 0 rfl) ?_
    refine va_get (D := G) (ci := 7) (v := .int i_7) (C := RX7) (T := TX7) (N := 8) hx hb hts (mm_i inlX7) hown hK.1 hP 2 rfl rfl 7 (by decide) (mm_h hts mm_w233) (fun _ h9 => h9) rfl dX7_takeNumber_17 ?_
    refine lv_iload_n hx hb dX7_takeNumber_20 rfl (lv_at hl 1 rfl) ?_
    refine lv_icmp_lt (tgt := 32) hx hb dX7_takeNumber_21 (by decide) (fun c3 => ?_) (fun c3 => ?_)
    · have q4 := mm_ltL (h := (-1)) (mm_lt c3) (mm_top i_7) mm_k0 (by decide)
      refine lv_aload_n hx hb dX7_takeNumber_32 rfl (lv_at hl 0 rfl) ?_
      refine lv_iconst (v := 2) hx hb dX7_takeNumber_33 (by decide) ?_
      refine mm_finv (va_runV (As := [.int 2]) (rest := []) ⟨hx, hb, hml, hown, hts⟩ (K102_X7_blame l G cy H.size a_0 a_1 a_3 i_2 i_3 i_4 i_5 i_6 i_7 h3 h5) (cwV 1 hts (mm_gV mm_w311 mm_w312 mm_w313 mm_w19 mm_w314) rfl rfl rfl hd_X7_blame ⟨by rw [hRf]; exact Nat.le_of_ble_eq_true rfl, by rw [hRl]; exact Nat.le_of_ble_eq_true rfl⟩) (mm_preV hK hZ hS hA hP hD [2] rfl rfl 2 rfl rfl rfl) rfl rfl hl.1 rfl (lv_room (Nat.le_of_ble_eq_true rfl)) dX7_takeNumber_34 ⟨by rw [hRc]; exact Nat.le_of_ble_eq_true rfl, by rw [hRs]; exact Nat.le_of_ble_eq_true rfl⟩) hP hD hS hA (fun u : Int32 × Int32 => [(a_1, .inr (9, [.ref a_2, .int i_1])), (a_2, .inl (cy 0, 600, .inl f_0)), (a_0, .inr (7, [.ref a_1, .ref a_3, .int u.1, .int u.2, .int i_4, .int i_5, .int i_6, .int i_7]))]) [2] [0, 1] (n := 3) (fun _ => rfl) (by decide +kernel) (by decide +kernel) rfl (fun _ => rfl) (wr := [(a_1, .inr (9, [.ref a_2, .int i_1])), (a_2, .inl (cy 0, 600, .inl f_0))]) rfl (fun _ => rfl) (fun _ => rfl) ?_
      clear hP hD hS
      clear H locs
      intro u
      obtain ⟨n5, n6⟩ := u
      intro H locs hw (hP : va_P G vwCl [(a_1, .inr (9, [.ref a_2, .int i_1])), (a_2, .inl (cy 0, 600, .inl f_0)), (a_0, .inr (7, [.ref a_1, .ref a_3, .int n5, .int n6, .int i_4, .int i_5, .int i_6, .int i_7]))] H) (hD : va_D A [(a_1, .inr (9, [.ref a_2, .int i_1])), (a_2, .inl (cy 0, 600, .inl f_0)), (a_0, .inr (7, [.ref a_1, .ref a_3, .int n5, .int n6, .int i_4, .int i_5, .int i_6, .int i_7]))]) hS
      have w7 := hw
      refine lv_aload_n hx hb dX7_takeNumber_37 rfl (lv_at hl 0 rfl) ?_
      refine va_get (D := G) (ci := 7) (v := .int n5) (C := RX7) (T := TX7) (N := 8) hx hb hts (mm_i inlX7) hown hK.1 hP 2 rfl rfl 2 (by decide) (mm_h hts mm_w205) (fun _ h9 => h9) rfl dX7_takeNumber_38 ?_
      refine lv_if_eq (tgt := 46) hx hb dX7_takeNumber_41 (by decide) (fun c8 => ?_) (fun c8 => ?_)
      · exact mm_eqN c8.symm mm_k0 w7 (by decide)
      · refine lv_iload_n hx hb dX7_takeNumber_44 rfl (lv_at hl 1 rfl) ?_
        subst hAe
        rw [hQ]
        exact W.iret (v := 0) hx hb hr (fun t ht hW => ⟨⟨0, (n5, n6, i_4, i_5, i_6, i_7), rfl, ⟨(mm_wk w7 (by decide)), (mm_wk q2 (by decide)), h5, h6, (mm_wk mm_k0 (by decide))⟩, by rw [ht]; exact hP, hK.warm hW, hD⟩, hS.F ht⟩) hS.2.2 dX7_takeNumber_45
    · have q9 := mm_leR (mm_nlt c3) mm_k0 (mm_top i_7)
      refine lv_aload_n hx hb dX7_takeNumber_24 rfl (lv_at hl 0 rfl) ?_
      refine va_get (D := G) (ci := 7) (v := .int i_7) (C := RX7) (T := TX7) (N := 8) hx hb hts (mm_i inlX7) hown hK.1 hP 2 rfl rfl 7 (by decide) (mm_h hts mm_w233) (fun _ h9 => h9) rfl dX7_takeNumber_25 ?_
      refine lv_iload_n hx hb dX7_takeNumber_28 rfl (lv_at hl 2 rfl) ?_
      refine lv_icmp_le (tgt := 37) hx hb dX7_takeNumber_29 (by decide) (fun c10 => ?_) (fun c10 => ?_)
      · have q11 := mm_leL (mm_le c10) q9 h0
        refine lv_aload_n hx hb dX7_takeNumber_37 rfl (lv_at hl 0 rfl) ?_
        refine va_get (D := G) (ci := 7) (v := .int i_2) (C := RX7) (T := TX7) (N := 8) hx hb hts (mm_i inlX7) hown hK.1 hP 2 rfl rfl 2 (by decide) (mm_h hts mm_w205) (fun _ h9 => h9) rfl dX7_takeNumber_38 ?_
        refine lv_if_eq (tgt := 46) hx hb dX7_takeNumber_41 (by decide) (fun c12 => ?_) (fun c12 => ?_)
        · have q13 := mm_eqI (lo := 0) (hi := 0) c12 h3 mm_k0 (by decide)
          refine lv_aload_n hx hb dX7_takeNumber_46 rfl (lv_at hl 0 rfl) ?_
          refine va_get (D := G) (ci := 7) (v := .int i_7) (C := RX7) (T := TX7) (N := 8) hx hb hts (mm_i inlX7) hown hK.1 hP 2 rfl rfl 7 (by decide) (mm_h hts mm_w233) (fun _ h9 => h9) rfl dX7_takeNumber_47 ?_
          refine lv_istore_n (lv' := [(3, .int i_7), (0, .ref a_0), (1, .int 0), (2, .int i_0)]) hx hb dX7_takeNumber_50 rfl hl (by decide) rfl ?_
          clear hl
          clear ls
          intro ls hl
          refine lv_aload_n hx hb dX7_takeNumber_51 rfl (lv_at hl 1 rfl) ?_
          refine mm_finv (va_runV (As := []) (rest := []) ⟨hx, hb, hml, hown, hts⟩ (K9_X7_nextToken l G cy H.size a_0 a_1 a_2 i_1 f_0 a_3 i_2 i_3 i_4 i_5 i_6 i_7 h1 h2 (mm_wk q2 (by decide)) h5 h6) (cwV 0 hts (mm_gV mm_w227 mm_w228 mm_w229 mm_w19 mm_w230) rfl rfl rfl hd_X7_nextToken ⟨by rw [hRf]; exact Nat.le_of_ble_eq_true rfl, by rw [hRl]; exact Nat.le_of_ble_eq_true rfl⟩) (mm_preV hK hZ hS hA hP hD [0, 1, 2] rfl rfl 2 rfl rfl rfl) rfl rfl hl.1 rfl (lv_room (Nat.le_of_ble_eq_true rfl)) dX7_takeNumber_52 ⟨by rw [hRc]; exact Nat.le_of_ble_eq_true rfl, by rw [hRs]; exact Nat.le_of_ble_eq_true rfl⟩) hP hD hS hA (fun u : Int32 × Int32 × Int32 × Int32 => [(a_1, .inr (9, [.ref a_2, .int i_1])), (a_2, .inl (cy 0, 600, .inl f_0)), (a_0, .inr (7, [.ref a_1, .ref a_3, .int i_2, .int i_3, .int u.1, .int u.2.1, .int u.2.2.1, .int u.2.2.2]))]) [0, 1, 2] [] (n := 3) (fun _ => rfl) (by decide +kernel) (by decide +kernel) rfl (fun _ => rfl) (wr := []) rfl (fun _ => rfl) (fun _ => rfl) ?_
          clear hP hD hS
          clear H locs
          intro u
          obtain ⟨n14, n15, n16, n17⟩ := u
          intro H locs hw (hP : va_P G vwCl [(a_1, .inr (9, [.ref a_2, .int i_1])), (a_2, .inl (cy 0, 600, .inl f_0)), (a_0, .inr (7, [.ref a_1, .ref a_3, .int i_2, .int i_3, .int n14, .int n15, .int n16, .int n17]))] H) (hD : va_D A [(a_1, .inr (9, [.ref a_2, .int i_1])), (a_2, .inl (cy 0, 600, .inl f_0)), (a_0, .inr (7, [.ref a_1, .ref a_3, .int i_2, .int i_3, .int n14, .int n15, .int n16, .int n17]))]) hS
          obtain ⟨w18, w19, w20⟩ := hw
          refine lv_iload_n hx hb dX7_takeNumber_55 rfl (lv_at hl 0 rfl) ?_
          subst hAe
          rw [hQ]
          exact W.iret (v := i_7) hx hb hr (fun t ht hW => ⟨⟨i_7, (i_2, i_3, n14, n15, n16, n17), rfl, ⟨(mm_wk q13 (by decide)), w18, w19, w20, q11⟩, by rw [ht]; exact hP, hK.warm hW, hD⟩, hS.F ht⟩) hS.2.2 dX7_takeNumber_56
        · have q21 := mm_neL (lo := 1) (mm_ne c12) h3 mm_k0 (by decide) (by decide)
          refine lv_iload_n hx hb dX7_takeNumber_44 rfl (lv_at hl 1 rfl) ?_
          subst hAe
          rw [hQ]
          exact W.iret (v := 0) hx hb hr (fun t ht hW => ⟨⟨0, (i_2, i_3, i_4, i_5, i_6, i_7), rfl, ⟨(mm_wk q21 (by decide)), (mm_wk q2 (by decide)), h5, h6, (mm_wk mm_k0 (by decide))⟩, by rw [ht]; exact hP, hK.warm hW, hD⟩, hS.F ht⟩) hS.2.2 dX7_takeNumber_45
      · have q22 := mm_ltR (lo := 1) (mm_nle c10) h0 q9 (by decide)
        refine lv_aload_n hx hb dX7_takeNumber_32 rfl (lv_at hl 0 rfl) ?_
        refine lv_iconst (v := 2) hx hb dX7_takeNumber_33 (by decide) ?_
        refine mm_finv (va_runV (As := [.int 2]) (rest := []) ⟨hx, hb, hml, hown, hts⟩ (K102_X7_blame l G cy H.size a_0 a_1 a_3 i_2 i_3 i_4 i_5 i_6 i_7 h3 h5) (cwV 1 hts (mm_gV mm_w311 mm_w312 mm_w313 mm_w19 mm_w314) rfl rfl rfl hd_X7_blame ⟨by rw [hRf]; exact Nat.le_of_ble_eq_true rfl, by rw [hRl]; exact Nat.le_of_ble_eq_true rfl⟩) (mm_preV hK hZ hS hA hP hD [2] rfl rfl 2 rfl rfl rfl) rfl rfl hl.1 rfl (lv_room (Nat.le_of_ble_eq_true rfl)) dX7_takeNumber_34 ⟨by rw [hRc]; exact Nat.le_of_ble_eq_true rfl, by rw [hRs]; exact Nat.le_of_ble_eq_true rfl⟩) hP hD hS hA (fun u : Int32 × Int32 => [(a_1, .inr (9, [.ref a_2, .int i_1])), (a_2, .inl (cy 0, 600, .inl f_0)), (a_0, .inr (7, [.ref a_1, .ref a_3, .int u.1, .int u.2, .int i_4, .int i_5, .int i_6, .int i_7]))]) [2] [0, 1] (n := 3) (fun _ => rfl) (by decide +kernel) (by decide +kernel) rfl (fun _ => rfl) (wr := [(a_1, .inr (9, [.ref a_2, .int i_1])), (a_2, .inl (cy 0, 600, .inl f_0))]) rfl (fun _ => rfl) (fun _ => rfl) ?_
        clear hP hD hS
        clear H locs
        intro u
        obtain ⟨n23, n24⟩ := u
        intro H locs hw (hP : va_P G vwCl [(a_1, .inr (9, [.ref a_2, .int i_1])), (a_2, .inl (cy 0, 600, .inl f_0)), (a_0, .inr (7, [.ref a_1, .ref a_3, .int n23, .int n24, .int i_4, .int i_5, .int i_6, .int i_7]))] H) (hD : va_D A [(a_1, .inr (9, [.ref a_2, .int i_1])), (a_2, .inl (cy 0, 600, .inl f_0)), (a_0, .inr (7, [.ref a_1, .ref a_3, .int n23, .int n24, .int i_4, .int i_5, .int i_6, .int i_7]))]) hS
        have w25 := hw
        refine lv_aload_n hx hb dX7_takeNumber_37 rfl (lv_at hl 0 rfl) ?_
        refine va_get (D := G) (ci := 7) (v := .int n23) (C := RX7) (T := TX7) (N := 8) hx hb hts (mm_i inlX7) hown hK.1 hP 2 rfl rfl 2 (by decide) (mm_h hts mm_w205) (fun _ h9 => h9) rfl dX7_takeNumber_38 ?_
        refine lv_if_eq (tgt := 46) hx hb dX7_takeNumber_41 (by decide) (fun c26 => ?_) (fun c26 => ?_)
        · exact mm_eqN c26.symm mm_k0 w25 (by decide)
        · refine lv_iload_n hx hb dX7_takeNumber_44 rfl (lv_at hl 1 rfl) ?_
          subst hAe
          rw [hQ]
          exact W.iret (v := 0) hx hb hr (fun t ht hW => ⟨⟨0, (n23, n24, i_4, i_5, i_6, i_7), rfl, ⟨(mm_wk w25 (by decide)), (mm_wk q2 (by decide)), h5, h6, (mm_wk mm_k0 (by decide))⟩, by rw [ht]; exact hP, hK.warm hW, hD⟩, hS.F ht⟩) hS.2.2 dX7_takeNumber_45
  · refine lv_aload_n hx hb dX7_takeNumber_8 rfl (lv_at hl 0 rfl) ?_
    refine lv_iconst (v := 1) hx hb dX7_takeNumber_9 (by decide) ?_
    refine mm_finv (va_runV (As := [.int 1]) (rest := []) ⟨hx, hb, hml, hown, hts⟩ (K101_X7_blame l G cy H.size a_0 a_1 a_3 i_2 i_3 i_4 i_5 i_6 i_7 h3 h5) (cwV 1 hts (mm_gV mm_w311 mm_w312 mm_w313 mm_w19 mm_w314) rfl rfl rfl hd_X7_blame ⟨by rw [hRf]; exact Nat.le_of_ble_eq_true rfl, by rw [hRl]; exact Nat.le_of_ble_eq_true rfl⟩) (mm_preV hK hZ hS hA hP hD [2] rfl rfl 2 rfl rfl rfl) rfl rfl hl.1 rfl (lv_room (Nat.le_of_ble_eq_true rfl)) dX7_takeNumber_10 ⟨by rw [hRc]; exact Nat.le_of_ble_eq_true rfl, by rw [hRs]; exact Nat.le_of_ble_eq_true rfl⟩) hP hD hS hA (fun u : Int32 × Int32 => [(a_1, .inr (9, [.ref a_2, .int i_1])), (a_2, .inl (cy 0, 600, .inl f_0)), (a_0, .inr (7, [.ref a_1, .ref a_3, .int u.1, .int u.2, .int i_4, .int i_5, .int i_6, .int i_7]))]) [2] [0, 1] (n := 3) (fun _ => rfl) (by decide +kernel) (by decide +kernel) rfl (fun _ => rfl) (wr := [(a_1, .inr (9, [.ref a_2, .int i_1])), (a_2, .inl (cy 0, 600, .inl f_0))]) rfl (fun _ => rfl) (fun _ => rfl) ?_
    clear hP hD hS
    clear H locs
    intro u
    obtain ⟨n27, n28⟩ := u
    intro H locs hw (hP : va_P G vwCl [(a_1, .inr (9, [.ref a_2, .int i_1])), (a_2, .inl (cy 0, 600, .inl f_0)), (a_0, .inr (7, [.ref a_1, .ref a_3, .int n27, .int n28, .int i_4, .int i_5, .int i_6, .int i_7]))] H) (hD : va_D A [(a_1, .inr (9, [.ref a_2, .int i_1])), (a_2, .inl (cy 0, 600, .inl f_0)), (a_0, .inr (7, [.ref a_1, .ref a_3, .int n27, .int n28, .int i_4, .int i_5, .int i_6, .int i_7]))]) hS
    have w29 := hw
    refine lv_goto (tgt := 37) hx hb dX7_takeNumber_13 (by decide) ?_
    refine lv_aload_n hx hb dX7_takeNumber_37 rfl (lv_at hl 0 rfl) ?_
    refine va_get (D := G) (ci := 7) (v := .int n27) (C := RX7) (T := TX7) (N := 8) hx hb hts (mm_i inlX7) hown hK.1 hP 2 rfl rfl 2 (by decide) (mm_h hts mm_w205) (fun _ h9 => h9) rfl dX7_takeNumber_38 ?_
    refine lv_if_eq (tgt := 46) hx hb dX7_takeNumber_41 (by decide) (fun c30 => ?_) (fun c30 => ?_)
    · exact mm_eqN c30.symm mm_k0 w29 (by decide)
    · refine lv_iload_n hx hb dX7_takeNumber_44 rfl (lv_at hl 1 rfl) ?_
      subst hAe
      rw [hQ]
      exact W.iret (v := 0) hx hb hr (fun t ht hW => ⟨⟨0, (n27, n28, i_4, i_5, i_6, i_7), rfl, ⟨(mm_wk w29 (by decide)), h4, h5, h6, (mm_wk mm_k0 (by decide))⟩, by rw [ht]; exact hP, hK.warm hW, hD⟩, hS.F ht⟩) hS.2.2 dX7_takeNumber_45

set_option maxHeartbeats 4000000 in
set_option maxRecDepth 100000 in
theorem K104_X0_setWordAt (l : Launch) (G : va_G) (cy : Nat → ClassId) (sz : Nat) (a_0 : Nat) (i_0 : Int32) (i_1 : Int32) (i_2 : Int32) (i_3 : Int32) (i_4 : Int32) (i_5 : Int32) (i_6 : Int32) (i_7 : Int32) (i_8 : Int32) (i_9 : Int32) (i_10 : Int32) (a_1 : Nat) (a_2 : Nat) (a_3 : Nat) (a_4 : Nat) (a_5 : Nat) (a_6 : Nat) (a_7 : Nat) (a_8 : Nat) (a_9 : Nat) (a_10 : Nat) (f_0 : Nat → Int32) (f_1 : Nat → Int32) (h0 : mm_rg i_0 0 5) (h1 : mm_rg i_1 0 7) (h2 : mm_rg i_2 0 9) (h3 : mm_ar f_0 0 8) (h4 : mm_ar f_1 0 9)  : mm_CV l yX0_setWordAt (mm_ws yX0_setWordAt cX0_setWordAt 4 (none)) ({ frames := 0, cells := 0, slots := 0, locals := 0 } : Room) G cy sz [(a_0, .inr (0, [.int i_3, .int i_4, .int i_5, .int i_6, .int i_7, .int i_8, .int i_9, .int i_10, .ref a_1, .ref a_2, .ref a_3, .ref a_4, .ref a_5, .ref a_6, .ref a_7, .ref a_8, .ref a_9, .ref a_10])), (a_5, .inl (cy 1, 6, .inl f_0)), (a_6, .inl (cy 1, 48, .inl f_1))] [.ref a_0, .int i_0, .int i_1, .int i_2] (fun u : (Nat → Int32) × (Nat → Int32) => [(a_0, .inr (0, [.int i_3, .int i_4, .int i_5, .int i_6, .int i_7, .int i_8, .int i_9, .int i_10, .ref a_1, .ref a_2, .ref a_3, .ref a_4, .ref a_5, .ref a_6, .ref a_7, .ref a_8, .ref a_9, .ref a_10])), (a_5, .inl (cy 1, 6, .inl u.1)), (a_6, .inl (cy 1, 48, .inl u.2))]) (fun u : (Nat → Int32) × (Nat → Int32) => mm_ar u.1 0 8 ∧ mm_ar u.2 0 9) 0 0 := by
  refine mm_begin (lv := [(0, .ref a_0), (1, .int i_0), (2, .int i_1), (3, .int i_2)]) (by decide) (Nat.le_of_ble_eq_true rfl) rfl ?_
  intro p e s m below meth c A ls R args Q H locs hRe hQ hAe hx hb hr hlocks hml hown hnm hts hsz hA hS hP hK hD hZ hl
  have hRf : R.frames = 0 := by rw [hRe]
  have hRl : R.locals = 0 := by rw [hRe]
  have hRc : R.cells = 0 := by rw [hRe]
  have hRs : R.slots = 0 := by rw [hRe]
  refine lv_aload_n hx hb dX0_setWordAt_0 rfl (lv_at hl 0 rfl) ?_
  refine va_get (D := G) (ci := 0) (v := .ref a_6) (C := RX0) (T := TX0) (N := 18) hx hb hts (mm_i inlX0) hown hK.1 hP 0 rfl rfl 13 (by decide) (mm_h hts mm_w77) (fun _ h9 => h9) rfl dX0_setWordAt_1 ?_
  refine lv_iload_n hx hb dX0_setWordAt_4 rfl (lv_at hl 1 rfl) ?_
  refine lv_bipush (v := 8) hx hb dX0_setWordAt_5 (by decide) ?_
  refine lv_imul hx hb dX0_setWordAt_7 ?_
  refine lv_topi (fun v1 ev1 => ?_)
  have rv1 : mm_rg v1 0 40 := mm_mul ev1 h0 mm_k8 (by decide) (by decide)
  refine lv_iload_n hx hb dX0_setWordAt_8 rfl (lv_at hl 2 rfl) ?_
  refine lv_iadd hx hb dX0_setWordAt_9 ?_
  refine lv_topi (fun v2 ev2 => ?_)
  have rv2 : mm_rg v2 0 47 := mm_add ev2 rv1 h1 (by decide) (by decide)
  have tv2 := mm_addE ev2 rv1 h1 (by decide)
  refine lv_iload_n hx hb dX0_setWordAt_10 rfl (lv_at hl 3 rfl) ?_
  refine va_iast hx hb hK.1 hP hD hS 2 1 rfl rfl (mm_in rv2 (by decide)) dX0_setWordAt_11 ?_
  clear hP hD hS
  clear H locs
  obtain ⟨g3, eg3⟩ : ∃ z : Nat → Int32, z = upd f_1 v2.toNatClampNeg i_2 := ⟨_, rfl⟩
  rw [← eg3]
  intro H locs (hP : va_P G vwCl [(a_0, .inr (0, [.int i_3, .int i_4, .int i_5, .int i_6, .int i_7, .int i_8, .int i_9, .int i_10, .ref a_1, .ref a_2, .ref a_3, .ref a_4, .ref a_5, .ref a_6, .ref a_7, .ref a_8, .ref a_9, .ref a_10])), (a_5, .inl (cy 1, 6, .inl f_0)), (a_6, .inl (cy 1, 48, .inl g3))] H) (hD : va_D A [(a_0, .inr (0, [.int i_3, .int i_4, .int i_5, .int i_6, .int i_7, .int i_8, .int i_9, .int i_10, .ref a_1, .ref a_2, .ref a_3, .ref a_4, .ref a_5, .ref a_6, .ref a_7, .ref a_8, .ref a_9, .ref a_10])), (a_5, .inl (cy 1, 6, .inl f_0)), (a_6, .inl (cy 1, 48, .inl g3))]) hS
  have rg3 : mm_ar g3 0 9 := by rw [eg3]; exact mm_ar_upd (mm_ar_wk h4 (by decide)) (mm_wk h2 (by decide)) _
  refine lv_aload_n hx hb dX0_setWordAt_12 rfl (lv_at hl 0 rfl) ?_
  refine va_get (D := G) (ci := 0) (v := .ref a_5) (C := RX0) (T := TX0) (N := 18) hx hb hts (mm_i inlX0) hown hK.1 hP 0 rfl rfl 12 (by decide) (mm_h hts mm_w76) (fun _ h9 => h9) rfl dX0_setWordAt_13 ?_
  refine lv_iload_n hx hb dX0_setWordAt_16 rfl (lv_at hl 1 rfl) ?_
  refine lv_iload_n hx hb dX0_setWordAt_17 rfl (lv_at hl 2 rfl) ?_
  refine lv_iconst (v := 1) hx hb dX0_setWordAt_18 (by decide) ?_
  refine lv_iadd hx hb dX0_setWordAt_19 ?_
  refine lv_topi (fun v4 ev4 => ?_)
  have rv4 : mm_rg v4 1 8 := mm_add ev4 h1 mm_k1 (by decide) (by decide)
  have tv4 := mm_addEc ev4 h1 mm_k1 (by decide) (k := 1) (by decide)
  refine va_iast hx hb hK.1 hP hD hS 1 1 rfl rfl (mm_in h0 (by decide)) dX0_setWordAt_20 ?_
  clear hP hD hS
  clear H locs
  obtain ⟨g5, eg5⟩ : ∃ z : Nat → Int32, z = upd f_0 i_0.toNatClampNeg v4 := ⟨_, rfl⟩
  rw [← eg5]
  intro H locs (hP : va_P G vwCl [(a_0, .inr (0, [.int i_3, .int i_4, .int i_5, .int i_6, .int i_7, .int i_8, .int i_9, .int i_10, .ref a_1, .ref a_2, .ref a_3, .ref a_4, .ref a_5, .ref a_6, .ref a_7, .ref a_8, .ref a_9, .ref a_10])), (a_5, .inl (cy 1, 6, .inl g5)), (a_6, .inl (cy 1, 48, .inl g3))] H) (hD : va_D A [(a_0, .inr (0, [.int i_3, .int i_4, .int i_5, .int i_6, .int i_7, .int i_8, .int i_9, .int i_10, .ref a_1, .ref a_2, .ref a_3, .ref a_4, .ref a_5, .ref a_6, .ref a_7, .ref a_8, .ref a_9, .ref a_10])), (a_5, .inl (cy 1, 6, .inl g5)), (a_6, .inl (cy 1, 48, .inl g3))]) hS
  have rg5 : mm_ar g5 0 8 := by rw [eg5]; exact mm_ar_upd (mm_ar_wk h3 (by decide)) (mm_wk rv4 (by decide)) _
  subst hAe
  rw [hQ]
  exact W.vret hx hb hr (fun t ht hW => ⟨⟨(g5, g3), rfl, ⟨rg5, rg3⟩, by rw [ht]; exact hP, hK.warm hW, hD⟩, hS.F ht⟩) hS.2.2 dX0_setWordAt_21

set_option maxHeartbeats 4000000 in
set_option maxRecDepth 100000 in
theorem K105_X7_blame (l : Launch) (G : va_G) (cy : Nat → ClassId) (sz : Nat) (a_0 : Nat) (a_1 : Nat) (a_2 : Nat) (i_0 : Int32) (i_1 : Int32) (i_2 : Int32) (i_3 : Int32) (i_4 : Int32) (i_5 : Int32) (h0 : mm_rg i_0 0 3) (h1 : mm_rg i_3 0 600)  : mm_CV l yX7_blame (mm_ws yX7_blame cX7_blame 2 (none)) ({ frames := 0, cells := 0, slots := 0, locals := 0 } : Room) G cy sz [(a_0, .inr (7, [.ref a_1, .ref a_2, .int i_0, .int i_1, .int i_2, .int i_3, .int i_4, .int i_5]))] [.ref a_0, .int 3] (fun u : Int32 × Int32 => [(a_0, .inr (7, [.ref a_1, .ref a_2, .int u.1, .int u.2, .int i_2, .int i_3, .int i_4, .int i_5]))]) (fun u : Int32 × Int32 => mm_rg u.1 1 3) 0 0 := by
  refine mm_begin (lv := [(0, .ref a_0), (1, .int 3)]) (by decide) (Nat.le_of_ble_eq_true rfl) rfl ?_
  intro p e s m below meth c A ls R args Q H locs hRe hQ hAe hx hb hr hlocks hml hown hnm hts hsz hA hS hP hK hD hZ hl
  have hRf : R.frames = 0 := by rw [hRe]
  have hRl : R.locals = 0 := by rw [hRe]
  have hRc : R.cells = 0 := by rw [hRe]
  have hRs : R.slots = 0 := by rw [hRe]
  refine lv_aload_n hx hb dX7_blame_0 rfl (lv_at hl 0 rfl) ?_
  refine va_get (D := G) (ci := 7) (v := .int i_0) (C := RX7) (T := TX7) (N := 8) hx hb hts (mm_i inlX7) hown hK.1 hP 0 rfl rfl 2 (by decide) (mm_h hts mm_w205) (fun _ h9 => h9) rfl dX7_blame_1 ?_
  refine lv_if_ne (tgt := 20) hx hb dX7_blame_4 (by decide) (fun c1 => ?_) (fun c1 => ?_)
  · have q2 := mm_neL (lo := 1) (mm_ne c1) h0 mm_k0 (by decide) (by decide)
    subst hAe
    rw [hQ]
    exact W.vret hx hb hr (fun t ht hW => ⟨⟨(i_0, i_1), rfl, q2, by rw [ht]; exact hP, hK.warm hW, hD⟩, hS.F ht⟩) hS.2.2 dX7_blame_20
  · have q3 := mm_eqI (lo := 0) (hi := 0) c1 h0 mm_k0 (by decide)
    refine lv_aload_n hx hb dX7_blame_7 rfl (lv_at hl 0 rfl) ?_
    refine lv_iload_n hx hb dX7_blame_8 rfl (lv_at hl 1 rfl) ?_
    refine va_put (D := G) (ci := 7) (v := .int 3) (ty := tyX7 2) (C := RX7) (T := TX7) (N := 8) hx hb hts (mm_i inlX7) tyX7 tyX7_ok nmX7 hown hK.1 hP hD hS 0 rfl rfl 2 (by decide) (mm_h hts mm_w205) (fun _ h9 => h9) rfl (tyX7_ok 2 (by decide)) rfl rfl (Nat.le_of_ble_eq_true rfl) dX7_blame_9 ?_
    clear hP hD hS
    clear H locs
    intro H locs (hP : va_P G vwCl [(a_0, .inr (7, [.ref a_1, .ref a_2, .int 3, .int i_1, .int i_2, .int i_3, .int i_4, .int i_5]))] H) (hD : va_D A [(a_0, .inr (7, [.ref a_1, .ref a_2, .int 3, .int i_1, .int i_2, .int i_3, .int i_4, .int i_5]))]) hS
    refine lv_aload_n hx hb dX7_blame_12 rfl (lv_at hl 0 rfl) ?_
    refine lv_aload_n hx hb dX7_blame_13 rfl (lv_at hl 0 rfl) ?_
    refine va_get (D := G) (ci := 7) (v := .int i_3) (C := RX7) (T := TX7) (N := 8) hx hb hts (mm_i inlX7) hown hK.1 hP 0 rfl rfl 5 (by decide) (mm_h hts mm_w232) (fun _ h9 => h9) rfl dX7_blame_14 ?_
    refine va_put (D := G) (ci := 7) (v := .int i_3) (ty := tyX7 3) (C := RX7) (T := TX7) (N := 8) hx hb hts (mm_i inlX7) tyX7 tyX7_ok nmX7 hown hK.1 hP hD hS 0 rfl rfl 3 (by decide) (mm_h hts mm_w66) (fun _ h9 => h9) rfl (tyX7_ok 3 (by decide)) rfl rfl (Nat.le_of_ble_eq_true rfl) dX7_blame_17 ?_
    clear hP hD hS
    clear H locs
    intro H locs (hP : va_P G vwCl [(a_0, .inr (7, [.ref a_1, .ref a_2, .int 3, .int i_3, .int i_2, .int i_3, .int i_4, .int i_5]))] H) (hD : va_D A [(a_0, .inr (7, [.ref a_1, .ref a_2, .int 3, .int i_3, .int i_2, .int i_3, .int i_4, .int i_5]))]) hS
    subst hAe
    rw [hQ]
    exact W.vret hx hb hr (fun t ht hW => ⟨⟨(3, i_3), rfl, (mm_wk mm_k3 (by decide)), by rw [ht]; exact hP, hK.warm hW, hD⟩, hS.F ht⟩) hS.2.2 dX7_blame_20

set_option maxHeartbeats 4000000 in
set_option maxRecDepth 100000 in
theorem K106_X7_takeTextLine (l : Launch) (G : va_G) (cy : Nat → ClassId) (sz : Nat) (a_0 : Nat) (a_1 : Nat) (a_2 : Nat) (i_0 : Int32) (f_0 : Nat → Int32) (a_3 : Nat) (i_1 : Int32) (i_2 : Int32) (i_3 : Int32) (i_4 : Int32) (i_5 : Int32) (i_6 : Int32) (i_7 : Int32) (i_8 : Int32) (i_9 : Int32) (i_10 : Int32) (i_11 : Int32) (i_12 : Int32) (i_13 : Int32) (i_14 : Int32) (a_4 : Nat) (a_5 : Nat) (a_6 : Nat) (a_7 : Nat) (a_8 : Nat) (a_9 : Nat) (a_10 : Nat) (a_11 : Nat) (a_12 : Nat) (a_13 : Nat) (f_1 : Nat → Int32) (f_2 : Nat → Int32) (h0 : mm_rg i_0 0 600) (h1 : mm_ar f_0 (-128) 127) (h2 : mm_rg i_1 0 3) (h3 : mm_rg i_3 0 5) (h4 : mm_rg i_4 0 600) (h5 : mm_rg i_5 0 600) (h6 : mm_rg i_11 0 9) (h7 : mm_rg i_13 0 6) (h8 : mm_ar f_1 0 8) (h9 : mm_ar f_2 0 9)  : mm_CV l yX7_takeTextLine (mm_ws yX7_takeTextLine cX7_takeTextLine 3 (none)) ({ frames := 3, cells := 0, slots := 0, locals := 68 } : Room) G cy sz [(a_1, .inr (9, [.ref a_2, .int i_0])), (a_2, .inl (cy 0, 600, .inl f_0)), (a_0, .inr (7, [.ref a_1, .ref a_3, .int i_1, .int i_2, .int i_3, .int i_4, .int i_5, .int i_6])), (a_3, .inr (0, [.int i_7, .int i_8, .int i_9, .int i_10, .int i_11, .int i_12, .int i_13, .int i_14, .ref a_4, .ref a_5, .ref a_6, .ref a_7, .ref a_8, .ref a_9, .ref a_10, .ref a_11, .ref a_12, .ref a_13])), (a_8, .inl (cy 1, 6, .inl f_1)), (a_9, .inl (cy 1, 48, .inl f_2))] [.ref a_0] (fun u : Int32 × Int32 × Int32 × Int32 × Int32 × Int32 × Int32 × (Nat → Int32) × (Nat → Int32) => [(a_1, .inr (9, [.ref a_2, .int i_0])), (a_2, .inl (cy 0, 600, .inl f_0)), (a_0, .inr (7, [.ref a_1, .ref a_3, .int u.1, .int u.2.1, .int u.2.2.1, .int u.2.2.2.1, .int u.2.2.2.2.1, .int u.2.2.2.2.2.1])), (a_3, .inr (0, [.int i_7, .int i_8, .int i_9, .int i_10, .int i_11, .int i_12, .int u.2.2.2.2.2.2.1, .int i_14, .ref a_4, .ref a_5, .ref a_6, .ref a_7, .ref a_8, .ref a_9, .ref a_10, .ref a_11, .ref a_12, .ref a_13])), (a_8, .inl (cy 1, 6, .inl u.2.2.2.2.2.2.2.1)), (a_9, .inl (cy 1, 48, .inl u.2.2.2.2.2.2.2.2))]) (fun u : Int32 × Int32 × Int32 × Int32 × Int32 × Int32 × Int32 × (Nat → Int32) × (Nat → Int32) => mm_rg u.1 0 3 ∧ mm_rg u.2.2.1 0 5 ∧ mm_rg u.2.2.2.1 0 600 ∧ mm_rg u.2.2.2.2.1 0 600 ∧ mm_rg u.2.2.2.2.2.2.1 1 6 ∧ mm_ar u.2.2.2.2.2.2.2.1 0 8 ∧ mm_ar u.2.2.2.2.2.2.2.2 0 9) 0 0 := by
  refine mm_begin (lv := [(0, .ref a_0)]) (by decide) (Nat.le_of_ble_eq_true rfl) rfl ?_
  intro p e s m below meth c A ls R args Q H locs hRe hQ hAe hx hb hr hlocks hml hown hnm hts hsz hA hS hP hK hD hZ hl
  have hRf : R.frames = 3 := by rw [hRe]
  have hRl : R.locals = 68 := by rw [hRe]
  have hRc : R.cells = 0 := by rw [hRe]
  have hRs : R.slots = 0 := by rw [hRe]
  refine lv_aload_n hx hb dX7_takeTextLine_0 rfl (lv_at hl 0 rfl) ?_
  refine va_get (D := G) (ci := 7) (v := .ref a_3) (C := RX7) (T := TX7) (N := 8) hx hb hts (mm_i inlX7) hown hK.1 hP 2 rfl rfl 1 (by decide) (mm_h hts mm_w65) (fun _ h9 => h9) rfl dX7_takeTextLine_1 ?_
  refine va_get (D := G) (ci := 0) (v := .int i_13) (C := RX0) (T := TX0) (N := 18) hx hb hts (mm_i inlX0) hown hK.1 hP 3 rfl rfl 6 (by decide) (mm_h hts mm_w323) (fun _ h9 => h9) rfl dX7_takeTextLine_4 ?_
  refine lv_bipush (v := 6) hx hb dX7_takeTextLine_7 (by decide) ?_
  refine lv_icmp_lt (tgt := 18) hx hb dX7_takeTextLine_9 (by decide) (fun c1 => ?_) (fun c1 => ?_)
  · have q2 := mm_ltL (h := 5) (mm_lt c1) h7 mm_k6 (by decide)
    refine lv_aload_n hx hb dX7_takeTextLine_18 rfl (lv_at hl 0 rfl) ?_
    refine mm_finv (va_runV (As := []) (rest := []) ⟨hx, hb, hml, hown, hts⟩ (K9_X7_nextToken l G cy H.size a_0 a_1 a_2 i_0 f_0 a_3 i_1 i_2 i_3 i_4 i_5 i_6 h0 h1 h3 h4 h5) (cwV 0 hts (mm_gV mm_w227 mm_w228 mm_w229 mm_w19 mm_w230) rfl rfl rfl hd_X7_nextToken ⟨by rw [hRf]; exact Nat.le_of_ble_eq_true rfl, by rw [hRl]; exact Nat.le_of_ble_eq_true rfl⟩) (mm_preV hK hZ hS hA hP hD [0, 1, 2] rfl rfl 2 rfl rfl rfl) rfl rfl hl.1 rfl (lv_room (Nat.le_of_ble_eq_true rfl)) dX7_takeTextLine_19 ⟨by rw [hRc]; exact Nat.le_of_ble_eq_true rfl, by rw [hRs]; exact Nat.le_of_ble_eq_true rfl⟩) hP hD hS hA (fun u : Int32 × Int32 × Int32 × Int32 => [(a_1, .inr (9, [.ref a_2, .int i_0])), (a_2, .inl (cy 0, 600, .inl f_0)), (a_0, .inr (7, [.ref a_1, .ref a_3, .int i_1, .int i_2, .int u.1, .int u.2.1, .int u.2.2.1, .int u.2.2.2])), (a_3, .inr (0, [.int i_7, .int i_8, .int i_9, .int i_10, .int i_11, .int i_12, .int i_13, .int i_14, .ref a_4, .ref a_5, .ref a_6, .ref a_7, .ref a_8, .ref a_9, .ref a_10, .ref a_11, .ref a_12, .ref a_13])), (a_8, .inl (cy 1, 6, .inl f_1)), (a_9, .inl (cy 1, 48, .inl f_2))]) [0, 1, 2] [3, 4, 5] (n := 6) (fun _ => rfl) (by decide +kernel) (by decide +kernel) rfl (fun _ => rfl) (wr := [(a_3, .inr (0, [.int i_7, .int i_8, .int i_9, .int i_10, .int i_11, .int i_12, .int i_13, .int i_14, .ref a_4, .ref a_5, .ref a_6, .ref a_7, .ref a_8, .ref a_9, .ref a_10, .ref a_11, .ref a_12, .ref a_13])), (a_8, .inl (cy 1, 6, .inl f_1)), (a_9, .inl (cy 1, 48, .inl f_2))]) rfl (fun _ => rfl) (fun _ => rfl) ?_
    clear hP hD hS
    clear H locs
    intro u
    obtain ⟨n3, n4, n5, n6⟩ := u
    intro H locs hw (hP : va_P G vwCl [(a_1, .inr (9, [.ref a_2, .int i_0])), (a_2, .inl (cy 0, 600, .inl f_0)), (a_0, .inr (7, [.ref a_1, .ref a_3, .int i_1, .int i_2, .int n3, .int n4, .int n5, .int n6])), (a_3, .inr (0, [.int i_7, .int i_8, .int i_9, .int i_10, .int i_11, .int i_12, .int i_13, .int i_14, .ref a_4, .ref a_5, .ref a_6, .ref a_7, .ref a_8, .ref a_9, .ref a_10, .ref a_11, .ref a_12, .ref a_13])), (a_8, .inl (cy 1, 6, .inl f_1)), (a_9, .inl (cy 1, 48, .inl f_2))] H) (hD : va_D A [(a_1, .inr (9, [.ref a_2, .int i_0])), (a_2, .inl (cy 0, 600, .inl f_0)), (a_0, .inr (7, [.ref a_1, .ref a_3, .int i_1, .int i_2, .int n3, .int n4, .int n5, .int n6])), (a_3, .inr (0, [.int i_7, .int i_8, .int i_9, .int i_10, .int i_11, .int i_12, .int i_13, .int i_14, .ref a_4, .ref a_5, .ref a_6, .ref a_7, .ref a_8, .ref a_9, .ref a_10, .ref a_11, .ref a_12, .ref a_13])), (a_8, .inl (cy 1, 6, .inl f_1)), (a_9, .inl (cy 1, 48, .inl f_2))]) hS
    obtain ⟨w7, w8, w9⟩ := hw
    refine lv_aload_n hx hb dX7_takeTextLine_22 rfl (lv_at hl 0 rfl) ?_
    refine va_get (D := G) (ci := 7) (v := .ref a_3) (C := RX7) (T := TX7) (N := 8) hx hb hts (mm_i inlX7) hown hK.1 hP 2 rfl rfl 1 (by decide) (mm_h hts mm_w65) (fun _ h9 => h9) rfl dX7_takeTextLine_23 ?_
    refine va_get (D := G) (ci := 0) (v := .int i_13) (C := RX0) (T := TX0) (N := 18) hx hb hts (mm_i inlX0) hown hK.1 hP 3 rfl rfl 6 (by decide) (mm_h hts mm_w323) (fun _ h9 => h9) rfl dX7_takeTextLine_26 ?_
    refine lv_istore_n (lv' := [(1, .int i_13), (0, .ref a_0)]) hx hb dX7_takeTextLine_29 rfl hl (by decide) rfl ?_
    clear hl
    clear ls
    intro ls hl
    refine lv_aload_n hx hb dX7_takeTextLine_30 rfl (lv_at hl 1 rfl) ?_
    refine va_get (D := G) (ci := 7) (v := .ref a_3) (C := RX7) (T := TX7) (N := 8) hx hb hts (mm_i inlX7) hown hK.1 hP 2 rfl rfl 1 (by decide) (mm_h hts mm_w65) (fun _ h9 => h9) rfl dX7_takeTextLine_31 ?_
    refine lv_dup hx hb dX7_takeTextLine_34 rfl ?_
    refine va_get (D := G) (ci := 0) (v := .int i_13) (C := RX0) (T := TX0) (N := 18) hx hb hts (mm_i inlX0) hown hK.1 hP 3 rfl rfl 6 (by decide) (mm_h hts mm_w323) (fun _ h9 => h9) rfl dX7_takeTextLine_35 ?_
    refine lv_iconst (v := 1) hx hb dX7_takeTextLine_38 (by decide) ?_
    refine lv_iadd hx hb dX7_takeTextLine_39 ?_
    refine lv_topi (fun v10 ev10 => ?_)
    have rv10 : mm_rg v10 1 6 := mm_add ev10 q2 mm_k1 (by decide) (by decide)
    have tv10 := mm_addEc ev10 q2 mm_k1 (by decide) (k := 1) (by decide)
    refine va_put (D := G) (ci := 0) (v := .int v10) (ty := tyX0 6) (C := RX0) (T := TX0) (N := 18) hx hb hts (mm_i inlX0) tyX0 tyX0_ok nmX0 hown hK.1 hP hD hS 3 rfl rfl 6 (by decide) (mm_h hts mm_w323) (fun _ h9 => h9) rfl (tyX0_ok 6 (by decide)) rfl rfl (Nat.le_of_ble_eq_true rfl) dX7_takeTextLine_40 ?_
    clear hP hD hS
    clear H locs
    intro H locs (hP : va_P G vwCl [(a_1, .inr (9, [.ref a_2, .int i_0])), (a_2, .inl (cy 0, 600, .inl f_0)), (a_0, .inr (7, [.ref a_1, .ref a_3, .int i_1, .int i_2, .int n3, .int n4, .int n5, .int n6])), (a_3, .inr (0, [.int i_7, .int i_8, .int i_9, .int i_10, .int i_11, .int i_12, .int v10, .int i_14, .ref a_4, .ref a_5, .ref a_6, .ref a_7, .ref a_8, .ref a_9, .ref a_10, .ref a_11, .ref a_12, .ref a_13])), (a_8, .inl (cy 1, 6, .inl f_1)), (a_9, .inl (cy 1, 48, .inl f_2))] H) (hD : va_D A [(a_1, .inr (9, [.ref a_2, .int i_0])), (a_2, .inl (cy 0, 600, .inl f_0)), (a_0, .inr (7, [.ref a_1, .ref a_3, .int i_1, .int i_2, .int n3, .int n4, .int n5, .int n6])), (a_3, .inr (0, [.int i_7, .int i_8, .int i_9, .int i_10, .int i_11, .int i_12, .int v10, .int i_14, .ref a_4, .ref a_5, .ref a_6, .ref a_7, .ref a_8, .ref a_9, .ref a_10, .ref a_11, .ref a_12, .ref a_13])), (a_8, .inl (cy 1, 6, .inl f_1)), (a_9, .inl (cy 1, 48, .inl f_2))]) hS
    refine lv_aload_n hx hb dX7_takeTextLine_43 rfl (lv_at hl 1 rfl) ?_
    refine va_get (D := G) (ci := 7) (v := .ref a_3) (C := RX7) (T := TX7) (N := 8) hx hb hts (mm_i inlX7) hown hK.1 hP 2 rfl rfl 1 (by decide) (mm_h hts mm_w65) (fun _ h9 => h9) rfl dX7_takeTextLine_44 ?_
    refine lv_iload_n hx hb dX7_takeTextLine_47 rfl (lv_at hl 0 rfl) ?_
    refine lv_iconst (v := 0) hx hb dX7_takeTextLine_48 (by decide) ?_
    refine lv_aload_n hx hb dX7_takeTextLine_49 rfl (lv_at hl 1 rfl) ?_
    refine lv_iconst (v := 0) hx hb dX7_takeTextLine_50 (by decide) ?_
    refine lv_aload_n hx hb dX7_takeTextLine_51 rfl (lv_at hl 1 rfl) ?_
    refine va_get (D := G) (ci := 7) (v := .ref a_3) (C := RX7) (T := TX7) (N := 8) hx hb hts (mm_i inlX7) hown hK.1 hP 2 rfl rfl 1 (by decide) (mm_h hts mm_w65) (fun _ h9 => h9) rfl dX7_takeTextLine_52 ?_
    refine va_get (D := G) (ci := 0) (v := .int i_11) (C := RX0) (T := TX0) (N := 18) hx hb hts (mm_i inlX0) hown hK.1 hP 3 rfl rfl 4 (by decide) (mm_h hts mm_w324) (fun _ h9 => h9) rfl dX7_takeTextLine_55 ?_
    refine mm_fini (va_runV (As := [.int 0, .int i_11]) (rest := [.int 0, .int i_13, .ref a_3]) ⟨hx, hb, hml, hown, hts⟩ (K103_X7_takeNumber l G cy H.size a_0 i_11 a_1 a_2 i_0 f_0 a_3 i_1 i_2 n3 n4 n5 n6 h6 h0 h1 h2 w7 w8 w9) (cwV 2 hts (mm_gV mm_w315 mm_w316 mm_w317 mm_w19 mm_w318) rfl rfl rfl hd_X7_takeNumber ⟨by rw [hRf]; exact Nat.le_of_ble_eq_true rfl, by rw [hRl]; exact Nat.le_of_ble_eq_true rfl⟩) (mm_preV hK hZ hS hA hP hD [0, 1, 2] rfl rfl 2 rfl rfl rfl) rfl rfl hl.1 rfl (lv_room (Nat.le_of_ble_eq_true rfl)) dX7_takeTextLine_58 ⟨by rw [hRc]; exact Nat.le_of_ble_eq_true rfl, by rw [hRs]; exact Nat.le_of_ble_eq_true rfl⟩) hP hD hS hA (fun u : Int32 × Int32 × Int32 × Int32 × Int32 × Int32 => [(a_1, .inr (9, [.ref a_2, .int i_0])), (a_2, .inl (cy 0, 600, .inl f_0)), (a_0, .inr (7, [.ref a_1, .ref a_3, .int u.1, .int u.2.1, .int u.2.2.1, .int u.2.2.2.1, .int u.2.2.2.2.1, .int u.2.2.2.2.2])), (a_3, .inr (0, [.int i_7, .int i_8, .int i_9, .int i_10, .int i_11, .int i_12, .int v10, .int i_14, .ref a_4, .ref a_5, .ref a_6, .ref a_7, .ref a_8, .ref a_9, .ref a_10, .ref a_11, .ref a_12, .ref a_13])), (a_8, .inl (cy 1, 6, .inl f_1)), (a_9, .inl (cy 1, 48, .inl f_2))]) [0, 1, 2] [3, 4, 5] (n := 6) (fun _ => rfl) (by decide +kernel) (by decide +kernel) rfl (fun _ => rfl) (wr := [(a_3, .inr (0, [.int i_7, .int i_8, .int i_9, .int i_10, .int i_11, .int i_12, .int v10, .int i_14, .ref a_4, .ref a_5, .ref a_6, .ref a_7, .ref a_8, .ref a_9, .ref a_10, .ref a_11, .ref a_12, .ref a_13])), (a_8, .inl (cy 1, 6, .inl f_1)), (a_9, .inl (cy 1, 48, .inl f_2))]) rfl (fun _ => rfl) (fun _ => rfl) ?_
    clear hP hD hS
    clear H locs
    intro v17 u
    obtain ⟨n11, n12, n13, n14, n15, n16⟩ := u
    intro H locs hw (hP : va_P G vwCl [(a_1, .inr (9, [.ref a_2, .int i_0])), (a_2, .inl (cy 0, 600, .inl f_0)), (a_0, .inr (7, [.ref a_1, .ref a_3, .int n11, .int n12, .int n13, .int n14, .int n15, .int n16])), (a_3, .inr (0, [.int i_7, .int i_8, .int i_9, .int i_10, .int i_11, .int i_12, .int v10, .int i_14, .ref a_4, .ref a_5, .ref a_6, .ref a_7, .ref a_8, .ref a_9, .ref a_10, .ref a_11, .ref a_12, .ref a_13])), (a_8, .inl (cy 1, 6, .inl f_1)), (a_9, .inl (cy 1, 48, .inl f_2))] H) (hD : va_D A [(a_1, .inr (9, [.ref a_2, .int i_0])), (a_2, .inl (cy 0, 600, .inl f_0)), (a_0, .inr (7, [.ref a_1, .ref a_3, .int n11, .int n12, .int n13, .int n14, .int n15, .int n16])), (a_3, .inr (0, [.int i_7, .int i_8, .int i_9, .int i_10, .int i_11, .int i_12, .int v10, .int i_14, .ref a_4, .ref a_5, .ref a_6, .ref a_7, .ref a_8, .ref a_9, .ref a_10, .ref a_11, .ref a_12, .ref a_13])), (a_8, .inl (cy 1, 6, .inl f_1)), (a_9, .inl (cy 1, 48, .inl f_2))]) hS
    obtain ⟨w18, w19, w20, w21, hw⟩ := hw
    have w22 := hw
    refine mm_finv (va_runV (As := [.int i_13, .int 0, .int v17]) (rest := []) ⟨hx, hb, hml, hown, hts⟩ (K104_X0_setWordAt l G cy H.size a_3 i_13 0 v17 i_7 i_8 i_9 i_10 i_11 i_12 v10 i_14 a_4 a_5 a_6 a_7 a_8 a_9 a_10 a_11 a_12 a_13 f_1 f_2 q2 (mm_wk mm_k0 (by decide)) w22 h8 h9) (cwV 3 hts (mm_gV mm_w368 mm_w369 mm_w370 mm_w28 mm_w371) rfl rfl rfl hd_X0_setWordAt ⟨by rw [hRf]; exact Nat.le_of_ble_eq_true rfl, by rw [hRl]; exact Nat.le_of_ble_eq_true rfl⟩) (mm_preV hK hZ hS hA hP hD [3, 4, 5] rfl rfl 3 rfl rfl rfl) rfl rfl hl.1 rfl (lv_room (Nat.le_of_ble_eq_true rfl)) dX7_takeTextLine_61 ⟨by rw [hRc]; exact Nat.le_of_ble_eq_true rfl, by rw [hRs]; exact Nat.le_of_ble_eq_true rfl⟩) hP hD hS hA (fun u : (Nat → Int32) × (Nat → Int32) => [(a_1, .inr (9, [.ref a_2, .int i_0])), (a_2, .inl (cy 0, 600, .inl f_0)), (a_0, .inr (7, [.ref a_1, .ref a_3, .int n11, .int n12, .int n13, .int n14, .int n15, .int n16])), (a_3, .inr (0, [.int i_7, .int i_8, .int i_9, .int i_10, .int i_11, .int i_12, .int v10, .int i_14, .ref a_4, .ref a_5, .ref a_6, .ref a_7, .ref a_8, .ref a_9, .ref a_10, .ref a_11, .ref a_12, .ref a_13])), (a_8, .inl (cy 1, 6, .inl u.1)), (a_9, .inl (cy 1, 48, .inl u.2))]) [3, 4, 5] [0, 1, 2] (n := 6) (fun _ => rfl) (by decide +kernel) (by decide +kernel) rfl (fun _ => rfl) (wr := [(a_1, .inr (9, [.ref a_2, .int i_0])), (a_2, .inl (cy 0, 600, .inl f_0)), (a_0, .inr (7, [.ref a_1, .ref a_3, .int n11, .int n12, .int n13, .int n14, .int n15, .int n16]))]) rfl (fun _ => rfl) (fun _ => rfl) ?_
    clear hP hD hS
    clear H locs
    intro u
    obtain ⟨n23, n24⟩ := u
    intro H locs hw (hP : va_P G vwCl [(a_1, .inr (9, [.ref a_2, .int i_0])), (a_2, .inl (cy 0, 600, .inl f_0)), (a_0, .inr (7, [.ref a_1, .ref a_3, .int n11, .int n12, .int n13, .int n14, .int n15, .int n16])), (a_3, .inr (0, [.int i_7, .int i_8, .int i_9, .int i_10, .int i_11, .int i_12, .int v10, .int i_14, .ref a_4, .ref a_5, .ref a_6, .ref a_7, .ref a_8, .ref a_9, .ref a_10, .ref a_11, .ref a_12, .ref a_13])), (a_8, .inl (cy 1, 6, .inl n23)), (a_9, .inl (cy 1, 48, .inl n24))] H) (hD : va_D A [(a_1, .inr (9, [.ref a_2, .int i_0])), (a_2, .inl (cy 0, 600, .inl f_0)), (a_0, .inr (7, [.ref a_1, .ref a_3, .int n11, .int n12, .int n13, .int n14, .int n15, .int n16])), (a_3, .inr (0, [.int i_7, .int i_8, .int i_9, .int i_10, .int i_11, .int i_12, .int v10, .int i_14, .ref a_4, .ref a_5, .ref a_6, .ref a_7, .ref a_8, .ref a_9, .ref a_10, .ref a_11, .ref a_12, .ref a_13])), (a_8, .inl (cy 1, 6, .inl n23)), (a_9, .inl (cy 1, 48, .inl n24))]) hS
    obtain ⟨w25, w26⟩ := hw
    refine lv_iconst (v := 1) hx hb dX7_takeTextLine_64 (by decide) ?_
    refine lv_istore_n (lv' := [(2, .int 1), (1, .int i_13), (0, .ref a_0)]) hx hb dX7_takeTextLine_65 rfl hl (by decide) rfl ?_
    clear hl
    clear ls
    intro ls hl
    have L66_319 : ∀ (n : Nat) (x66_2_311 : Int32) (y66_2_2_312 : Int32) (y66_2_3_313 : Int32) (y66_2_4_314 : Int32) (y66_2_5_315 : Int32) (y66_2_6_316 : Int32) (y66_2_7_317 : Int32) (z66_4_318 : Nat → Int32) (z66_5_319 : Nat → Int32), mm_rg x66_2_311 1 8 → mm_rg y66_2_2_312 0 3 → mm_rg y66_2_4_314 0 5 → mm_rg y66_2_5_315 0 600 → mm_rg y66_2_6_316 0 600 → mm_ar z66_4_318 0 8 → mm_ar z66_5_319 0 9 → (8 - x66_2_311.toInt).toNat < n → ∀ (H : Heap) (locs : List Loc), va_P G vwCl [(a_1, .inr (9, [.ref a_2, .int i_0])), (a_2, .inl (cy 0, 600, .inl f_0)), (a_0, .inr (7, [.ref a_1, .ref a_3, .int y66_2_2_312, .int y66_2_3_313, .int y66_2_4_314, .int y66_2_5_315, .int y66_2_6_316, .int y66_2_7_317])), (a_3, .inr (0, [.int i_7, .int i_8, .int i_9, .int i_10, .int i_11, .int i_12, .int v10, .int i_14, .ref a_4, .ref a_5, .ref a_6, .ref a_7, .ref a_8, .ref a_9, .ref a_10, .ref a_11, .ref a_12, .ref a_13])), (a_8, .inl (cy 1, 6, .inl z66_4_318)), (a_9, .inl (cy 1, 48, .inl z66_5_319))] H → va_D A [(a_1, .inr (9, [.ref a_2, .int i_0])), (a_2, .inl (cy 0, 600, .inl f_0)), (a_0, .inr (7, [.ref a_1, .ref a_3, .int y66_2_2_312, .int y66_2_3_313, .int y66_2_4_314, .int y66_2_5_315, .int y66_2_6_316, .int y66_2_7_317])), (a_3, .inr (0, [.int i_7, .int i_8, .int i_9, .int i_10, .int i_11, .int i_12, .int v10, .int i_14, .ref a_4, .ref a_5, .ref a_6, .ref a_7, .ref a_8, .ref a_9, .ref a_10, .ref a_11, .ref a_12, .ref a_13])), (a_8, .inl (cy 1, 6, .inl z66_4_318)), (a_9, .inl (cy 1, 48, .inl z66_5_319))] → va_S A s.heap H locs → ∀ (ls : Array Slot), lv_has ls 3 [(2, .int x66_2_311), (1, .int i_13), (0, .ref a_0)] → W p l e R s m args below meth c H locs 0 0 Q (F0 m 66 ls []) := by
      intro n
      induction n with
      | zero => intro x66_2_311 y66_2_2_312 y66_2_3_313 y66_2_4_314 y66_2_5_315 y66_2_6_316 y66_2_7_317 z66_4_318 z66_5_319 rx66_2_311 ry66_2_2_312 ry66_2_4_314 ry66_2_5_315 ry66_2_6_316 rz66_4_318 rz66_5_319 hm; exact absurd hm (Nat.not_lt_zero _)
      | succ n ih66 =>
        intro x66_2_311 y66_2_2_312 y66_2_3_313 y66_2_4_314 y66_2_5_315 y66_2_6_316 y66_2_7_317 z66_4_318 z66_5_319 rx66_2_311 ry66_2_2_312 ry66_2_4_314 ry66_2_5_315 ry66_2_6_316 rz66_4_318 rz66_5_319 hm66 H locs hP hD hS ls hl
        refine lv_iload_n hx hb dX7_takeTextLine_66 rfl (lv_at hl 0 rfl) ?_
        refine lv_bipush (v := 8) hx hb dX7_takeTextLine_67 (by decide) ?_
        refine lv_icmp_ge (tgt := 114) hx hb dX7_takeTextLine_69 (by decide) (fun c321 => ?_) (fun c321 => ?_)
        · have q322 := mm_leR (mm_le c321) mm_k8 rx66_2_311
          refine lv_aload_n hx hb dX7_takeTextLine_114 rfl (lv_at hl 2 rfl) ?_
          refine va_get (D := G) (ci := 7) (v := .int y66_2_2_312) (C := RX7) (T := TX7) (N := 8) hx hb hts (mm_i inlX7) hown hK.1 hP 2 rfl rfl 2 (by decide) (mm_h hts mm_w205) (fun _ h9 => h9) rfl dX7_takeTextLine_115 ?_
          refine lv_if_ne (tgt := 152) hx hb dX7_takeTextLine_118 (by decide) (fun c323 => ?_) (fun c323 => ?_)
          · have q324 := mm_neL (lo := 1) (mm_ne c323) ry66_2_2_312 mm_k0 (by decide) (by decide)
            subst hAe
            rw [hQ]
            exact W.vret hx hb hr (fun t ht hW => ⟨⟨(y66_2_2_312, y66_2_3_313, y66_2_4_314, y66_2_5_315, y66_2_6_316, y66_2_7_317, v10, z66_4_318, z66_5_319), rfl, ⟨(mm_wk q324 (by decide)), ry66_2_4_314, ry66_2_5_315, ry66_2_6_316, rv10, rz66_4_318, rz66_5_319⟩, by rw [ht]; exact hP, hK.warm hW, hD⟩, hS.F ht⟩) hS.2.2 dX7_takeTextLine_152
          · have q325 := mm_eqI (lo := 0) (hi := 0) c323 ry66_2_2_312 mm_k0 (by decide)
            refine lv_aload_n hx hb dX7_takeTextLine_121 rfl (lv_at hl 2 rfl) ?_
            refine va_get (D := G) (ci := 7) (v := .int y66_2_4_314) (C := RX7) (T := TX7) (N := 8) hx hb hts (mm_i inlX7) hown hK.1 hP 2 rfl rfl 4 (by decide) (mm_h hts mm_w207) (fun _ h9 => h9) rfl dX7_takeTextLine_122 ?_
            refine lv_iconst (v := 3) hx hb dX7_takeTextLine_125 (by decide) ?_
            refine lv_icmp_ne (tgt := 152) hx hb dX7_takeTextLine_126 (by decide) (fun c326 => ?_) (fun c326 => ?_)
            · subst hAe
              rw [hQ]
              exact W.vret hx hb hr (fun t ht hW => ⟨⟨(y66_2_2_312, y66_2_3_313, y66_2_4_314, y66_2_5_315, y66_2_6_316, y66_2_7_317, v10, z66_4_318, z66_5_319), rfl, ⟨(mm_wk q325 (by decide)), ry66_2_4_314, ry66_2_5_315, ry66_2_6_316, rv10, rz66_4_318, rz66_5_319⟩, by rw [ht]; exact hP, hK.warm hW, hD⟩, hS.F ht⟩) hS.2.2 dX7_takeTextLine_152
            · have q327 := mm_eqI (lo := 3) (hi := 3) c326 ry66_2_4_314 mm_k3 (by decide)
              refine lv_aload_n hx hb dX7_takeTextLine_129 rfl (lv_at hl 2 rfl) ?_
              refine lv_aload_n hx hb dX7_takeTextLine_130 rfl (lv_at hl 2 rfl) ?_
              refine va_get (D := G) (ci := 7) (v := .int y66_2_7_317) (C := RX7) (T := TX7) (N := 8) hx hb hts (mm_i inlX7) hown hK.1 hP 2 rfl rfl 7 (by decide) (mm_h hts mm_w233) (fun _ h9 => h9) rfl dX7_takeTextLine_131 ?_
              refine lv_aload_n hx hb dX7_takeTextLine_134 rfl (lv_at hl 2 rfl) ?_
              refine va_get (D := G) (ci := 7) (v := .ref a_3) (C := RX7) (T := TX7) (N := 8) hx hb hts (mm_i inlX7) hown hK.1 hP 2 rfl rfl 1 (by decide) (mm_h hts mm_w65) (fun _ h9 => h9) rfl dX7_takeTextLine_135 ?_
              refine va_get (D := G) (ci := 0) (v := .int i_11) (C := RX0) (T := TX0) (N := 18) hx hb hts (mm_i inlX0) hown hK.1 hP 3 rfl rfl 4 (by decide) (mm_h hts mm_w324) (fun _ h9 => h9) rfl dX7_takeTextLine_138 ?_
              refine lv_icmp_gt (tgt := 148) hx hb dX7_takeTextLine_141 (by decide) (fun c328 => ?_) (fun c328 => ?_)
              · have q329 := mm_ltR (lo := 1) (mm_lt c328) h6 (mm_top y66_2_7_317) (by decide)
                refine lv_iconst (v := 2) hx hb dX7_takeTextLine_148 (by decide) ?_
                refine mm_finv (va_runV (As := [.int 2]) (rest := []) ⟨hx, hb, hml, hown, hts⟩ (K102_X7_blame l G cy H.size a_0 a_1 a_3 y66_2_2_312 y66_2_3_313 y66_2_4_314 y66_2_5_315 y66_2_6_316 y66_2_7_317 (mm_wk q325 (by decide)) ry66_2_5_315) (cwV 1 hts (mm_gV mm_w311 mm_w312 mm_w313 mm_w19 mm_w314) rfl rfl rfl hd_X7_blame ⟨by rw [hRf]; exact Nat.le_of_ble_eq_true rfl, by rw [hRl]; exact Nat.le_of_ble_eq_true rfl⟩) (mm_preV hK hZ hS hA hP hD [2] rfl rfl 2 rfl rfl rfl) rfl rfl hl.1 rfl (lv_room (Nat.le_of_ble_eq_true rfl)) dX7_takeTextLine_149 ⟨by rw [hRc]; exact Nat.le_of_ble_eq_true rfl, by rw [hRs]; exact Nat.le_of_ble_eq_true rfl⟩) hP hD hS hA (fun u : Int32 × Int32 => [(a_1, .inr (9, [.ref a_2, .int i_0])), (a_2, .inl (cy 0, 600, .inl f_0)), (a_0, .inr (7, [.ref a_1, .ref a_3, .int u.1, .int u.2, .int y66_2_4_314, .int y66_2_5_315, .int y66_2_6_316, .int y66_2_7_317])), (a_3, .inr (0, [.int i_7, .int i_8, .int i_9, .int i_10, .int i_11, .int i_12, .int v10, .int i_14, .ref a_4, .ref a_5, .ref a_6, .ref a_7, .ref a_8, .ref a_9, .ref a_10, .ref a_11, .ref a_12, .ref a_13])), (a_8, .inl (cy 1, 6, .inl z66_4_318)), (a_9, .inl (cy 1, 48, .inl z66_5_319))]) [2] [0, 1, 3, 4, 5] (n := 6) (fun _ => rfl) (by decide +kernel) (by decide +kernel) rfl (fun _ => rfl) (wr := [(a_1, .inr (9, [.ref a_2, .int i_0])), (a_2, .inl (cy 0, 600, .inl f_0)), (a_3, .inr (0, [.int i_7, .int i_8, .int i_9, .int i_10, .int i_11, .int i_12, .int v10, .int i_14, .ref a_4, .ref a_5, .ref a_6, .ref a_7, .ref a_8, .ref a_9, .ref a_10, .ref a_11, .ref a_12, .ref a_13])), (a_8, .inl (cy 1, 6, .inl z66_4_318)), (a_9, .inl (cy 1, 48, .inl z66_5_319))]) rfl (fun _ => rfl) (fun _ => rfl) ?_
                clear hP hD hS
                clear H locs
                intro u
                obtain ⟨n330, n331⟩ := u
                intro H locs hw (hP : va_P G vwCl [(a_1, .inr (9, [.ref a_2, .int i_0])), (a_2, .inl (cy 0, 600, .inl f_0)), (a_0, .inr (7, [.ref a_1, .ref a_3, .int n330, .int n331, .int y66_2_4_314, .int y66_2_5_315, .int y66_2_6_316, .int y66_2_7_317])), (a_3, .inr (0, [.int i_7, .int i_8, .int i_9, .int i_10, .int i_11, .int i_12, .int v10, .int i_14, .ref a_4, .ref a_5, .ref a_6, .ref a_7, .ref a_8, .ref a_9, .ref a_10, .ref a_11, .ref a_12, .ref a_13])), (a_8, .inl (cy 1, 6, .inl z66_4_318)), (a_9, .inl (cy 1, 48, .inl z66_5_319))] H) (hD : va_D A [(a_1, .inr (9, [.ref a_2, .int i_0])), (a_2, .inl (cy 0, 600, .inl f_0)), (a_0, .inr (7, [.ref a_1, .ref a_3, .int n330, .int n331, .int y66_2_4_314, .int y66_2_5_315, .int y66_2_6_316, .int y66_2_7_317])), (a_3, .inr (0, [.int i_7, .int i_8, .int i_9, .int i_10, .int i_11, .int i_12, .int v10, .int i_14, .ref a_4, .ref a_5, .ref a_6, .ref a_7, .ref a_8, .ref a_9, .ref a_10, .ref a_11, .ref a_12, .ref a_13])), (a_8, .inl (cy 1, 6, .inl z66_4_318)), (a_9, .inl (cy 1, 48, .inl z66_5_319))]) hS
                have w332 := hw
                subst hAe
                rw [hQ]
                exact W.vret hx hb hr (fun t ht hW => ⟨⟨(n330, n331, y66_2_4_314, y66_2_5_315, y66_2_6_316, y66_2_7_317, v10, z66_4_318, z66_5_319), rfl, ⟨(mm_wk w332 (by decide)), (mm_wk q327 (by decide)), ry66_2_5_315, ry66_2_6_316, rv10, rz66_4_318, rz66_5_319⟩, by rw [ht]; exact hP, hK.warm hW, hD⟩, hS.F ht⟩) hS.2.2 dX7_takeTextLine_152
              · have q333 := mm_leL (mm_nlt c328) (mm_top y66_2_7_317) h6
                refine lv_iconst (v := 3) hx hb dX7_takeTextLine_144 (by decide) ?_
                refine lv_goto (tgt := 149) hx hb dX7_takeTextLine_145 (by decide) ?_
                refine mm_finv (va_runV (As := [.int 3]) (rest := []) ⟨hx, hb, hml, hown, hts⟩ (K105_X7_blame l G cy H.size a_0 a_1 a_3 y66_2_2_312 y66_2_3_313 y66_2_4_314 y66_2_5_315 y66_2_6_316 y66_2_7_317 (mm_wk q325 (by decide)) ry66_2_5_315) (cwV 1 hts (mm_gV mm_w311 mm_w312 mm_w313 mm_w19 mm_w314) rfl rfl rfl hd_X7_blame ⟨by rw [hRf]; exact Nat.le_of_ble_eq_true rfl, by rw [hRl]; exact Nat.le_of_ble_eq_true rfl⟩) (mm_preV hK hZ hS hA hP hD [2] rfl rfl 2 rfl rfl rfl) rfl rfl hl.1 rfl (lv_room (Nat.le_of_ble_eq_true rfl)) dX7_takeTextLine_149 ⟨by rw [hRc]; exact Nat.le_of_ble_eq_true rfl, by rw [hRs]; exact Nat.le_of_ble_eq_true rfl⟩) hP hD hS hA (fun u : Int32 × Int32 => [(a_1, .inr (9, [.ref a_2, .int i_0])), (a_2, .inl (cy 0, 600, .inl f_0)), (a_0, .inr (7, [.ref a_1, .ref a_3, .int u.1, .int u.2, .int y66_2_4_314, .int y66_2_5_315, .int y66_2_6_316, .int y66_2_7_317])), (a_3, .inr (0, [.int i_7, .int i_8, .int i_9, .int i_10, .int i_11, .int i_12, .int v10, .int i_14, .ref a_4, .ref a_5, .ref a_6, .ref a_7, .ref a_8, .ref a_9, .ref a_10, .ref a_11, .ref a_12, .ref a_13])), (a_8, .inl (cy 1, 6, .inl z66_4_318)), (a_9, .inl (cy 1, 48, .inl z66_5_319))]) [2] [0, 1, 3, 4, 5] (n := 6) (fun _ => rfl) (by decide +kernel) (by decide +kernel) rfl (fun _ => rfl) (wr := [(a_1, .inr (9, [.ref a_2, .int i_0])), (a_2, .inl (cy 0, 600, .inl f_0)), (a_3, .inr (0, [.int i_7, .int i_8, .int i_9, .int i_10, .int i_11, .int i_12, .int v10, .int i_14, .ref a_4, .ref a_5, .ref a_6, .ref a_7, .ref a_8, .ref a_9, .ref a_10, .ref a_11, .ref a_12, .ref a_13])), (a_8, .inl (cy 1, 6, .inl z66_4_318)), (a_9, .inl (cy 1, 48, .inl z66_5_319))]) rfl (fun _ => rfl) (fun _ => rfl) ?_
                clear hP hD hS
                clear H locs
                intro u
                obtain ⟨n334, n335⟩ := u
                intro H locs hw (hP : va_P G vwCl [(a_1, .inr (9, [.ref a_2, .int i_0])), (a_2, .inl (cy 0, 600, .inl f_0)), (a_0, .inr (7, [.ref a_1, .ref a_3, .int n334, .int n335, .int y66_2_4_314, .int y66_2_5_315, .int y66_2_6_316, .int y66_2_7_317])), (a_3, .inr (0, [.int i_7, .int i_8, .int i_9, .int i_10, .int i_11, .int i_12, .int v10, .int i_14, .ref a_4, .ref a_5, .ref a_6, .ref a_7, .ref a_8, .ref a_9, .ref a_10, .ref a_11, .ref a_12, .ref a_13])), (a_8, .inl (cy 1, 6, .inl z66_4_318)), (a_9, .inl (cy 1, 48, .inl z66_5_319))] H) (hD : va_D A [(a_1, .inr (9, [.ref a_2, .int i_0])), (a_2, .inl (cy 0, 600, .inl f_0)), (a_0, .inr (7, [.ref a_1, .ref a_3, .int n334, .int n335, .int y66_2_4_314, .int y66_2_5_315, .int y66_2_6_316, .int y66_2_7_317])), (a_3, .inr (0, [.int i_7, .int i_8, .int i_9, .int i_10, .int i_11, .int i_12, .int v10, .int i_14, .ref a_4, .ref a_5, .ref a_6, .ref a_7, .ref a_8, .ref a_9, .ref a_10, .ref a_11, .ref a_12, .ref a_13])), (a_8, .inl (cy 1, 6, .inl z66_4_318)), (a_9, .inl (cy 1, 48, .inl z66_5_319))]) hS
                have w336 := hw
                subst hAe
                rw [hQ]
                exact W.vret hx hb hr (fun t ht hW => ⟨⟨(n334, n335, y66_2_4_314, y66_2_5_315, y66_2_6_316, y66_2_7_317, v10, z66_4_318, z66_5_319), rfl, ⟨(mm_wk w336 (by decide)), (mm_wk q327 (by decide)), ry66_2_5_315, ry66_2_6_316, rv10, rz66_4_318, rz66_5_319⟩, by rw [ht]; exact hP, hK.warm hW, hD⟩, hS.F ht⟩) hS.2.2 dX7_takeTextLine_152
        · have q337 := mm_ltL (h := 7) (mm_nle c321) rx66_2_311 mm_k8 (by decide)
          refine lv_aload_n hx hb dX7_takeTextLine_72 rfl (lv_at hl 2 rfl) ?_
          refine va_get (D := G) (ci := 7) (v := .int y66_2_2_312) (C := RX7) (T := TX7) (N := 8) hx hb hts (mm_i inlX7) hown hK.1 hP 2 rfl rfl 2 (by decide) (mm_h hts mm_w205) (fun _ h9 => h9) rfl dX7_takeTextLine_73 ?_
          refine lv_if_ne (tgt := 114) hx hb dX7_takeTextLine_76 (by decide) (fun c338 => ?_) (fun c338 => ?_)
          · have q339 := mm_neL (lo := 1) (mm_ne c338) ry66_2_2_312 mm_k0 (by decide) (by decide)
            refine lv_aload_n hx hb dX7_takeTextLine_114 rfl (lv_at hl 2 rfl) ?_
            refine va_get (D := G) (ci := 7) (v := .int y66_2_2_312) (C := RX7) (T := TX7) (N := 8) hx hb hts (mm_i inlX7) hown hK.1 hP 2 rfl rfl 2 (by decide) (mm_h hts mm_w205) (fun _ h9 => h9) rfl dX7_takeTextLine_115 ?_
            refine lv_if_ne (tgt := 152) hx hb dX7_takeTextLine_118 (by decide) (fun c340 => ?_) (fun c340 => ?_)
            · subst hAe
              rw [hQ]
              exact W.vret hx hb hr (fun t ht hW => ⟨⟨(y66_2_2_312, y66_2_3_313, y66_2_4_314, y66_2_5_315, y66_2_6_316, y66_2_7_317, v10, z66_4_318, z66_5_319), rfl, ⟨(mm_wk q339 (by decide)), ry66_2_4_314, ry66_2_5_315, ry66_2_6_316, rv10, rz66_4_318, rz66_5_319⟩, by rw [ht]; exact hP, hK.warm hW, hD⟩, hS.F ht⟩) hS.2.2 dX7_takeTextLine_152
            · exact mm_eqN c340.symm mm_k0 q339 (by decide)
          · have q341 := mm_eqI (lo := 0) (hi := 0) c338 ry66_2_2_312 mm_k0 (by decide)
            refine lv_aload_n hx hb dX7_takeTextLine_79 rfl (lv_at hl 2 rfl) ?_
            refine va_get (D := G) (ci := 7) (v := .int y66_2_4_314) (C := RX7) (T := TX7) (N := 8) hx hb hts (mm_i inlX7) hown hK.1 hP 2 rfl rfl 4 (by decide) (mm_h hts mm_w207) (fun _ h9 => h9) rfl dX7_takeTextLine_80 ?_
            refine lv_iconst (v := 3) hx hb dX7_takeTextLine_83 (by decide) ?_
            refine lv_icmp_ne (tgt := 114) hx hb dX7_takeTextLine_84 (by decide) (fun c342 => ?_) (fun c342 => ?_)
            · refine lv_aload_n hx hb dX7_takeTextLine_114 rfl (lv_at hl 2 rfl) ?_
              refine va_get (D := G) (ci := 7) (v := .int y66_2_2_312) (C := RX7) (T := TX7) (N := 8) hx hb hts (mm_i inlX7) hown hK.1 hP 2 rfl rfl 2 (by decide) (mm_h hts mm_w205) (fun _ h9 => h9) rfl dX7_takeTextLine_115 ?_
              refine lv_if_ne (tgt := 152) hx hb dX7_takeTextLine_118 (by decide) (fun c343 => ?_) (fun c343 => ?_)
              · have q344 := mm_neL (lo := 1) (mm_ne c343) q341 mm_k0 (by decide) (by decide)
                exact mm_no q344 (by decide)
              · refine lv_aload_n hx hb dX7_takeTextLine_121 rfl (lv_at hl 2 rfl) ?_
                refine va_get (D := G) (ci := 7) (v := .int y66_2_4_314) (C := RX7) (T := TX7) (N := 8) hx hb hts (mm_i inlX7) hown hK.1 hP 2 rfl rfl 4 (by decide) (mm_h hts mm_w207) (fun _ h9 => h9) rfl dX7_takeTextLine_122 ?_
                refine lv_iconst (v := 3) hx hb dX7_takeTextLine_125 (by decide) ?_
                refine lv_icmp_ne (tgt := 152) hx hb dX7_takeTextLine_126 (by decide) (fun c345 => ?_) (fun c345 => ?_)
                · subst hAe
                  rw [hQ]
                  exact W.vret hx hb hr (fun t ht hW => ⟨⟨(y66_2_2_312, y66_2_3_313, y66_2_4_314, y66_2_5_315, y66_2_6_316, y66_2_7_317, v10, z66_4_318, z66_5_319), rfl, ⟨(mm_wk q341 (by decide)), ry66_2_4_314, ry66_2_5_315, ry66_2_6_316, rv10, rz66_4_318, rz66_5_319⟩, by rw [ht]; exact hP, hK.warm hW, hD⟩, hS.F ht⟩) hS.2.2 dX7_takeTextLine_152
                · have q346 := mm_eqI (lo := 3) (hi := 3) c345 ry66_2_4_314 mm_k3 (by decide)
                  have q347 := mm_neL (lo := 4) (mm_ne c342) q346 mm_k3 (by decide) (by decide)
                  exact mm_no q347 (by decide)
            · have q348 := mm_eqI (lo := 3) (hi := 3) c342 ry66_2_4_314 mm_k3 (by decide)
              refine lv_aload_n hx hb dX7_takeTextLine_87 rfl (lv_at hl 2 rfl) ?_
              refine va_get (D := G) (ci := 7) (v := .ref a_3) (C := RX7) (T := TX7) (N := 8) hx hb hts (mm_i inlX7) hown hK.1 hP 2 rfl rfl 1 (by decide) (mm_h hts mm_w65) (fun _ h9 => h9) rfl dX7_takeTextLine_88 ?_
              refine lv_iload_n hx hb dX7_takeTextLine_91 rfl (lv_at hl 1 rfl) ?_
              refine lv_iload_n hx hb dX7_takeTextLine_92 rfl (lv_at hl 0 rfl) ?_
              refine lv_aload_n hx hb dX7_takeTextLine_93 rfl (lv_at hl 2 rfl) ?_
              refine lv_iconst (v := 0) hx hb dX7_takeTextLine_94 (by decide) ?_
              refine lv_aload_n hx hb dX7_takeTextLine_95 rfl (lv_at hl 2 rfl) ?_
              refine va_get (D := G) (ci := 7) (v := .ref a_3) (C := RX7) (T := TX7) (N := 8) hx hb hts (mm_i inlX7) hown hK.1 hP 2 rfl rfl 1 (by decide) (mm_h hts mm_w65) (fun _ h9 => h9) rfl dX7_takeTextLine_96 ?_
              refine va_get (D := G) (ci := 0) (v := .int i_11) (C := RX0) (T := TX0) (N := 18) hx hb hts (mm_i inlX0) hown hK.1 hP 3 rfl rfl 4 (by decide) (mm_h hts mm_w324) (fun _ h9 => h9) rfl dX7_takeTextLine_99 ?_
              refine mm_fini (va_runV (As := [.int 0, .int i_11]) (rest := [.int x66_2_311, .int i_13, .ref a_3]) ⟨hx, hb, hml, hown, hts⟩ (K103_X7_takeNumber l G cy H.size a_0 i_11 a_1 a_2 i_0 f_0 a_3 y66_2_2_312 y66_2_3_313 y66_2_4_314 y66_2_5_315 y66_2_6_316 y66_2_7_317 h6 h0 h1 (mm_wk q341 (by decide)) (mm_wk q348 (by decide)) ry66_2_5_315 ry66_2_6_316) (cwV 2 hts (mm_gV mm_w315 mm_w316 mm_w317 mm_w19 mm_w318) rfl rfl rfl hd_X7_takeNumber ⟨by rw [hRf]; exact Nat.le_of_ble_eq_true rfl, by rw [hRl]; exact Nat.le_of_ble_eq_true rfl⟩) (mm_preV hK hZ hS hA hP hD [0, 1, 2] rfl rfl 2 rfl rfl rfl) rfl rfl hl.1 rfl (lv_room (Nat.le_of_ble_eq_true rfl)) dX7_takeTextLine_102 ⟨by rw [hRc]; exact Nat.le_of_ble_eq_true rfl, by rw [hRs]; exact Nat.le_of_ble_eq_true rfl⟩) hP hD hS hA (fun u : Int32 × Int32 × Int32 × Int32 × Int32 × Int32 => [(a_1, .inr (9, [.ref a_2, .int i_0])), (a_2, .inl (cy 0, 600, .inl f_0)), (a_0, .inr (7, [.ref a_1, .ref a_3, .int u.1, .int u.2.1, .int u.2.2.1, .int u.2.2.2.1, .int u.2.2.2.2.1, .int u.2.2.2.2.2])), (a_3, .inr (0, [.int i_7, .int i_8, .int i_9, .int i_10, .int i_11, .int i_12, .int v10, .int i_14, .ref a_4, .ref a_5, .ref a_6, .ref a_7, .ref a_8, .ref a_9, .ref a_10, .ref a_11, .ref a_12, .ref a_13])), (a_8, .inl (cy 1, 6, .inl z66_4_318)), (a_9, .inl (cy 1, 48, .inl z66_5_319))]) [0, 1, 2] [3, 4, 5] (n := 6) (fun _ => rfl) (by decide +kernel) (by decide +kernel) rfl (fun _ => rfl) (wr := [(a_3, .inr (0, [.int i_7, .int i_8, .int i_9, .int i_10, .int i_11, .int i_12, .int v10, .int i_14, .ref a_4, .ref a_5, .ref a_6, .ref a_7, .ref a_8, .ref a_9, .ref a_10, .ref a_11, .ref a_12, .ref a_13])), (a_8, .inl (cy 1, 6, .inl z66_4_318)), (a_9, .inl (cy 1, 48, .inl z66_5_319))]) rfl (fun _ => rfl) (fun _ => rfl) ?_
              clear hP hD hS
              clear H locs
              intro v355 u
              obtain ⟨n349, n350, n351, n352, n353, n354⟩ := u
              intro H locs hw (hP : va_P G vwCl [(a_1, .inr (9, [.ref a_2, .int i_0])), (a_2, .inl (cy 0, 600, .inl f_0)), (a_0, .inr (7, [.ref a_1, .ref a_3, .int n349, .int n350, .int n351, .int n352, .int n353, .int n354])), (a_3, .inr (0, [.int i_7, .int i_8, .int i_9, .int i_10, .int i_11, .int i_12, .int v10, .int i_14, .ref a_4, .ref a_5, .ref a_6, .ref a_7, .ref a_8, .ref a_9, .ref a_10, .ref a_11, .ref a_12, .ref a_13])), (a_8, .inl (cy 1, 6, .inl z66_4_318)), (a_9, .inl (cy 1, 48, .inl z66_5_319))] H) (hD : va_D A [(a_1, .inr (9, [.ref a_2, .int i_0])), (a_2, .inl (cy 0, 600, .inl f_0)), (a_0, .inr (7, [.ref a_1, .ref a_3, .int n349, .int n350, .int n351, .int n352, .int n353, .int n354])), (a_3, .inr (0, [.int i_7, .int i_8, .int i_9, .int i_10, .int i_11, .int i_12, .int v10, .int i_14, .ref a_4, .ref a_5, .ref a_6, .ref a_7, .ref a_8, .ref a_9, .ref a_10, .ref a_11, .ref a_12, .ref a_13])), (a_8, .inl (cy 1, 6, .inl z66_4_318)), (a_9, .inl (cy 1, 48, .inl z66_5_319))]) hS
              obtain ⟨w356, w357, w358, w359, hw⟩ := hw
              have w360 := hw
              refine mm_finv (va_runV (As := [.int i_13, .int x66_2_311, .int v355]) (rest := []) ⟨hx, hb, hml, hown, hts⟩ (K104_X0_setWordAt l G cy H.size a_3 i_13 x66_2_311 v355 i_7 i_8 i_9 i_10 i_11 i_12 v10 i_14 a_4 a_5 a_6 a_7 a_8 a_9 a_10 a_11 a_12 a_13 z66_4_318 z66_5_319 q2 (mm_wk q337 (by decide)) w360 rz66_4_318 rz66_5_319) (cwV 3 hts (mm_gV mm_w368 mm_w369 mm_w370 mm_w28 mm_w371) rfl rfl rfl hd_X0_setWordAt ⟨by rw [hRf]; exact Nat.le_of_ble_eq_true rfl, by rw [hRl]; exact Nat.le_of_ble_eq_true rfl⟩) (mm_preV hK hZ hS hA hP hD [3, 4, 5] rfl rfl 3 rfl rfl rfl) rfl rfl hl.1 rfl (lv_room (Nat.le_of_ble_eq_true rfl)) dX7_takeTextLine_105 ⟨by rw [hRc]; exact Nat.le_of_ble_eq_true rfl, by rw [hRs]; exact Nat.le_of_ble_eq_true rfl⟩) hP hD hS hA (fun u : (Nat → Int32) × (Nat → Int32) => [(a_1, .inr (9, [.ref a_2, .int i_0])), (a_2, .inl (cy 0, 600, .inl f_0)), (a_0, .inr (7, [.ref a_1, .ref a_3, .int n349, .int n350, .int n351, .int n352, .int n353, .int n354])), (a_3, .inr (0, [.int i_7, .int i_8, .int i_9, .int i_10, .int i_11, .int i_12, .int v10, .int i_14, .ref a_4, .ref a_5, .ref a_6, .ref a_7, .ref a_8, .ref a_9, .ref a_10, .ref a_11, .ref a_12, .ref a_13])), (a_8, .inl (cy 1, 6, .inl u.1)), (a_9, .inl (cy 1, 48, .inl u.2))]) [3, 4, 5] [0, 1, 2] (n := 6) (fun _ => rfl) (by decide +kernel) (by decide +kernel) rfl (fun _ => rfl) (wr := [(a_1, .inr (9, [.ref a_2, .int i_0])), (a_2, .inl (cy 0, 600, .inl f_0)), (a_0, .inr (7, [.ref a_1, .ref a_3, .int n349, .int n350, .int n351, .int n352, .int n353, .int n354]))]) rfl (fun _ => rfl) (fun _ => rfl) ?_
              clear hP hD hS
              clear H locs
              intro u
              obtain ⟨n361, n362⟩ := u
              intro H locs hw (hP : va_P G vwCl [(a_1, .inr (9, [.ref a_2, .int i_0])), (a_2, .inl (cy 0, 600, .inl f_0)), (a_0, .inr (7, [.ref a_1, .ref a_3, .int n349, .int n350, .int n351, .int n352, .int n353, .int n354])), (a_3, .inr (0, [.int i_7, .int i_8, .int i_9, .int i_10, .int i_11, .int i_12, .int v10, .int i_14, .ref a_4, .ref a_5, .ref a_6, .ref a_7, .ref a_8, .ref a_9, .ref a_10, .ref a_11, .ref a_12, .ref a_13])), (a_8, .inl (cy 1, 6, .inl n361)), (a_9, .inl (cy 1, 48, .inl n362))] H) (hD : va_D A [(a_1, .inr (9, [.ref a_2, .int i_0])), (a_2, .inl (cy 0, 600, .inl f_0)), (a_0, .inr (7, [.ref a_1, .ref a_3, .int n349, .int n350, .int n351, .int n352, .int n353, .int n354])), (a_3, .inr (0, [.int i_7, .int i_8, .int i_9, .int i_10, .int i_11, .int i_12, .int v10, .int i_14, .ref a_4, .ref a_5, .ref a_6, .ref a_7, .ref a_8, .ref a_9, .ref a_10, .ref a_11, .ref a_12, .ref a_13])), (a_8, .inl (cy 1, 6, .inl n361)), (a_9, .inl (cy 1, 48, .inl n362))]) hS
              obtain ⟨w363, w364⟩ := hw
              obtain ⟨v365, ev365⟩ : ∃ y : Int32, y = x66_2_311 + 1 := ⟨_, rfl⟩
              refine lv_iinc (v := v365) (lv' := [(2, .int v365), (1, .int i_13), (0, .ref a_0)]) hx hb dX7_takeTextLine_108 hl (k := 0) rfl (by rw [ev365]; rfl) (by decide) rfl ?_
              clear hl
              clear ls
              intro ls hl
              have rv365 : mm_rg v365 2 8 := mm_add ev365 q337 mm_k1 (by decide) (by decide)
              have tv365 := mm_addEc ev365 q337 mm_k1 (by decide) (k := 1) (by decide)
              refine lv_goto (tgt := 66) hx hb dX7_takeTextLine_111 (by decide) ?_
              exact ih66 v365 n349 n350 n351 n352 n353 n354 n361 n362 (mm_wk rv365 (by decide)) w356 w357 w358 w359 w363 w364 (mm_mu hm66 tv365 (by decide) (rv365).2 (by decide)) H locs hP hD hS ls (lv_sub hl [0, 1, 2] rfl)
    exact L66_319 _ 1 n11 n12 n13 n14 n15 n16 n23 n24 (mm_wk mm_k1 (by decide)) w18 w19 w20 w21 w25 w26 (Nat.lt_succ_self _) H locs hP hD hS ls (lv_sub hl [0, 1, 2] rfl)
  · have q366 := mm_leR (mm_nlt c1) mm_k6 h7
    refine lv_aload_n hx hb dX7_takeTextLine_12 rfl (lv_at hl 0 rfl) ?_
    refine lv_iconst (v := 3) hx hb dX7_takeTextLine_13 (by decide) ?_
    refine mm_finv (va_runV (As := [.int 3]) (rest := []) ⟨hx, hb, hml, hown, hts⟩ (K105_X7_blame l G cy H.size a_0 a_1 a_3 i_1 i_2 i_3 i_4 i_5 i_6 h2 h4) (cwV 1 hts (mm_gV mm_w311 mm_w312 mm_w313 mm_w19 mm_w314) rfl rfl rfl hd_X7_blame ⟨by rw [hRf]; exact Nat.le_of_ble_eq_true rfl, by rw [hRl]; exact Nat.le_of_ble_eq_true rfl⟩) (mm_preV hK hZ hS hA hP hD [2] rfl rfl 2 rfl rfl rfl) rfl rfl hl.1 rfl (lv_room (Nat.le_of_ble_eq_true rfl)) dX7_takeTextLine_14 ⟨by rw [hRc]; exact Nat.le_of_ble_eq_true rfl, by rw [hRs]; exact Nat.le_of_ble_eq_true rfl⟩) hP hD hS hA (fun u : Int32 × Int32 => [(a_1, .inr (9, [.ref a_2, .int i_0])), (a_2, .inl (cy 0, 600, .inl f_0)), (a_0, .inr (7, [.ref a_1, .ref a_3, .int u.1, .int u.2, .int i_3, .int i_4, .int i_5, .int i_6])), (a_3, .inr (0, [.int i_7, .int i_8, .int i_9, .int i_10, .int i_11, .int i_12, .int i_13, .int i_14, .ref a_4, .ref a_5, .ref a_6, .ref a_7, .ref a_8, .ref a_9, .ref a_10, .ref a_11, .ref a_12, .ref a_13])), (a_8, .inl (cy 1, 6, .inl f_1)), (a_9, .inl (cy 1, 48, .inl f_2))]) [2] [0, 1, 3, 4, 5] (n := 6) (fun _ => rfl) (by decide +kernel) (by decide +kernel) rfl (fun _ => rfl) (wr := [(a_1, .inr (9, [.ref a_2, .int i_0])), (a_2, .inl (cy 0, 600, .inl f_0)), (a_3, .inr (0, [.int i_7, .int i_8, .int i_9, .int i_10, .int i_11, .int i_12, .int i_13, .int i_14, .ref a_4, .ref a_5, .ref a_6, .ref a_7, .ref a_8, .ref a_9, .ref a_10, .ref a_11, .ref a_12, .ref a_13])), (a_8, .inl (cy 1, 6, .inl f_1)), (a_9, .inl (cy 1, 48, .inl f_2))]) rfl (fun _ => rfl) (fun _ => rfl) ?_
    clear hP hD hS
    clear H locs
    intro u
    obtain ⟨n367, n368⟩ := u
    intro H locs hw (hP : va_P G vwCl [(a_1, .inr (9, [.ref a_2, .int i_0])), (a_2, .inl (cy 0, 600, .inl f_0)), (a_0, .inr (7, [.ref a_1, .ref a_3, .int n367, .int n368, .int i_3, .int i_4, .int i_5, .int i_6])), (a_3, .inr (0, [.int i_7, .int i_8, .int i_9, .int i_10, .int i_11, .int i_12, .int i_13, .int i_14, .ref a_4, .ref a_5, .ref a_6, .ref a_7, .ref a_8, .ref a_9, .ref a_10, .ref a_11, .ref a_12, .ref a_13])), (a_8, .inl (cy 1, 6, .inl f_1)), (a_9, .inl (cy 1, 48, .inl f_2))] H) (hD : va_D A [(a_1, .inr (9, [.ref a_2, .int i_0])), (a_2, .inl (cy 0, 600, .inl f_0)), (a_0, .inr (7, [.ref a_1, .ref a_3, .int n367, .int n368, .int i_3, .int i_4, .int i_5, .int i_6])), (a_3, .inr (0, [.int i_7, .int i_8, .int i_9, .int i_10, .int i_11, .int i_12, .int i_13, .int i_14, .ref a_4, .ref a_5, .ref a_6, .ref a_7, .ref a_8, .ref a_9, .ref a_10, .ref a_11, .ref a_12, .ref a_13])), (a_8, .inl (cy 1, 6, .inl f_1)), (a_9, .inl (cy 1, 48, .inl f_2))]) hS
    have w369 := hw
    subst hAe
    rw [hQ]
    exact W.vret hx hb hr (fun t ht hW => ⟨⟨(n367, n368, i_3, i_4, i_5, i_6, i_13, f_1, f_2), rfl, ⟨(mm_wk w369 (by decide)), h3, h4, h5, (mm_wk q366 (by decide)), h8, h9⟩, by rw [ht]; exact hP, hK.warm hW, hD⟩, hS.F ht⟩) hS.2.2 dX7_takeTextLine_17

set_option maxHeartbeats 4000000 in
set_option maxRecDepth 100000 in
theorem K107_X0_wordCount (l : Launch) (G : va_G) (cy : Nat → ClassId) (sz : Nat) (a_0 : Nat) (i_0 : Int32) (i_1 : Int32) (i_2 : Int32) (i_3 : Int32) (i_4 : Int32) (i_5 : Int32) (i_6 : Int32) (i_7 : Int32) (a_1 : Nat) (a_2 : Nat) (a_3 : Nat) (a_4 : Nat) (a_5 : Nat) (a_6 : Nat) (a_7 : Nat) (a_8 : Nat) (a_9 : Nat) (a_10 : Nat) (h0 : mm_rg i_4 0 9)  : mm_CI l yX0_wordCount (mm_ws yX0_wordCount cX0_wordCount 1 (some .int)) ({ frames := 0, cells := 0, slots := 0, locals := 0 } : Room) G cy sz [(a_0, .inr (0, [.int i_0, .int i_1, .int i_2, .int i_3, .int i_4, .int i_5, .int i_6, .int i_7, .ref a_1, .ref a_2, .ref a_3, .ref a_4, .ref a_5, .ref a_6, .ref a_7, .ref a_8, .ref a_9, .ref a_10]))] [.ref a_0] (fun u : Unit => [(a_0, .inr (0, [.int i_0, .int i_1, .int i_2, .int i_3, .int i_4, .int i_5, .int i_6, .int i_7, .ref a_1, .ref a_2, .ref a_3, .ref a_4, .ref a_5, .ref a_6, .ref a_7, .ref a_8, .ref a_9, .ref a_10]))]) (fun (r : Int32) (u : Unit) => mm_rg r 1 10) 0 0 := by
  refine mm_begin (lv := [(0, .ref a_0)]) (by decide) (Nat.le_of_ble_eq_true rfl) rfl ?_
  intro p e s m below meth c A ls R args Q H locs hRe hQ hAe hx hb hr hlocks hml hown hnm hts hsz hA hS hP hK hD hZ hl
  have hRf : R.frames = 0 := by rw [hRe]
  have hRl : R.locals = 0 := by rw [hRe]
  have hRc : R.cells = 0 := by rw [hRe]
  have hRs : R.slots = 0 := by rw [hRe]
  refine lv_aload_n hx hb dX0_wordCount_0 rfl (lv_at hl 0 rfl) ?_
  refine va_get (D := G) (ci := 0) (v := .int i_4) (C := RX0) (T := TX0) (N := 18) hx hb hts (mm_i inlX0) hown hK.1 hP 0 rfl rfl 4 (by decide) (mm_h hts mm_w219) (fun _ h9 => h9) rfl dX0_wordCount_1 ?_
  refine lv_iconst (v := 1) hx hb dX0_wordCount_4 (by decide) ?_
  refine lv_iadd hx hb dX0_wordCount_5 ?_
  refine lv_topi (fun v1 ev1 => ?_)
  have rv1 : mm_rg v1 1 10 := mm_add ev1 h0 mm_k1 (by decide) (by decide)
  have tv1 := mm_addEc ev1 h0 mm_k1 (by decide) (k := 1) (by decide)
  subst hAe
  rw [hQ]
  exact W.iret (v := v1) hx hb hr (fun t ht hW => ⟨⟨v1, (), rfl, rv1, by rw [ht]; exact hP, hK.warm hW, hD⟩, hS.F ht⟩) hS.2.2 dX0_wordCount_6

set_option maxHeartbeats 4000000 in
set_option maxRecDepth 100000 in
theorem K108_X0_setTaken (l : Launch) (G : va_G) (cy : Nat → ClassId) (sz : Nat) (a_0 : Nat) (i_0 : Int32) (i_1 : Int32) (i_2 : Int32) (i_3 : Int32) (i_4 : Int32) (i_5 : Int32) (i_6 : Int32) (i_7 : Int32) (i_8 : Int32) (i_9 : Int32) (i_10 : Int32) (i_11 : Int32) (a_1 : Nat) (a_2 : Nat) (a_3 : Nat) (a_4 : Nat) (a_5 : Nat) (a_6 : Nat) (a_7 : Nat) (a_8 : Nat) (a_9 : Nat) (a_10 : Nat) (f_0 : Nat → Int32) (h0 : mm_rg i_0 0 2) (h1 : mm_rg i_1 0 6) (h2 : mm_rg i_2 0 9) (h3 : mm_rg i_3 0 9) (h4 : mm_ar f_0 0 9)  : mm_CV l yX0_setTaken (mm_ws yX0_setTaken cX0_setTaken 5 (none)) ({ frames := 0, cells := 0, slots := 0, locals := 0 } : Room) G cy sz [(a_0, .inr (0, [.int i_4, .int i_5, .int i_6, .int i_7, .int i_8, .int i_9, .int i_10, .int i_11, .ref a_1, .ref a_2, .ref a_3, .ref a_4, .ref a_5, .ref a_6, .ref a_7, .ref a_8, .ref a_9, .ref a_10])), (a_4, .inl (cy 1, 210, .inl f_0))] [.ref a_0, .int i_0, .int i_1, .int i_2, .int i_3] (fun u : (Nat → Int32) => [(a_0, .inr (0, [.int i_4, .int i_5, .int i_6, .int i_7, .int i_8, .int i_9, .int i_10, .int i_11, .ref a_1, .ref a_2, .ref a_3, .ref a_4, .ref a_5, .ref a_6, .ref a_7, .ref a_8, .ref a_9, .ref a_10])), (a_4, .inl (cy 1, 210, .inl u))]) (fun u : (Nat → Int32) => mm_ar u 0 9) 0 0 := by
  refine mm_begin (lv := [(0, .ref a_0), (1, .int i_0), (2, .int i_1), (3, .int i_2), (4, .int i_3)]) (by decide) (Nat.le_of_ble_eq_true rfl) rfl ?_
  intro p e s m below meth c A ls R args Q H locs hRe hQ hAe hx hb hr hlocks hml hown hnm hts hsz hA hS hP hK hD hZ hl
  have hRf : R.frames = 0 := by rw [hRe]
  have hRl : R.locals = 0 := by rw [hRe]
  have hRc : R.cells = 0 := by rw [hRe]
  have hRs : R.slots = 0 := by rw [hRe]
  refine lv_aload_n hx hb dX0_setTaken_0 rfl (lv_at hl 0 rfl) ?_
  refine va_get (D := G) (ci := 0) (v := .ref a_4) (C := RX0) (T := TX0) (N := 18) hx hb hts (mm_i inlX0) hown hK.1 hP 0 rfl rfl 11 (by decide) (mm_h hts mm_w75) (fun _ h9 => h9) rfl dX0_setTaken_1 ?_
  refine lv_iload_n hx hb dX0_setTaken_4 rfl (lv_at hl 1 rfl) ?_
  refine lv_bipush (v := 7) hx hb dX0_setTaken_5 (by decide) ?_
  refine lv_imul hx hb dX0_setTaken_7 ?_
  refine lv_topi (fun v1 ev1 => ?_)
  have rv1 : mm_rg v1 0 14 := mm_mul ev1 h0 mm_k7 (by decide) (by decide)
  refine lv_iload_n hx hb dX0_setTaken_8 rfl (lv_at hl 2 rfl) ?_
  refine lv_iadd hx hb dX0_setTaken_9 ?_
  refine lv_topi (fun v2 ev2 => ?_)
  have rv2 : mm_rg v2 0 20 := mm_add ev2 rv1 h1 (by decide) (by decide)
  have tv2 := mm_addE ev2 rv1 h1 (by decide)
  refine lv_bipush (v := 10) hx hb dX0_setTaken_10 (by decide) ?_
  refine lv_imul hx hb dX0_setTaken_12 ?_
  refine lv_topi (fun v3 ev3 => ?_)
  have rv3 : mm_rg v3 0 200 := mm_mul ev3 rv2 mm_k10 (by decide) (by decide)
  refine lv_iload_n hx hb dX0_setTaken_13 rfl (lv_at hl 3 rfl) ?_
  refine lv_iadd hx hb dX0_setTaken_14 ?_
  refine lv_topi (fun v4 ev4 => ?_)
  have rv4 : mm_rg v4 0 209 := mm_add ev4 rv3 h2 (by decide) (by decide)
  have tv4 := mm_addE ev4 rv3 h2 (by decide)
  refine lv_iload hx hb dX0_setTaken_15 (lv_at hl 4 rfl) ?_
  refine va_iast hx hb hK.1 hP hD hS 1 1 rfl rfl (mm_in rv4 (by decide)) dX0_setTaken_17 ?_
  clear hP hD hS
  clear H locs
  obtain ⟨g5, eg5⟩ : ∃ z : Nat → Int32, z = upd f_0 v4.toNatClampNeg i_3 := ⟨_, rfl⟩
  rw [← eg5]
  intro H locs (hP : va_P G vwCl [(a_0, .inr (0, [.int i_4, .int i_5, .int i_6, .int i_7, .int i_8, .int i_9, .int i_10, .int i_11, .ref a_1, .ref a_2, .ref a_3, .ref a_4, .ref a_5, .ref a_6, .ref a_7, .ref a_8, .ref a_9, .ref a_10])), (a_4, .inl (cy 1, 210, .inl g5))] H) (hD : va_D A [(a_0, .inr (0, [.int i_4, .int i_5, .int i_6, .int i_7, .int i_8, .int i_9, .int i_10, .int i_11, .ref a_1, .ref a_2, .ref a_3, .ref a_4, .ref a_5, .ref a_6, .ref a_7, .ref a_8, .ref a_9, .ref a_10])), (a_4, .inl (cy 1, 210, .inl g5))]) hS
  have rg5 : mm_ar g5 0 9 := by rw [eg5]; exact mm_ar_upd (mm_ar_wk h4 (by decide)) (mm_wk h3 (by decide)) _
  subst hAe
  rw [hQ]
  exact W.vret hx hb hr (fun t ht hW => ⟨⟨g5, rfl, rg5, by rw [ht]; exact hP, hK.warm hW, hD⟩, hS.F ht⟩) hS.2.2 dX0_setTaken_18

set_option maxHeartbeats 4000000 in
set_option maxRecDepth 100000 in
theorem K109_X7_shiftAll (l : Launch) (G : va_G) (cy : Nat → ClassId) (sz : Nat) (a_0 : Nat) (i_0 : Int32) (i_1 : Int32) (a_1 : Nat) (a_2 : Nat) (i_2 : Int32) (i_3 : Int32) (i_4 : Int32) (i_5 : Int32) (i_6 : Int32) (i_7 : Int32) (i_8 : Int32) (i_9 : Int32) (i_10 : Int32) (i_11 : Int32) (i_12 : Int32) (i_13 : Int32) (i_14 : Int32) (i_15 : Int32) (a_3 : Nat) (a_4 : Nat) (a_5 : Nat) (a_6 : Nat) (a_7 : Nat) (a_8 : Nat) (a_9 : Nat) (a_10 : Nat) (a_11 : Nat) (a_12 : Nat) (f_0 : Nat → Int32) (h0 : mm_rg i_0 0 2) (h1 : mm_rg i_1 0 6) (h2 : mm_rg i_12 0 9) (h3 : mm_ar f_0 0 9)  : mm_CV l yX7_shiftAll (mm_ws yX7_shiftAll cX7_shiftAll 6 (none)) ({ frames := 1, cells := 0, slots := 0, locals := 40 } : Room) G cy sz [(a_0, .inr (7, [.ref a_1, .ref a_2, .int i_2, .int i_3, .int i_4, .int i_5, .int i_6, .int i_7])), (a_2, .inr (0, [.int i_8, .int i_9, .int i_10, .int i_11, .int i_12, .int i_13, .int i_14, .int i_15, .ref a_3, .ref a_4, .ref a_5, .ref a_6, .ref a_7, .ref a_8, .ref a_9, .ref a_10, .ref a_11, .ref a_12])), (a_6, .inl (cy 1, 210, .inl f_0))] [.ref a_0, .int i_0, .int i_1, .int 0] (fun u : (Nat → Int32) => [(a_0, .inr (7, [.ref a_1, .ref a_2, .int i_2, .int i_3, .int i_4, .int i_5, .int i_6, .int i_7])), (a_2, .inr (0, [.int i_8, .int i_9, .int i_10, .int i_11, .int i_12, .int i_13, .int i_14, .int i_15, .ref a_3, .ref a_4, .ref a_5, .ref a_6, .ref a_7, .ref a_8, .ref a_9, .ref a_10, .ref a_11, .ref a_12])), (a_6, .inl (cy 1, 210, .inl u))]) (fun u : (Nat → Int32) => mm_ar u 0 9) 0 0 := by
  refine mm_begin (lv := [(0, .ref a_0), (1, .int i_0), (2, .int i_1), (3, .int 0)]) (by decide) (Nat.le_of_ble_eq_true rfl) rfl ?_
  intro p e s m below meth c A ls R args Q H locs hRe hQ hAe hx hb hr hlocks hml hown hnm hts hsz hA hS hP hK hD hZ hl
  have hRf : R.frames = 1 := by rw [hRe]
  have hRl : R.locals = 40 := by rw [hRe]
  have hRc : R.cells = 0 := by rw [hRe]
  have hRs : R.slots = 0 := by rw [hRe]
  refine lv_iconst (v := 1) hx hb dX7_shiftAll_0 (by decide) ?_
  refine lv_aload_n hx hb dX7_shiftAll_1 rfl (lv_at hl 0 rfl) ?_
  refine va_get (D := G) (ci := 7) (v := .ref a_2) (C := RX7) (T := TX7) (N := 8) hx hb hts (mm_i inlX7) hown hK.1 hP 0 rfl rfl 1 (by decide) (mm_h hts mm_w65) (fun _ h9 => h9) rfl dX7_shiftAll_2 ?_
  refine mm_finir (va_runV (As := []) (rest := [.int 1]) ⟨hx, hb, hml, hown, hts⟩ (K107_X0_wordCount l G cy H.size a_2 i_8 i_9 i_10 i_11 i_12 i_13 i_14 i_15 a_3 a_4 a_5 a_6 a_7 a_8 a_9 a_10 a_11 a_12 h2) (cwV 0 hts (mm_gV mm_w348 mm_w349 mm_w350 mm_w28 mm_w351) rfl rfl rfl hd_X0_wordCount ⟨by rw [hRf]; exact Nat.le_of_ble_eq_true rfl, by rw [hRl]; exact Nat.le_of_ble_eq_true rfl⟩) (mm_preV hK hZ hS hA hP hD [1] rfl rfl 1 rfl rfl rfl) rfl rfl hl.1 rfl (lv_room (Nat.le_of_ble_eq_true rfl)) dX7_shiftAll_5 ⟨by rw [hRc]; exact Nat.le_of_ble_eq_true rfl, by rw [hRs]; exact Nat.le_of_ble_eq_true rfl⟩) hP hD hS hA [1] rfl (fun _ => rfl) ?_
  clear hP hD hS
  clear H locs
  intro v1 _u H locs hw hP hD hS
  have w2 := hw
  refine va_mmax hx hb (by rw [hml]; exact hl.1.symm) hown (mm_h hts mm_w344) (mm_h hts mm_w345) (mm_h hts mm_w346) (mm_h hts mm_w347) (by rw [hRf]; exact Nat.le_of_ble_eq_true rfl) (by rw [hRl]; exact Nat.le_of_ble_eq_true rfl) (by rw [hRc]; exact Nat.le_of_ble_eq_true rfl) (by rw [hRs]; exact Nat.le_of_ble_eq_true rfl) dX7_shiftAll_8 ?_
  refine lv_topi (fun v3 ev3 => ?_)
  have rv3 : mm_rg v3 1 10 := mm_max ev3 mm_k1 w2 (by decide)
  refine lv_istore (lv' := [(4, .int v3), (0, .ref a_0), (1, .int i_0), (2, .int i_1), (3, .int 0)]) hx hb dX7_shiftAll_11 hl (by decide) rfl ?_
  clear hl
  clear ls
  intro ls hl
  refine lv_iconst (v := 0) hx hb dX7_shiftAll_13 (by decide) ?_
  refine lv_istore (lv' := [(5, .int 0), (4, .int v3), (0, .ref a_0), (1, .int i_0), (2, .int i_1), (3, .int 0)]) hx hb dX7_shiftAll_14 hl (by decide) rfl ?_
  clear hl
  clear ls
  intro ls hl
  have L16_98 : ∀ (n : Nat) (x16_5_97 : Int32) (z16_2_98 : Nat → Int32), mm_rg x16_5_97 0 10 → mm_ar z16_2_98 0 9 → (10 - x16_5_97.toInt).toNat < n → ∀ (H : Heap) (locs : List Loc), va_P G vwCl [(a_0, .inr (7, [.ref a_1, .ref a_2, .int i_2, .int i_3, .int i_4, .int i_5, .int i_6, .int i_7])), (a_2, .inr (0, [.int i_8, .int i_9, .int i_10, .int i_11, .int i_12, .int i_13, .int i_14, .int i_15, .ref a_3, .ref a_4, .ref a_5, .ref a_6, .ref a_7, .ref a_8, .ref a_9, .ref a_10, .ref a_11, .ref a_12])), (a_6, .inl (cy 1, 210, .inl z16_2_98))] H → va_D A [(a_0, .inr (7, [.ref a_1, .ref a_2, .int i_2, .int i_3, .int i_4, .int i_5, .int i_6, .int i_7])), (a_2, .inr (0, [.int i_8, .int i_9, .int i_10, .int i_11, .int i_12, .int i_13, .int i_14, .int i_15, .ref a_3, .ref a_4, .ref a_5, .ref a_6, .ref a_7, .ref a_8, .ref a_9, .ref a_10, .ref a_11, .ref a_12])), (a_6, .inl (cy 1, 210, .inl z16_2_98))] → va_S A s.heap H locs → ∀ (ls : Array Slot), lv_has ls 6 [(5, .int x16_5_97), (4, .int v3), (0, .ref a_0), (1, .int i_0), (2, .int i_1), (3, .int 0)] → W p l e R s m args below meth c H locs 0 0 Q (F0 m 16 ls []) := by
    intro n
    induction n with
    | zero => intro x16_5_97 z16_2_98 rx16_5_97 rz16_2_98 hm; exact absurd hm (Nat.not_lt_zero _)
    | succ n ih16 =>
      intro x16_5_97 z16_2_98 rx16_5_97 rz16_2_98 hm16 H locs hP hD hS ls hl
      refine lv_iload hx hb dX7_shiftAll_16 (lv_at hl 0 rfl) ?_
      refine lv_iload hx hb dX7_shiftAll_18 (lv_at hl 1 rfl) ?_
      refine lv_icmp_ge (tgt := 47) hx hb dX7_shiftAll_20 (by decide) (fun c100 => ?_) (fun c100 => ?_)
      · have q101 := mm_leR (mm_le c100) rv3 rx16_5_97
        subst hAe
        rw [hQ]
        exact W.vret hx hb hr (fun t ht hW => ⟨⟨z16_2_98, rfl, rz16_2_98, by rw [ht]; exact hP, hK.warm hW, hD⟩, hS.F ht⟩) hS.2.2 dX7_shiftAll_47
      · have q102 := mm_ltL (h := 9) (mm_nle c100) rx16_5_97 rv3 (by decide)
        refine lv_aload_n hx hb dX7_shiftAll_23 rfl (lv_at hl 2 rfl) ?_
        refine va_get (D := G) (ci := 7) (v := .ref a_2) (C := RX7) (T := TX7) (N := 8) hx hb hts (mm_i inlX7) hown hK.1 hP 0 rfl rfl 1 (by decide) (mm_h hts mm_w65) (fun _ h9 => h9) rfl dX7_shiftAll_24 ?_
        refine lv_iload_n hx hb dX7_shiftAll_27 rfl (lv_at hl 3 rfl) ?_
        refine lv_iload_n hx hb dX7_shiftAll_28 rfl (lv_at hl 4 rfl) ?_
        refine lv_iload hx hb dX7_shiftAll_29 (lv_at hl 0 rfl) ?_
        refine lv_iload hx hb dX7_shiftAll_31 (lv_at hl 0 rfl) ?_
        refine lv_iload_n hx hb dX7_shiftAll_33 rfl (lv_at hl 5 rfl) ?_
        refine lv_iadd hx hb dX7_shiftAll_34 ?_
        refine lv_topi (fun v103 ev103 => ?_)
        have rv103 : mm_rg v103 0 9 := mm_add ev103 q102 mm_k0 (by decide) (by decide)
        have tv103 := mm_addEc ev103 q102 mm_k0 (by decide) (k := 0) (by decide)
        refine lv_iload hx hb dX7_shiftAll_35 (lv_at hl 1 rfl) ?_
        refine lv_irem hx hb dX7_shiftAll_37 (mm_nz rv3 (by decide)) ?_
        refine lv_topi (fun v104 ev104 => ?_)
        have rv104 : mm_rg v104 0 9 := mm_rem ev104 rv103 rv3 (by decide) (by decide)
        refine mm_finv (va_runV (As := [.int i_0, .int i_1, .int x16_5_97, .int v104]) (rest := []) ⟨hx, hb, hml, hown, hts⟩ (K108_X0_setTaken l G cy H.size a_2 i_0 i_1 x16_5_97 v104 i_8 i_9 i_10 i_11 i_12 i_13 i_14 i_15 a_3 a_4 a_5 a_6 a_7 a_8 a_9 a_10 a_11 a_12 z16_2_98 h0 h1 q102 rv104 rz16_2_98) (cwV 4 hts (mm_gV mm_w352 mm_w353 mm_w354 mm_w28 mm_w355) rfl rfl rfl hd_X0_setTaken ⟨by rw [hRf]; exact Nat.le_of_ble_eq_true rfl, by rw [hRl]; exact Nat.le_of_ble_eq_true rfl⟩) (mm_preV hK hZ hS hA hP hD [1, 2] rfl rfl 1 rfl rfl rfl) rfl rfl hl.1 rfl (lv_room (Nat.le_of_ble_eq_true rfl)) dX7_shiftAll_38 ⟨by rw [hRc]; exact Nat.le_of_ble_eq_true rfl, by rw [hRs]; exact Nat.le_of_ble_eq_true rfl⟩) hP hD hS hA (fun u : (Nat → Int32) => [(a_0, .inr (7, [.ref a_1, .ref a_2, .int i_2, .int i_3, .int i_4, .int i_5, .int i_6, .int i_7])), (a_2, .inr (0, [.int i_8, .int i_9, .int i_10, .int i_11, .int i_12, .int i_13, .int i_14, .int i_15, .ref a_3, .ref a_4, .ref a_5, .ref a_6, .ref a_7, .ref a_8, .ref a_9, .ref a_10, .ref a_11, .ref a_12])), (a_6, .inl (cy 1, 210, .inl u))]) [1, 2] [0] (n := 3) (fun _ => rfl) (by decide +kernel) (by decide +kernel) rfl (fun _ => rfl) (wr := [(a_0, .inr (7, [.ref a_1, .ref a_2, .int i_2, .int i_3, .int i_4, .int i_5, .int i_6, .int i_7]))]) rfl (fun _ => rfl) (fun _ => rfl) ?_
        clear hP hD hS
        clear H locs
        intro n105 H locs hw (hP : va_P G vwCl [(a_0, .inr (7, [.ref a_1, .ref a_2, .int i_2, .int i_3, .int i_4, .int i_5, .int i_6, .int i_7])), (a_2, .inr (0, [.int i_8, .int i_9, .int i_10, .int i_11, .int i_12, .int i_13, .int i_14, .int i_15, .ref a_3, .ref a_4, .ref a_5, .ref a_6, .ref a_7, .ref a_8, .ref a_9, .ref a_10, .ref a_11, .ref a_12])), (a_6, .inl (cy 1, 210, .inl n105))] H) (hD : va_D A [(a_0, .inr (7, [.ref a_1, .ref a_2, .int i_2, .int i_3, .int i_4, .int i_5, .int i_6, .int i_7])), (a_2, .inr (0, [.int i_8, .int i_9, .int i_10, .int i_11, .int i_12, .int i_13, .int i_14, .int i_15, .ref a_3, .ref a_4, .ref a_5, .ref a_6, .ref a_7, .ref a_8, .ref a_9, .ref a_10, .ref a_11, .ref a_12])), (a_6, .inl (cy 1, 210, .inl n105))]) hS
        have w106 := hw
        obtain ⟨v107, ev107⟩ : ∃ y : Int32, y = x16_5_97 + 1 := ⟨_, rfl⟩
        refine lv_iinc (v := v107) (lv' := [(5, .int v107), (4, .int v3), (0, .ref a_0), (1, .int i_0), (2, .int i_1), (3, .int 0)]) hx hb dX7_shiftAll_41 hl (k := 0) rfl (by rw [ev107]; rfl) (by decide) rfl ?_
        clear hl
        clear ls
        intro ls hl
        have rv107 : mm_rg v107 1 10 := mm_add ev107 q102 mm_k1 (by decide) (by decide)
        have tv107 := mm_addEc ev107 q102 mm_k1 (by decide) (k := 1) (by decide)
        refine lv_goto (tgt := 16) hx hb dX7_shiftAll_44 (by decide) ?_
        exact ih16 v107 n105 (mm_wk rv107 (by decide)) w106 (mm_mu hm16 tv107 (by decide) (rv107).2 (by decide)) H locs hP hD hS ls (lv_sub hl [0, 1, 2, 3, 4, 5] rfl)
  exact L16_98 _ 0 f_0 (mm_wk mm_k0 (by decide)) h3 (Nat.lt_succ_self _) H locs hP hD hS ls (lv_sub hl [0, 1, 2, 3, 4, 5] rfl)

set_option maxHeartbeats 4000000 in
set_option maxRecDepth 100000 in
theorem K110_X7_opensRule (l : Launch) (G : va_G) (cy : Nat → ClassId) (sz : Nat) (a_0 : Nat) (a_1 : Nat) (a_2 : Nat) (i_0 : Int32) (f_0 : Nat → Int32) (a_3 : Nat) (i_1 : Int32) (i_2 : Int32) (i_3 : Int32) (i_4 : Int32) (i_5 : Int32) (i_6 : Int32) (i_7 : Int32) (i_8 : Int32) (i_9 : Int32) (i_10 : Int32) (i_11 : Int32) (i_12 : Int32) (i_13 : Int32) (i_14 : Int32) (a_4 : Nat) (a_5 : Nat) (a_6 : Nat) (a_7 : Nat) (a_8 : Nat) (a_9 : Nat) (a_10 : Nat) (a_11 : Nat) (a_12 : Nat) (a_13 : Nat) (f_1 : Nat → Int32) (f_2 : Nat → Int32) (h0 : mm_rg i_0 0 600) (h1 : mm_ar f_0 (-128) 127) (h2 : mm_rg i_1 0 3) (h3 : mm_rg i_3 0 5) (h4 : mm_rg i_4 0 600) (h5 : mm_rg i_5 0 600) (h6 : mm_rg i_11 0 9) (h7 : mm_rg i_12 0 3) (h8 : mm_ar f_1 0 7) (h9 : mm_ar f_2 0 9)  : mm_CI l yX7_opensRule (mm_ws yX7_opensRule cX7_opensRule 2 (some .boolean)) ({ frames := 2, cells := 0, slots := 0, locals := 65 } : Room) G cy sz [(a_1, .inr (9, [.ref a_2, .int i_0])), (a_2, .inl (cy 0, 600, .inl f_0)), (a_0, .inr (7, [.ref a_1, .ref a_3, .int i_1, .int i_2, .int i_3, .int i_4, .int i_5, .int i_6])), (a_3, .inr (0, [.int i_7, .int i_8, .int i_9, .int i_10, .int i_11, .int i_12, .int i_13, .int i_14, .ref a_4, .ref a_5, .ref a_6, .ref a_7, .ref a_8, .ref a_9, .ref a_10, .ref a_11, .ref a_12, .ref a_13])), (a_6, .inl (cy 1, 3, .inl f_1)), (a_7, .inl (cy 1, 210, .inl f_2))] [.ref a_0] (fun u : Int32 × Int32 × Int32 × Int32 × Int32 × Int32 × (Nat → Int32) => [(a_1, .inr (9, [.ref a_2, .int i_0])), (a_2, .inl (cy 0, 600, .inl f_0)), (a_0, .inr (7, [.ref a_1, .ref a_3, .int u.1, .int u.2.1, .int u.2.2.1, .int u.2.2.2.1, .int u.2.2.2.2.1, .int u.2.2.2.2.2.1])), (a_3, .inr (0, [.int i_7, .int i_8, .int i_9, .int i_10, .int i_11, .int i_12, .int i_13, .int i_14, .ref a_4, .ref a_5, .ref a_6, .ref a_7, .ref a_8, .ref a_9, .ref a_10, .ref a_11, .ref a_12, .ref a_13])), (a_6, .inl (cy 1, 3, .inl f_1)), (a_7, .inl (cy 1, 210, .inl u.2.2.2.2.2.2))]) (fun (r : Int32) (u : Int32 × Int32 × Int32 × Int32 × Int32 × Int32 × (Nat → Int32)) => mm_rg u.1 0 3 ∧ mm_rg u.2.2.1 0 5 ∧ mm_rg u.2.2.2.1 0 600 ∧ mm_rg u.2.2.2.2.1 0 600 ∧ mm_ar u.2.2.2.2.2.2 0 9 ∧ ((0 = r) ∨ (1 = r ∧ mm_rg i_12 1 3 ∧ mm_rc7 f_1 i_12))) 0 0 := by
  refine mm_begin (lv := [(0, .ref a_0)]) (by decide) (Nat.le_of_ble_eq_true rfl) rfl ?_
  intro p e s m below meth c A ls R args Q H locs hRe hQ hAe hx hb hr hlocks hml hown hnm hts hsz hA hS hP hK hD hZ hl
  have hRf : R.frames = 2 := by rw [hRe]
  have hRl : R.locals = 65 := by rw [hRe]
  have hRc : R.cells = 0 := by rw [hRe]
  have hRs : R.slots = 0 := by rw [hRe]
  refine lv_aload_n hx hb dX7_opensRule_0 rfl (lv_at hl 0 rfl) ?_
  refine va_get (D := G) (ci := 7) (v := .ref a_3) (C := RX7) (T := TX7) (N := 8) hx hb hts (mm_i inlX7) hown hK.1 hP 2 rfl rfl 1 (by decide) (mm_h hts mm_w65) (fun _ h9 => h9) rfl dX7_opensRule_1 ?_
  refine va_get (D := G) (ci := 0) (v := .int i_12) (C := RX0) (T := TX0) (N := 18) hx hb hts (mm_i inlX0) hown hK.1 hP 3 rfl rfl 5 (by decide) (mm_h hts mm_w248) (fun _ h9 => h9) rfl dX7_opensRule_4 ?_
  refine lv_iconst (v := 1) hx hb dX7_opensRule_7 (by decide) ?_
  refine lv_isub hx hb dX7_opensRule_8 ?_
  refine lv_topi (fun v1 ev1 => ?_)
  have rv1 : mm_rg v1 (-1) 2 := mm_sub ev1 h7 mm_k1 (by decide) (by decide)
  have tv1 := mm_subEc ev1 h7 mm_k1 (by decide) (k := (-1)) (by decide)
  refine lv_istore_n (lv' := [(1, .int v1), (0, .ref a_0)]) hx hb dX7_opensRule_9 rfl hl (by decide) rfl ?_
  clear hl
  clear ls
  intro ls hl
  refine lv_iload_n hx hb dX7_opensRule_10 rfl (lv_at hl 0 rfl) ?_
  refine lv_if_ge (tgt := 21) hx hb dX7_opensRule_11 (by decide) (fun c2 => ?_) (fun c2 => ?_)
  · have q3 := mm_leR (mm_le c2) mm_k0 rv1
    have q4 : mm_rg i_12 1 3 := mm_unadd tv1 q3 h7 (by decide) (by decide)
    refine lv_aload_n hx hb dX7_opensRule_21 rfl (lv_at hl 1 rfl) ?_
    refine va_get (D := G) (ci := 7) (v := .ref a_3) (C := RX7) (T := TX7) (N := 8) hx hb hts (mm_i inlX7) hown hK.1 hP 2 rfl rfl 1 (by decide) (mm_h hts mm_w65) (fun _ h9 => h9) rfl dX7_opensRule_22 ?_
    refine va_get (D := G) (ci := 0) (v := .ref a_6) (C := RX0) (T := TX0) (N := 18) hx hb hts (mm_i inlX0) hown hK.1 hP 3 rfl rfl 10 (by decide) (mm_h hts mm_w339) (fun _ h9 => h9) rfl dX7_opensRule_25 ?_
    refine lv_iload_n hx hb dX7_opensRule_28 rfl (lv_at hl 0 rfl) ?_
    refine va_iald hx hb hK.1 hP 4 1 rfl rfl (mm_in q3 (by decide)) dX7_opensRule_29 ?_
    refine lv_topi (fun v5 ev5 => ?_)
    have rv5 : mm_rg v5 0 7 := mm_eqv ev5 (h8 _)
    refine lv_bipush (v := 7) hx hb dX7_opensRule_30 (by decide) ?_
    refine lv_icmp_lt (tgt := 42) hx hb dX7_opensRule_32 (by decide) (fun c6 => ?_) (fun c6 => ?_)
    · have q7 := mm_ltL (h := 6) (mm_lt c6) rv5 mm_k7 (by decide)
      refine lv_aload_n hx hb dX7_opensRule_42 rfl (lv_at hl 1 rfl) ?_
      refine lv_iload_n hx hb dX7_opensRule_43 rfl (lv_at hl 0 rfl) ?_
      refine lv_aload_n hx hb dX7_opensRule_44 rfl (lv_at hl 1 rfl) ?_
      refine va_get (D := G) (ci := 7) (v := .ref a_3) (C := RX7) (T := TX7) (N := 8) hx hb hts (mm_i inlX7) hown hK.1 hP 2 rfl rfl 1 (by decide) (mm_h hts mm_w65) (fun _ h9 => h9) rfl dX7_opensRule_45 ?_
      refine va_get (D := G) (ci := 0) (v := .ref a_6) (C := RX0) (T := TX0) (N := 18) hx hb hts (mm_i inlX0) hown hK.1 hP 3 rfl rfl 10 (by decide) (mm_h hts mm_w339) (fun _ h9 => h9) rfl dX7_opensRule_48 ?_
      refine lv_iload_n hx hb dX7_opensRule_51 rfl (lv_at hl 0 rfl) ?_
      refine va_iald hx hb hK.1 hP 4 1 rfl rfl (mm_in q3 (by decide)) dX7_opensRule_52 ?_
      refine lv_topi (fun v8 ev8 => ?_)
      have rv8 : mm_rg v8 0 7 := mm_eqv ev8 (h8 _)
      obtain rfl : v5 = v8 := ev5.trans ev8.symm
      refine lv_iconst (v := 0) hx hb dX7_opensRule_53 (by decide) ?_
      refine mm_finv (va_runV (As := [.int v1, .int v5, .int 0]) (rest := []) ⟨hx, hb, hml, hown, hts⟩ (K109_X7_shiftAll l G cy H.size a_0 v1 v5 a_1 a_3 i_1 i_2 i_3 i_4 i_5 i_6 i_7 i_8 i_9 i_10 i_11 i_12 i_13 i_14 a_4 a_5 a_6 a_7 a_8 a_9 a_10 a_11 a_12 a_13 f_2 q3 q7 h6 h9) (cwV 3 hts (mm_gV mm_w340 mm_w341 mm_w342 mm_w19 mm_w343) rfl rfl rfl hd_X7_shiftAll ⟨by rw [hRf]; exact Nat.le_of_ble_eq_true rfl, by rw [hRl]; exact Nat.le_of_ble_eq_true rfl⟩) (mm_preV hK hZ hS hA hP hD [2, 3, 5] rfl rfl 2 rfl rfl rfl) rfl rfl hl.1 rfl (lv_room (Nat.le_of_ble_eq_true rfl)) dX7_opensRule_54 ⟨by rw [hRc]; exact Nat.le_of_ble_eq_true rfl, by rw [hRs]; exact Nat.le_of_ble_eq_true rfl⟩) hP hD hS hA (fun u : (Nat → Int32) => [(a_1, .inr (9, [.ref a_2, .int i_0])), (a_2, .inl (cy 0, 600, .inl f_0)), (a_0, .inr (7, [.ref a_1, .ref a_3, .int i_1, .int i_2, .int i_3, .int i_4, .int i_5, .int i_6])), (a_3, .inr (0, [.int i_7, .int i_8, .int i_9, .int i_10, .int i_11, .int i_12, .int i_13, .int i_14, .ref a_4, .ref a_5, .ref a_6, .ref a_7, .ref a_8, .ref a_9, .ref a_10, .ref a_11, .ref a_12, .ref a_13])), (a_6, .inl (cy 1, 3, .inl f_1)), (a_7, .inl (cy 1, 210, .inl u))]) [2, 3, 5] [0, 1, 4] (n := 6) (fun _ => rfl) (by decide +kernel) (by decide +kernel) rfl (fun _ => rfl) (wr := [(a_1, .inr (9, [.ref a_2, .int i_0])), (a_2, .inl (cy 0, 600, .inl f_0)), (a_6, .inl (cy 1, 3, .inl f_1))]) rfl (fun _ => rfl) (fun _ => rfl) ?_
      clear hP hD hS
      clear H locs
      intro n9 H locs hw (hP : va_P G vwCl [(a_1, .inr (9, [.ref a_2, .int i_0])), (a_2, .inl (cy 0, 600, .inl f_0)), (a_0, .inr (7, [.ref a_1, .ref a_3, .int i_1, .int i_2, .int i_3, .int i_4, .int i_5, .int i_6])), (a_3, .inr (0, [.int i_7, .int i_8, .int i_9, .int i_10, .int i_11, .int i_12, .int i_13, .int i_14, .ref a_4, .ref a_5, .ref a_6, .ref a_7, .ref a_8, .ref a_9, .ref a_10, .ref a_11, .ref a_12, .ref a_13])), (a_6, .inl (cy 1, 3, .inl f_1)), (a_7, .inl (cy 1, 210, .inl n9))] H) (hD : va_D A [(a_1, .inr (9, [.ref a_2, .int i_0])), (a_2, .inl (cy 0, 600, .inl f_0)), (a_0, .inr (7, [.ref a_1, .ref a_3, .int i_1, .int i_2, .int i_3, .int i_4, .int i_5, .int i_6])), (a_3, .inr (0, [.int i_7, .int i_8, .int i_9, .int i_10, .int i_11, .int i_12, .int i_13, .int i_14, .ref a_4, .ref a_5, .ref a_6, .ref a_7, .ref a_8, .ref a_9, .ref a_10, .ref a_11, .ref a_12, .ref a_13])), (a_6, .inl (cy 1, 3, .inl f_1)), (a_7, .inl (cy 1, 210, .inl n9))]) hS
      have w10 := hw
      refine lv_aload_n hx hb dX7_opensRule_57 rfl (lv_at hl 1 rfl) ?_
      refine mm_finv (va_runV (As := []) (rest := []) ⟨hx, hb, hml, hown, hts⟩ (K9_X7_nextToken l G cy H.size a_0 a_1 a_2 i_0 f_0 a_3 i_1 i_2 i_3 i_4 i_5 i_6 h0 h1 h3 h4 h5) (cwV 0 hts (mm_gV mm_w227 mm_w228 mm_w229 mm_w19 mm_w230) rfl rfl rfl hd_X7_nextToken ⟨by rw [hRf]; exact Nat.le_of_ble_eq_true rfl, by rw [hRl]; exact Nat.le_of_ble_eq_true rfl⟩) (mm_preV hK hZ hS hA hP hD [0, 1, 2] rfl rfl 2 rfl rfl rfl) rfl rfl hl.1 rfl (lv_room (Nat.le_of_ble_eq_true rfl)) dX7_opensRule_58 ⟨by rw [hRc]; exact Nat.le_of_ble_eq_true rfl, by rw [hRs]; exact Nat.le_of_ble_eq_true rfl⟩) hP hD hS hA (fun u : Int32 × Int32 × Int32 × Int32 => [(a_1, .inr (9, [.ref a_2, .int i_0])), (a_2, .inl (cy 0, 600, .inl f_0)), (a_0, .inr (7, [.ref a_1, .ref a_3, .int i_1, .int i_2, .int u.1, .int u.2.1, .int u.2.2.1, .int u.2.2.2])), (a_3, .inr (0, [.int i_7, .int i_8, .int i_9, .int i_10, .int i_11, .int i_12, .int i_13, .int i_14, .ref a_4, .ref a_5, .ref a_6, .ref a_7, .ref a_8, .ref a_9, .ref a_10, .ref a_11, .ref a_12, .ref a_13])), (a_6, .inl (cy 1, 3, .inl f_1)), (a_7, .inl (cy 1, 210, .inl n9))]) [0, 1, 2] [3, 4, 5] (n := 6) (fun _ => rfl) (by decide +kernel) (by decide +kernel) rfl (fun _ => rfl) (wr := [(a_3, .inr (0, [.int i_7, .int i_8, .int i_9, .int i_10, .int i_11, .int i_12, .int i_13, .int i_14, .ref a_4, .ref a_5, .ref a_6, .ref a_7, .ref a_8, .ref a_9, .ref a_10, .ref a_11, .ref a_12, .ref a_13])), (a_6, .inl (cy 1, 3, .inl f_1)), (a_7, .inl (cy 1, 210, .inl n9))]) rfl (fun _ => rfl) (fun _ => rfl) ?_
      clear hP hD hS
      clear H locs
      intro u
      obtain ⟨n11, n12, n13, n14⟩ := u
      intro H locs hw (hP : va_P G vwCl [(a_1, .inr (9, [.ref a_2, .int i_0])), (a_2, .inl (cy 0, 600, .inl f_0)), (a_0, .inr (7, [.ref a_1, .ref a_3, .int i_1, .int i_2, .int n11, .int n12, .int n13, .int n14])), (a_3, .inr (0, [.int i_7, .int i_8, .int i_9, .int i_10, .int i_11, .int i_12, .int i_13, .int i_14, .ref a_4, .ref a_5, .ref a_6, .ref a_7, .ref a_8, .ref a_9, .ref a_10, .ref a_11, .ref a_12, .ref a_13])), (a_6, .inl (cy 1, 3, .inl f_1)), (a_7, .inl (cy 1, 210, .inl n9))] H) (hD : va_D A [(a_1, .inr (9, [.ref a_2, .int i_0])), (a_2, .inl (cy 0, 600, .inl f_0)), (a_0, .inr (7, [.ref a_1, .ref a_3, .int i_1, .int i_2, .int n11, .int n12, .int n13, .int n14])), (a_3, .inr (0, [.int i_7, .int i_8, .int i_9, .int i_10, .int i_11, .int i_12, .int i_13, .int i_14, .ref a_4, .ref a_5, .ref a_6, .ref a_7, .ref a_8, .ref a_9, .ref a_10, .ref a_11, .ref a_12, .ref a_13])), (a_6, .inl (cy 1, 3, .inl f_1)), (a_7, .inl (cy 1, 210, .inl n9))]) hS
      obtain ⟨w15, w16, w17⟩ := hw
      refine lv_iconst (v := 1) hx hb dX7_opensRule_61 (by decide) ?_
      subst hAe
      rw [hQ]
      exact W.zret (v := 1) hx hb hr rfl (fun t ht hW => ⟨⟨1, (i_1, i_2, n11, n12, n13, n14, n9), rfl, ⟨h2, w15, w16, w17, w10, (Or.inr ⟨rfl, q4, (mm_rc7_of ev1 ev5 q7)⟩)⟩, by rw [ht]; exact hP, hK.warm hW, hD⟩, hS.F ht⟩) hS.2.2 dX7_opensRule_62
    · have q18 := mm_leR (mm_nlt c6) mm_k7 rv5
      refine lv_aload_n hx hb dX7_opensRule_35 rfl (lv_at hl 1 rfl) ?_
      refine lv_iconst (v := 3) hx hb dX7_opensRule_36 (by decide) ?_
      refine mm_finv (va_runV (As := [.int 3]) (rest := []) ⟨hx, hb, hml, hown, hts⟩ (K105_X7_blame l G cy H.size a_0 a_1 a_3 i_1 i_2 i_3 i_4 i_5 i_6 h2 h4) (cwV 1 hts (mm_gV mm_w311 mm_w312 mm_w313 mm_w19 mm_w314) rfl rfl rfl hd_X7_blame ⟨by rw [hRf]; exact Nat.le_of_ble_eq_true rfl, by rw [hRl]; exact Nat.le_of_ble_eq_true rfl⟩) (mm_preV hK hZ hS hA hP hD [2] rfl rfl 2 rfl rfl rfl) rfl rfl hl.1 rfl (lv_room (Nat.le_of_ble_eq_true rfl)) dX7_opensRule_37 ⟨by rw [hRc]; exact Nat.le_of_ble_eq_true rfl, by rw [hRs]; exact Nat.le_of_ble_eq_true rfl⟩) hP hD hS hA (fun u : Int32 × Int32 => [(a_1, .inr (9, [.ref a_2, .int i_0])), (a_2, .inl (cy 0, 600, .inl f_0)), (a_0, .inr (7, [.ref a_1, .ref a_3, .int u.1, .int u.2, .int i_3, .int i_4, .int i_5, .int i_6])), (a_3, .inr (0, [.int i_7, .int i_8, .int i_9, .int i_10, .int i_11, .int i_12, .int i_13, .int i_14, .ref a_4, .ref a_5, .ref a_6, .ref a_7, .ref a_8, .ref a_9, .ref a_10, .ref a_11, .ref a_12, .ref a_13])), (a_6, .inl (cy 1, 3, .inl f_1)), (a_7, .inl (cy 1, 210, .inl f_2))]) [2] [0, 1, 3, 4, 5] (n := 6) (fun _ => rfl) (by decide +kernel) (by decide +kernel) rfl (fun _ => rfl) (wr := [(a_1, .inr (9, [.ref a_2, .int i_0])), (a_2, .inl (cy 0, 600, .inl f_0)), (a_3, .inr (0, [.int i_7, .int i_8, .int i_9, .int i_10, .int i_11, .int i_12, .int i_13, .int i_14, .ref a_4, .ref a_5, .ref a_6, .ref a_7, .ref a_8, .ref a_9, .ref a_10, .ref a_11, .ref a_12, .ref a_13])), (a_6, .inl (cy 1, 3, .inl f_1)), (a_7, .inl (cy 1, 210, .inl f_2))]) rfl (fun _ => rfl) (fun _ => rfl) ?_
      clear hP hD hS
      clear H locs
      intro u
      obtain ⟨n19, n20⟩ := u
      intro H locs hw (hP : va_P G vwCl [(a_1, .inr (9, [.ref a_2, .int i_0])), (a_2, .inl (cy 0, 600, .inl f_0)), (a_0, .inr (7, [.ref a_1, .ref a_3, .int n19, .int n20, .int i_3, .int i_4, .int i_5, .int i_6])), (a_3, .inr (0, [.int i_7, .int i_8, .int i_9, .int i_10, .int i_11, .int i_12, .int i_13, .int i_14, .ref a_4, .ref a_5, .ref a_6, .ref a_7, .ref a_8, .ref a_9, .ref a_10, .ref a_11, .ref a_12, .ref a_13])), (a_6, .inl (cy 1, 3, .inl f_1)), (a_7, .inl (cy 1, 210, .inl f_2))] H) (hD : va_D A [(a_1, .inr (9, [.ref a_2, .int i_0])), (a_2, .inl (cy 0, 600, .inl f_0)), (a_0, .inr (7, [.ref a_1, .ref a_3, .int n19, .int n20, .int i_3, .int i_4, .int i_5, .int i_6])), (a_3, .inr (0, [.int i_7, .int i_8, .int i_9, .int i_10, .int i_11, .int i_12, .int i_13, .int i_14, .ref a_4, .ref a_5, .ref a_6, .ref a_7, .ref a_8, .ref a_9, .ref a_10, .ref a_11, .ref a_12, .ref a_13])), (a_6, .inl (cy 1, 3, .inl f_1)), (a_7, .inl (cy 1, 210, .inl f_2))]) hS
      have w21 := hw
      refine lv_iconst (v := 0) hx hb dX7_opensRule_40 (by decide) ?_
      subst hAe
      rw [hQ]
      exact W.zret (v := 0) hx hb hr rfl (fun t ht hW => ⟨⟨0, (n19, n20, i_3, i_4, i_5, i_6, f_2), rfl, ⟨(mm_wk w21 (by decide)), h3, h4, h5, h9, (Or.inl rfl)⟩, by rw [ht]; exact hP, hK.warm hW, hD⟩, hS.F ht⟩) hS.2.2 dX7_opensRule_41
  · have q22 := mm_ltL (h := (-1)) (mm_nle c2) rv1 mm_k0 (by decide)
    have q23 : mm_rg i_12 0 0 := mm_unadd tv1 q22 h7 (by decide) (by decide)
    refine lv_aload_n hx hb dX7_opensRule_14 rfl (lv_at hl 1 rfl) ?_
    refine lv_iconst (v := 1) hx hb dX7_opensRule_15 (by decide) ?_
    refine mm_finv (va_runV (As := [.int 1]) (rest := []) ⟨hx, hb, hml, hown, hts⟩ (K101_X7_blame l G cy H.size a_0 a_1 a_3 i_1 i_2 i_3 i_4 i_5 i_6 h2 h4) (cwV 1 hts (mm_gV mm_w311 mm_w312 mm_w313 mm_w19 mm_w314) rfl rfl rfl hd_X7_blame ⟨by rw [hRf]; exact Nat.le_of_ble_eq_true rfl, by rw [hRl]; exact Nat.le_of_ble_eq_true rfl⟩) (mm_preV hK hZ hS hA hP hD [2] rfl rfl 2 rfl rfl rfl) rfl rfl hl.1 rfl (lv_room (Nat.le_of_ble_eq_true rfl)) dX7_opensRule_16 ⟨by rw [hRc]; exact Nat.le_of_ble_eq_true rfl, by rw [hRs]; exact Nat.le_of_ble_eq_true rfl⟩) hP hD hS hA (fun u : Int32 × Int32 => [(a_1, .inr (9, [.ref a_2, .int i_0])), (a_2, .inl (cy 0, 600, .inl f_0)), (a_0, .inr (7, [.ref a_1, .ref a_3, .int u.1, .int u.2, .int i_3, .int i_4, .int i_5, .int i_6])), (a_3, .inr (0, [.int i_7, .int i_8, .int i_9, .int i_10, .int i_11, .int i_12, .int i_13, .int i_14, .ref a_4, .ref a_5, .ref a_6, .ref a_7, .ref a_8, .ref a_9, .ref a_10, .ref a_11, .ref a_12, .ref a_13])), (a_6, .inl (cy 1, 3, .inl f_1)), (a_7, .inl (cy 1, 210, .inl f_2))]) [2] [0, 1, 3, 4, 5] (n := 6) (fun _ => rfl) (by decide +kernel) (by decide +kernel) rfl (fun _ => rfl) (wr := [(a_1, .inr (9, [.ref a_2, .int i_0])), (a_2, .inl (cy 0, 600, .inl f_0)), (a_3, .inr (0, [.int i_7, .int i_8, .int i_9, .int i_10, .int i_11, .int i_12, .int i_13, .int i_14, .ref a_4, .ref a_5, .ref a_6, .ref a_7, .ref a_8, .ref a_9, .ref a_10, .ref a_11, .ref a_12, .ref a_13])), (a_6, .inl (cy 1, 3, .inl f_1)), (a_7, .inl (cy 1, 210, .inl f_2))]) rfl (fun _ => rfl) (fun _ => rfl) ?_
    clear hP hD hS
    clear H locs
    intro u
    obtain ⟨n24, n25⟩ := u
    intro H locs hw (hP : va_P G vwCl [(a_1, .inr (9, [.ref a_2, .int i_0])), (a_2, .inl (cy 0, 600, .inl f_0)), (a_0, .inr (7, [.ref a_1, .ref a_3, .int n24, .int n25, .int i_3, .int i_4, .int i_5, .int i_6])), (a_3, .inr (0, [.int i_7, .int i_8, .int i_9, .int i_10, .int i_11, .int i_12, .int i_13, .int i_14, .ref a_4, .ref a_5, .ref a_6, .ref a_7, .ref a_8, .ref a_9, .ref a_10, .ref a_11, .ref a_12, .ref a_13])), (a_6, .inl (cy 1, 3, .inl f_1)), (a_7, .inl (cy 1, 210, .inl f_2))] H) (hD : va_D A [(a_1, .inr (9, [.ref a_2, .int i_0])), (a_2, .inl (cy 0, 600, .inl f_0)), (a_0, .inr (7, [.ref a_1, .ref a_3, .int n24, .int n25, .int i_3, .int i_4, .int i_5, .int i_6])), (a_3, .inr (0, [.int i_7, .int i_8, .int i_9, .int i_10, .int i_11, .int i_12, .int i_13, .int i_14, .ref a_4, .ref a_5, .ref a_6, .ref a_7, .ref a_8, .ref a_9, .ref a_10, .ref a_11, .ref a_12, .ref a_13])), (a_6, .inl (cy 1, 3, .inl f_1)), (a_7, .inl (cy 1, 210, .inl f_2))]) hS
    have w26 := hw
    refine lv_iconst (v := 0) hx hb dX7_opensRule_19 (by decide) ?_
    subst hAe
    rw [hQ]
    exact W.zret (v := 0) hx hb hr rfl (fun t ht hW => ⟨⟨0, (n24, n25, i_3, i_4, i_5, i_6, f_2), rfl, ⟨(mm_wk w26 (by decide)), h3, h4, h5, h9, (Or.inl rfl)⟩, by rw [ht]; exact hP, hK.warm hW, hD⟩, hS.F ht⟩) hS.2.2 dX7_opensRule_20

set_option maxHeartbeats 4000000 in
set_option maxRecDepth 100000 in
theorem K111_J0_coder_7d493 (l : Launch) (G : va_G) (cy : Nat → ClassId) (sz : Nat)    : mm_CI l yJ0_coder_7d493 (mm_ws yJ0_coder_7d493 cJ0_coder_7d493 1 (some .byte)) ({ frames := 0, cells := 0, slots := 0, locals := 0 } : Room) G cy sz [] [.ref (cy 122)] (fun u : Unit => []) (fun (r : Int32) (u : Unit) => 0 = r) 0 0 := by
  refine mm_begin (lv := [(0, .ref (cy 122))]) (by decide) (Nat.le_of_ble_eq_true rfl) rfl ?_
  intro p e s m below meth c A ls R args Q H locs hRe hQ hAe hx hb hr hlocks hml hown hnm hts hsz hA hS hP hK hD hZ hl
  have hRf : R.frames = 0 := by rw [hRe]
  have hRl : R.locals = 0 := by rw [hRe]
  have hRc : R.cells = 0 := by rw [hRe]
  have hRs : R.slots = 0 := by rw [hRe]
  refine va_gets hx hb hZ.2.1 hS hown (mm_h hts mm_w268) (fun _ h9 => h9) dJ0_coder_7d493_0 ?_
  refine lv_if_eq (tgt := 13) hx hb dJ0_coder_7d493_3 (by decide) (fun c1 => ?_) (fun c1 => ?_)
  · exact mm_eqN c1.symm mm_k0 mm_k1 (by decide)
  · refine lv_aload_n hx hb dJ0_coder_7d493_6 rfl (lv_at hl 0 rfl) ?_
    refine vk_getf hx hb ((hZ.1.1 11 (by decide)).2.1) hS hown (mm_h hts mm_w269) (fun _ h9 => h9) dJ0_coder_7d493_7 ?_
    refine W.eq (g2 := F0 m 10 ls [.int 0]) rfl ?_
    refine lv_goto (tgt := 14) hx hb dJ0_coder_7d493_10 (by decide) ?_
    subst hAe
    rw [hQ]
    exact W.zret (v := 0) hx hb hr rfl (fun t ht hW => ⟨⟨0, (), rfl, rfl, by rw [ht]; exact hP, hK.warm hW, hD⟩, hS.F ht⟩) hS.2.2 dJ0_coder_7d493_14

set_option maxHeartbeats 4000000 in
set_option maxRecDepth 100000 in
theorem K112_J0_length_8abf5 (l : Launch) (G : va_G) (cy : Nat → ClassId) (sz : Nat)    : mm_CI l yJ0_length_8abf5 (mm_ws yJ0_length_8abf5 cJ0_length_8abf5 1 (some .int)) ({ frames := 1, cells := 0, slots := 0, locals := 20 } : Room) G cy sz [] [.ref (cy 122)] (fun u : Unit => []) (fun (r : Int32) (u : Unit) => 5 = r) 0 0 := by
  refine mm_begin (lv := [(0, .ref (cy 122))]) (by decide) (Nat.le_of_ble_eq_true rfl) rfl ?_
  intro p e s m below meth c A ls R args Q H locs hRe hQ hAe hx hb hr hlocks hml hown hnm hts hsz hA hS hP hK hD hZ hl
  have hRf : R.frames = 1 := by rw [hRe]
  have hRl : R.locals = 20 := by rw [hRe]
  have hRc : R.cells = 0 := by rw [hRe]
  have hRs : R.slots = 0 := by rw [hRe]
  refine lv_aload_n hx hb dJ0_length_8abf5_0 rfl (lv_at hl 0 rfl) ?_
  refine vk_getf hx hb ((hZ.1.1 11 (by decide)).2.2.1) hS hown (mm_h hts mm_w263) (fun _ h9 => h9) dJ0_length_8abf5_1 ?_
  refine W.eq (g2 := F0 m 4 ls [.ref (cy 123)]) rfl ?_
  refine va_tlen hx hb ((hZ.1.1 11 (by decide)).2.2.2) hS (v := 5) (by decide) dJ0_length_8abf5_4 ?_
  refine lv_aload_n hx hb dJ0_length_8abf5_5 rfl (lv_at hl 0 rfl) ?_
  refine mm_finir (va_runV (As := []) (rest := [.int 5]) ⟨hx, hb, hml, hown, hts⟩ (K111_J0_coder_7d493 l G cy H.size  ) (cwV 0 hts (mm_gV mm_w264 mm_w265 mm_w266 mm_w261 mm_w267) rfl rfl rfl hd_J0_coder_7d493 ⟨by rw [hRf]; exact Nat.le_of_ble_eq_true rfl, by rw [hRl]; exact Nat.le_of_ble_eq_true rfl⟩) (mm_preVS hK hZ hS hA hP hD [] rfl rfl 11 (by decide)) rfl rfl hl.1 rfl (lv_room (Nat.le_of_ble_eq_true rfl)) dJ0_length_8abf5_6 ⟨by rw [hRc]; exact Nat.le_of_ble_eq_true rfl, by rw [hRs]; exact Nat.le_of_ble_eq_true rfl⟩) hP hD hS hA [] rfl (fun _ => rfl) ?_
  clear hP hD hS
  clear H locs
  intro v1 _u H locs hw hP hD hS
  subst hw
  refine lv_ishr hx hb dJ0_length_8abf5_9 ?_
  refine lv_topi (fun v2 ev2 => ?_)
  obtain rfl : v2 = 5 := ev2.trans (by decide)
  subst hAe
  rw [hQ]
  exact W.iret (v := 5) hx hb hr (fun t ht hW => ⟨⟨5, (), rfl, rfl, by rw [ht]; exact hP, hK.warm hW, hD⟩, hS.F ht⟩) hS.2.2 dJ0_length_8abf5_10

set_option maxHeartbeats 4000000 in
set_option maxRecDepth 100000 in
theorem K113_J0_isLatin1_aae02 (l : Launch) (G : va_G) (cy : Nat → ClassId) (sz : Nat)    : mm_CI l yJ0_isLatin1_aae02 (mm_ws yJ0_isLatin1_aae02 cJ0_isLatin1_aae02 1 (some .boolean)) ({ frames := 0, cells := 0, slots := 0, locals := 0 } : Room) G cy sz [] [.ref (cy 122)] (fun u : Unit => []) (fun (r : Int32) (u : Unit) => 1 = r) 0 0 := by
  refine mm_begin (lv := [(0, .ref (cy 122))]) (by decide) (Nat.le_of_ble_eq_true rfl) rfl ?_
  intro p e s m below meth c A ls R args Q H locs hRe hQ hAe hx hb hr hlocks hml hown hnm hts hsz hA hS hP hK hD hZ hl
  have hRf : R.frames = 0 := by rw [hRe]
  have hRl : R.locals = 0 := by rw [hRe]
  have hRc : R.cells = 0 := by rw [hRe]
  have hRs : R.slots = 0 := by rw [hRe]
  refine va_gets hx hb hZ.2.1 hS hown (mm_h hts mm_w268) (fun _ h9 => h9) dJ0_isLatin1_aae02_0 ?_
  refine lv_if_eq (tgt := 17) hx hb dJ0_isLatin1_aae02_3 (by decide) (fun c1 => ?_) (fun c1 => ?_)
  · exact mm_eqN c1.symm mm_k0 mm_k1 (by decide)
  · refine lv_aload_n hx hb dJ0_isLatin1_aae02_6 rfl (lv_at hl 0 rfl) ?_
    refine vk_getf hx hb ((hZ.1.1 11 (by decide)).2.1) hS hown (mm_h hts mm_w269) (fun _ h9 => h9) dJ0_isLatin1_aae02_7 ?_
    refine W.eq (g2 := F0 m 10 ls [.int 0]) rfl ?_
    refine lv_if_ne (tgt := 17) hx hb dJ0_isLatin1_aae02_10 (by decide) (fun c2 => ?_) (fun c2 => ?_)
    · have q3 := mm_neL (lo := 1) (mm_ne c2) mm_k0 mm_k0 (by decide) (by decide)
      exact mm_no q3 (by decide)
    · refine lv_iconst (v := 1) hx hb dJ0_isLatin1_aae02_13 (by decide) ?_
      refine lv_goto (tgt := 18) hx hb dJ0_isLatin1_aae02_14 (by decide) ?_
      subst hAe
      rw [hQ]
      exact W.zret (v := 1) hx hb hr rfl (fun t ht hW => ⟨⟨1, (), rfl, rfl, by rw [ht]; exact hP, hK.warm hW, hD⟩, hS.F ht⟩) hS.2.2 dJ0_isLatin1_aae02_18

set_option maxHeartbeats 4000000 in
set_option maxRecDepth 100000 in
theorem K124_J1_charAt_3b067 (l : Launch) (G : va_G) (cy : Nat → ClassId) (sz : Nat) (i_0 : Int32) (h0 : mm_rg i_0 0 4)  : mm_CI l yJ1_charAt_3b067 (mm_ws yJ1_charAt_3b067 cJ1_charAt_3b067 2 (some .char)) ({ frames := 2, cells := 0, slots := 0, locals := 43 } : Room) G cy sz [] [.ref (cy 123), .int i_0] (fun u : Unit => []) (fun (r : Int32) (u : Unit) => mm_rg r 0 65535) 0 0 := by
  refine mm_begin (lv := [(0, .ref (cy 123)), (1, .int i_0)]) (by decide) (Nat.le_of_ble_eq_true rfl) rfl ?_
  intro p e s m below meth c A ls R args Q H locs hRe hQ hAe hx hb hr hlocks hml hown hnm hts hsz hA hS hP hK hD hZ hl
  have hRf : R.frames = 2 := by rw [hRe]
  have hRl : R.locals = 43 := by rw [hRe]
  have hRc : R.cells = 0 := by rw [hRe]
  have hRs : R.slots = 0 := by rw [hRe]
  refine lv_iload_n hx hb dJ1_charAt_3b067_0 rfl (lv_at hl 1 rfl) ?_
  refine lv_aload_n hx hb dJ1_charAt_3b067_1 rfl (lv_at hl 0 rfl) ?_
  refine va_tlen hx hb ((hZ.1.1 11 (by decide)).2.2.2) hS (v := 5) (by decide) dJ1_charAt_3b067_2 ?_
  refine mm_finvr (va_runS (As := [.int i_0, .int 5]) (rest := []) ⟨hx, hb, hml, hown, hts⟩ (K40_J0_checkIndex_df160 l G cy H.size i_0 h0) (va_cwS 2 hts (mm_gS mm_w282 mm_w283 mm_w261 mm_w284) rfl rfl rfl hs_J0_checkIndex_df160 ⟨by rw [hRf]; exact Nat.le_of_ble_eq_true rfl, by rw [hRl]; exact Nat.le_of_ble_eq_true rfl⟩) (mm_preS hK hZ hS hA hP hD [] rfl rfl) rfl rfl hl.1 rfl (lv_room (Nat.le_of_ble_eq_true rfl)) dJ1_charAt_3b067_3 ⟨by rw [hRc]; exact Nat.le_of_ble_eq_true rfl, by rw [hRs]; exact Nat.le_of_ble_eq_true rfl⟩) hP hD hS hA [] rfl (fun _ => rfl) ?_
  clear hP hD hS
  clear H locs
  intro _u H locs hw hP hD hS
  refine lv_aload_n hx hb dJ1_charAt_3b067_6 rfl (lv_at hl 0 rfl) ?_
  refine lv_iload_n hx hb dJ1_charAt_3b067_7 rfl (lv_at hl 1 rfl) ?_
  refine va_tb hx hb ((hZ.1.1 11 (by decide)).2.2.2) hS (mm_in h0 (by decide)) rfl dJ1_charAt_3b067_8 ?_
  refine lv_topi (fun v1 ev1 => ?_)
  refine lv_sipush (v := 255) hx hb dJ1_charAt_3b067_9 (by decide) ?_
  refine lv_iand hx hb dJ1_charAt_3b067_12 ?_
  refine lv_topi (fun v2 ev2 => ?_)
  have rv2 : mm_rg v2 0 255 := mm_andR ev2 mm_k255 (by decide)
  obtain ⟨v3, ev3⟩ : ∃ y : Int32, y = (v2.toUInt32 % 65536).toInt32 := ⟨_, rfl⟩
  refine lv_i2c hx hb dJ1_charAt_3b067_13 ev3.symm ?_
  have rv3 : mm_rg v3 0 65535 := mm_i2c ev3
  subst hAe
  rw [hQ]
  exact W.zret (v := v3) hx hb hr (mm_nch rv3) (fun t ht hW => ⟨⟨v3, (), rfl, rv3, by rw [ht]; exact hP, hK.warm hW, hD⟩, hS.F ht⟩) hS.2.2 dJ1_charAt_3b067_14

set_option maxHeartbeats 4000000 in
set_option maxRecDepth 100000 in
theorem K125_J0_charAt_5068e (l : Launch) (G : va_G) (cy : Nat → ClassId) (sz : Nat) (i_0 : Int32) (h0 : mm_rg i_0 0 4)  : mm_CI l yJ0_charAt_5068e (mm_ws yJ0_charAt_5068e cJ0_charAt_5068e 2 (some .char)) ({ frames := 3, cells := 0, slots := 0, locals := 64 } : Room) G cy sz [] [.ref (cy 122), .int i_0] (fun u : Unit => []) (fun (r : Int32) (u : Unit) => mm_rg r 0 65535) 0 0 := by
  refine mm_begin (lv := [(0, .ref (cy 122)), (1, .int i_0)]) (by decide) (Nat.le_of_ble_eq_true rfl) rfl ?_
  intro p e s m below meth c A ls R args Q H locs hRe hQ hAe hx hb hr hlocks hml hown hnm hts hsz hA hS hP hK hD hZ hl
  have hRf : R.frames = 3 := by rw [hRe]
  have hRl : R.locals = 64 := by rw [hRe]
  have hRc : R.cells = 0 := by rw [hRe]
  have hRs : R.slots = 0 := by rw [hRe]
  refine lv_aload_n hx hb dJ0_charAt_5068e_0 rfl (lv_at hl 0 rfl) ?_
  refine mm_finir (va_runV (As := []) (rest := []) ⟨hx, hb, hml, hown, hts⟩ (K113_J0_isLatin1_aae02 l G cy H.size  ) (cwV 0 hts (mm_gV mm_w274 mm_w275 mm_w276 mm_w261 mm_w277) rfl rfl rfl hd_J0_isLatin1_aae02 ⟨by rw [hRf]; exact Nat.le_of_ble_eq_true rfl, by rw [hRl]; exact Nat.le_of_ble_eq_true rfl⟩) (mm_preVS hK hZ hS hA hP hD [] rfl rfl 11 (by decide)) rfl rfl hl.1 rfl (lv_room (Nat.le_of_ble_eq_true rfl)) dJ0_charAt_5068e_1 ⟨by rw [hRc]; exact Nat.le_of_ble_eq_true rfl, by rw [hRs]; exact Nat.le_of_ble_eq_true rfl⟩) hP hD hS hA [] rfl (fun _ => rfl) ?_
  clear hP hD hS
  clear H locs
  intro v1 _u H locs hw hP hD hS
  subst hw
  refine lv_if_eq (tgt := 16) hx hb dJ0_charAt_5068e_4 (by decide) (fun c2 => ?_) (fun c2 => ?_)
  · exact mm_eqN c2.symm mm_k0 mm_k1 (by decide)
  · refine lv_aload_n hx hb dJ0_charAt_5068e_7 rfl (lv_at hl 0 rfl) ?_
    refine vk_getf hx hb ((hZ.1.1 11 (by decide)).2.2.1) hS hown (mm_h hts mm_w263) (fun _ h9 => h9) dJ0_charAt_5068e_8 ?_
    refine W.eq (g2 := F0 m 11 ls [.ref (cy 123)]) rfl ?_
    refine lv_iload_n hx hb dJ0_charAt_5068e_11 rfl (lv_at hl 1 rfl) ?_
    refine mm_finir (va_runS (As := [.ref (cy 123), .int i_0]) (rest := []) ⟨hx, hb, hml, hown, hts⟩ (K124_J1_charAt_3b067 l G cy H.size i_0 h0) (va_cwS 2 hts (mm_gS mm_w278 mm_w279 mm_w280 mm_w281) rfl rfl rfl hs_J1_charAt_3b067 ⟨by rw [hRf]; exact Nat.le_of_ble_eq_true rfl, by rw [hRl]; exact Nat.le_of_ble_eq_true rfl⟩) (mm_preS hK hZ hS hA hP hD [] rfl rfl) rfl rfl hl.1 rfl (lv_room (Nat.le_of_ble_eq_true rfl)) dJ0_charAt_5068e_12 ⟨by rw [hRc]; exact Nat.le_of_ble_eq_true rfl, by rw [hRs]; exact Nat.le_of_ble_eq_true rfl⟩) hP hD hS hA [] rfl (fun _ => rfl) ?_
    clear hP hD hS
    clear H locs
    intro v3 _u H locs hw hP hD hS
    have w4 := hw
    subst hAe
    rw [hQ]
    exact W.zret (v := v3) hx hb hr (mm_nch w4) (fun t ht hW => ⟨⟨v3, (), rfl, w4, by rw [ht]; exact hP, hK.warm hW, hD⟩, hS.F ht⟩) hS.2.2 dJ0_charAt_5068e_15

set_option maxHeartbeats 4000000 in
set_option maxRecDepth 100000 in
theorem K126_X7_isName (l : Launch) (G : va_G) (cy : Nat → ClassId) (sz : Nat) (a_0 : Nat) (a_1 : Nat) (a_2 : Nat) (i_0 : Int32) (f_0 : Nat → Int32) (a_3 : Nat) (i_1 : Int32) (i_2 : Int32) (i_3 : Int32) (i_4 : Int32) (i_5 : Int32) (i_6 : Int32) (h0 : mm_rg i_0 0 600) (h1 : mm_ar f_0 (-128) 127) (h2 : mm_rg i_3 0 5) (h3 : mm_rg i_4 0 600) (h4 : mm_rg i_5 0 600)  : mm_CI l yX7_isName (mm_ws yX7_isName cX7_isName 4 (some .boolean)) ({ frames := 4, cells := 0, slots := 0, locals := 85 } : Room) G cy sz [(a_1, .inr (9, [.ref a_2, .int i_0])), (a_2, .inl (cy 0, 600, .inl f_0)), (a_0, .inr (7, [.ref a_1, .ref a_3, .int i_1, .int i_2, .int i_3, .int i_4, .int i_5, .int i_6]))] [.ref a_0, .ref (cy 122)] (fun u : Unit => [(a_1, .inr (9, [.ref a_2, .int i_0])), (a_2, .inl (cy 0, 600, .inl f_0)), (a_0, .inr (7, [.ref a_1, .ref a_3, .int i_1, .int i_2, .int i_3, .int i_4, .int i_5, .int i_6]))]) (fun (r : Int32) (u : Unit) => ((0 = r) ∨ (1 = r))) 0 0 := by
  refine mm_begin (lv := [(0, .ref a_0), (1, .ref (cy 122))]) (by decide) (Nat.le_of_ble_eq_true rfl) rfl ?_
  intro p e s m below meth c A ls R args Q H locs hRe hQ hAe hx hb hr hlocks hml hown hnm hts hsz hA hS hP hK hD hZ hl
  have hRf : R.frames = 4 := by rw [hRe]
  have hRl : R.locals = 85 := by rw [hRe]
  have hRc : R.cells = 0 := by rw [hRe]
  have hRs : R.slots = 0 := by rw [hRe]
  refine lv_aload_n hx hb dX7_isName_0 rfl (lv_at hl 1 rfl) ?_
  refine mm_finir (va_runV (As := []) (rest := []) ⟨hx, hb, hml, hown, hts⟩ (K112_J0_length_8abf5 l G cy H.size  ) (cwV 0 hts (mm_gV mm_w258 mm_w259 mm_w260 mm_w261 mm_w262) rfl rfl rfl hd_J0_length_8abf5 ⟨by rw [hRf]; exact Nat.le_of_ble_eq_true rfl, by rw [hRl]; exact Nat.le_of_ble_eq_true rfl⟩) (mm_preVS hK hZ hS hA hP hD [] rfl rfl 11 (by decide)) rfl rfl hl.1 rfl (lv_room (Nat.le_of_ble_eq_true rfl)) dX7_isName_1 ⟨by rw [hRc]; exact Nat.le_of_ble_eq_true rfl, by rw [hRs]; exact Nat.le_of_ble_eq_true rfl⟩) hP hD hS hA [] rfl (fun _ => rfl) ?_
  clear hP hD hS
  clear H locs
  intro v1 _u H locs hw hP hD hS
  subst hw
  refine lv_istore_n (lv' := [(2, .int 5), (0, .ref a_0), (1, .ref (cy 122))]) hx hb dX7_isName_4 rfl hl (by decide) rfl ?_
  clear hl
  clear ls
  intro ls hl
  refine lv_aload_n hx hb dX7_isName_5 rfl (lv_at hl 1 rfl) ?_
  refine va_get (D := G) (ci := 7) (v := .int i_3) (C := RX7) (T := TX7) (N := 8) hx hb hts (mm_i inlX7) hown hK.1 hP 2 rfl rfl 4 (by decide) (mm_h hts mm_w207) (fun _ h9 => h9) rfl dX7_isName_6 ?_
  refine lv_iconst (v := 2) hx hb dX7_isName_9 (by decide) ?_
  refine lv_icmp_ne (tgt := 40) hx hb dX7_isName_10 (by decide) (fun c2 => ?_) (fun c2 => ?_)
  · refine lv_iconst (v := 0) hx hb dX7_isName_40 (by decide) ?_
    subst hAe
    rw [hQ]
    exact W.zret (v := 0) hx hb hr rfl (fun t ht hW => ⟨⟨0, (), rfl, (Or.inl rfl), by rw [ht]; exact hP, hK.warm hW, hD⟩, hS.F ht⟩) hS.2.2 dX7_isName_41
  · have q3 := mm_eqI (lo := 2) (hi := 2) c2 h2 mm_k2 (by decide)
    refine lv_aload_n hx hb dX7_isName_13 rfl (lv_at hl 1 rfl) ?_
    refine va_get (D := G) (ci := 7) (v := .int i_5) (C := RX7) (T := TX7) (N := 8) hx hb hts (mm_i inlX7) hown hK.1 hP 2 rfl rfl 6 (by decide) (mm_h hts mm_w206) (fun _ h9 => h9) rfl dX7_isName_14 ?_
    refine lv_aload_n hx hb dX7_isName_17 rfl (lv_at hl 1 rfl) ?_
    refine va_get (D := G) (ci := 7) (v := .int i_4) (C := RX7) (T := TX7) (N := 8) hx hb hts (mm_i inlX7) hown hK.1 hP 2 rfl rfl 5 (by decide) (mm_h hts mm_w232) (fun _ h9 => h9) rfl dX7_isName_18 ?_
    refine lv_isub hx hb dX7_isName_21 ?_
    refine lv_topi (fun v4 ev4 => ?_)
    have rv4 : mm_rg v4 (-600) 600 := mm_sub ev4 h4 h3 (by decide) (by decide)
    have tv4 := mm_subE ev4 h4 h3 (by decide)
    refine lv_iload_n hx hb dX7_isName_22 rfl (lv_at hl 0 rfl) ?_
    refine lv_icmp_ne (tgt := 40) hx hb dX7_isName_23 (by decide) (fun c5 => ?_) (fun c5 => ?_)
    · refine lv_iconst (v := 0) hx hb dX7_isName_40 (by decide) ?_
      subst hAe
      rw [hQ]
      exact W.zret (v := 0) hx hb hr rfl (fun t ht hW => ⟨⟨0, (), rfl, (Or.inl rfl), by rw [ht]; exact hP, hK.warm hW, hD⟩, hS.F ht⟩) hS.2.2 dX7_isName_41
    · have q6 := mm_eqI (lo := 5) (hi := 5) c5 rv4 mm_k5 (by decide)
      have q7 : mm_rg i_4 0 595 := mm_unsubY tv4 q6 h4 h3 (by decide)
      have q8 : mm_rg i_5 5 600 := mm_unsubX tv4 q6 q7 h4 (by decide)
      refine lv_aload_n hx hb dX7_isName_26 rfl (lv_at hl 1 rfl) ?_
      refine va_get (D := G) (ci := 7) (v := .int i_5) (C := RX7) (T := TX7) (N := 8) hx hb hts (mm_i inlX7) hown hK.1 hP 2 rfl rfl 6 (by decide) (mm_h hts mm_w206) (fun _ h9 => h9) rfl dX7_isName_27 ?_
      refine lv_aload_n hx hb dX7_isName_30 rfl (lv_at hl 1 rfl) ?_
      refine va_get (D := G) (ci := 7) (v := .ref a_1) (C := RX7) (T := TX7) (N := 8) hx hb hts (mm_i inlX7) hown hK.1 hP 2 rfl rfl 0 (by decide) (mm_h hts mm_w67) (fun _ h9 => h9) rfl dX7_isName_31 ?_
      refine va_get (D := G) (ci := 9) (v := .int i_0) (C := RX9) (T := TX9) (N := 2) hx hb hts (mm_i inlX9) hown hK.1 hP 0 rfl rfl 1 (by decide) (mm_h hts mm_w231) (fun _ h9 => h9) rfl dX7_isName_34 ?_
      refine lv_icmp_le (tgt := 42) hx hb dX7_isName_37 (by decide) (fun c9 => ?_) (fun c9 => ?_)
      · have q10 := mm_leR (mm_le c9) q8 h0
        refine lv_iconst (v := 0) hx hb dX7_isName_42 (by decide) ?_
        refine lv_istore_n (lv' := [(3, .int 0), (2, .int 5), (0, .ref a_0), (1, .ref (cy 122))]) hx hb dX7_isName_43 rfl hl (by decide) rfl ?_
        clear hl
        clear ls
        intro ls hl
        have L44_81 : ∀ (n : Nat) (x44_3_81 : Int32), mm_rg x44_3_81 0 5 → (5 - x44_3_81.toInt).toNat < n → ∀ (H : Heap) (locs : List Loc), va_P G vwCl [(a_1, .inr (9, [.ref a_2, .int i_0])), (a_2, .inl (cy 0, 600, .inl f_0)), (a_0, .inr (7, [.ref a_1, .ref a_3, .int i_1, .int i_2, .int i_3, .int i_4, .int i_5, .int i_6]))] H → va_D A [(a_1, .inr (9, [.ref a_2, .int i_0])), (a_2, .inl (cy 0, 600, .inl f_0)), (a_0, .inr (7, [.ref a_1, .ref a_3, .int i_1, .int i_2, .int i_3, .int i_4, .int i_5, .int i_6]))] → va_S A s.heap H locs → ∀ (ls : Array Slot), lv_has ls 4 [(3, .int x44_3_81), (2, .int 5), (0, .ref a_0), (1, .ref (cy 122))] → W p l e R s m args below meth c H locs 0 0 Q (F0 m 44 ls []) := by
          intro n
          induction n with
          | zero => intro x44_3_81 rx44_3_81 hm; exact absurd hm (Nat.not_lt_zero _)
          | succ n ih44 =>
            intro x44_3_81 rx44_3_81 hm44 H locs hP hD hS ls hl
            refine lv_iload_n hx hb dX7_isName_44 rfl (lv_at hl 0 rfl) ?_
            refine lv_iload_n hx hb dX7_isName_45 rfl (lv_at hl 1 rfl) ?_
            refine lv_icmp_ge (tgt := 79) hx hb dX7_isName_46 (by decide) (fun c83 => ?_) (fun c83 => ?_)
            · have q84 := mm_leR (mm_le c83) mm_k5 rx44_3_81
              refine lv_iconst (v := 1) hx hb dX7_isName_79 (by decide) ?_
              subst hAe
              rw [hQ]
              exact W.zret (v := 1) hx hb hr rfl (fun t ht hW => ⟨⟨1, (), rfl, (Or.inr rfl), by rw [ht]; exact hP, hK.warm hW, hD⟩, hS.F ht⟩) hS.2.2 dX7_isName_80
            · have q85 := mm_ltL (h := 4) (mm_nle c83) rx44_3_81 mm_k5 (by decide)
              refine lv_aload_n hx hb dX7_isName_49 rfl (lv_at hl 2 rfl) ?_
              refine va_get (D := G) (ci := 7) (v := .ref a_1) (C := RX7) (T := TX7) (N := 8) hx hb hts (mm_i inlX7) hown hK.1 hP 2 rfl rfl 0 (by decide) (mm_h hts mm_w67) (fun _ h9 => h9) rfl dX7_isName_50 ?_
              refine va_get (D := G) (ci := 9) (v := .ref a_2) (C := RX9) (T := TX9) (N := 2) hx hb hts (mm_i inlX9) hown hK.1 hP 0 rfl rfl 0 (by decide) (mm_h hts mm_w238) (fun _ h9 => h9) rfl dX7_isName_53 ?_
              refine lv_aload_n hx hb dX7_isName_56 rfl (lv_at hl 2 rfl) ?_
              refine va_get (D := G) (ci := 7) (v := .int i_4) (C := RX7) (T := TX7) (N := 8) hx hb hts (mm_i inlX7) hown hK.1 hP 2 rfl rfl 5 (by decide) (mm_h hts mm_w232) (fun _ h9 => h9) rfl dX7_isName_57 ?_
              refine lv_iload_n hx hb dX7_isName_60 rfl (lv_at hl 0 rfl) ?_
              refine lv_iadd hx hb dX7_isName_61 ?_
              refine lv_topi (fun v86 ev86 => ?_)
              have rv86 : mm_rg v86 0 599 := mm_add ev86 q7 q85 (by decide) (by decide)
              have tv86 := mm_addE ev86 q7 q85 (by decide)
              refine va_bald hx hb hK.1 hP 1 0 rfl rfl (mm_in rv86 (by decide)) dX7_isName_62 ?_
              refine lv_topi (fun v87 ev87 => ?_)
              have rv87 : mm_rg v87 (-128) 127 := mm_eqv ev87 (h1 _)
              refine lv_aload_n hx hb dX7_isName_63 rfl (lv_at hl 3 rfl) ?_
              refine lv_iload_n hx hb dX7_isName_64 rfl (lv_at hl 0 rfl) ?_
              refine mm_finir (va_runV (As := [.int x44_3_81]) (rest := [.int v87]) ⟨hx, hb, hml, hown, hts⟩ (K125_J0_charAt_5068e l G cy H.size x44_3_81 q85) (cwV 1 hts (mm_gV mm_w270 mm_w271 mm_w272 mm_w261 mm_w273) rfl rfl rfl hd_J0_charAt_5068e ⟨by rw [hRf]; exact Nat.le_of_ble_eq_true rfl, by rw [hRl]; exact Nat.le_of_ble_eq_true rfl⟩) (mm_preVS hK hZ hS hA hP hD [] rfl rfl 11 (by decide)) rfl rfl hl.1 rfl (lv_room (Nat.le_of_ble_eq_true rfl)) dX7_isName_65 ⟨by rw [hRc]; exact Nat.le_of_ble_eq_true rfl, by rw [hRs]; exact Nat.le_of_ble_eq_true rfl⟩) hP hD hS hA [] rfl (fun _ => rfl) ?_
              clear hP hD hS
              clear H locs
              intro v88 _u H locs hw hP hD hS
              have w89 := hw
              refine lv_icmp_eq (tgt := 73) hx hb dX7_isName_68 (by decide) (fun c90 => ?_) (fun c90 => ?_)
              · have q91 := mm_eqI (lo := 0) (hi := 127) c90 rv87 w89 (by decide)
                have q92 := mm_eqI (lo := 0) (hi := 127) c90.symm w89 rv87 (by decide)
                obtain ⟨v93, ev93⟩ : ∃ y : Int32, y = x44_3_81 + 1 := ⟨_, rfl⟩
                refine lv_iinc (v := v93) (lv' := [(3, .int v93), (2, .int 5), (0, .ref a_0), (1, .ref (cy 122))]) hx hb dX7_isName_73 hl (k := 0) rfl (by rw [ev93]; rfl) (by decide) rfl ?_
                clear hl
                clear ls
                intro ls hl
                have rv93 : mm_rg v93 1 5 := mm_add ev93 q85 mm_k1 (by decide) (by decide)
                have tv93 := mm_addEc ev93 q85 mm_k1 (by decide) (k := 1) (by decide)
                refine lv_goto (tgt := 44) hx hb dX7_isName_76 (by decide) ?_
                exact ih44 v93 (mm_wk rv93 (by decide)) (mm_mu hm44 tv93 (by decide) (rv93).2 (by decide)) H locs hP hD hS ls (lv_sub hl [0, 1, 2, 3] rfl)
              · refine lv_iconst (v := 0) hx hb dX7_isName_71 (by decide) ?_
                subst hAe
                rw [hQ]
                exact W.zret (v := 0) hx hb hr rfl (fun t ht hW => ⟨⟨0, (), rfl, (Or.inl rfl), by rw [ht]; exact hP, hK.warm hW, hD⟩, hS.F ht⟩) hS.2.2 dX7_isName_72
        exact L44_81 _ 0 (mm_wk mm_k0 (by decide)) (Nat.lt_succ_self _) H locs hP hD hS ls (lv_sub hl [0, 1, 2, 3] rfl)
      · have q94 := mm_ltL (h := 599) (mm_nle c9) h0 q8 (by decide)
        refine lv_iconst (v := 0) hx hb dX7_isName_40 (by decide) ?_
        subst hAe
        rw [hQ]
        exact W.zret (v := 0) hx hb hr rfl (fun t ht hW => ⟨⟨0, (), rfl, (Or.inl rfl), by rw [ht]; exact hP, hK.warm hW, hD⟩, hS.F ht⟩) hS.2.2 dX7_isName_41

set_option maxHeartbeats 4000000 in
set_option maxRecDepth 100000 in
theorem K127_J0_coder_7d493 (l : Launch) (G : va_G) (cy : Nat → ClassId) (sz : Nat)    : mm_CI l yJ0_coder_7d493 (mm_ws yJ0_coder_7d493 cJ0_coder_7d493 1 (some .byte)) ({ frames := 0, cells := 0, slots := 0, locals := 0 } : Room) G cy sz [] [.ref (cy 124)] (fun u : Unit => []) (fun (r : Int32) (u : Unit) => 0 = r) 0 0 := by
  refine mm_begin (lv := [(0, .ref (cy 124))]) (by decide) (Nat.le_of_ble_eq_true rfl) rfl ?_
  intro p e s m below meth c A ls R args Q H locs hRe hQ hAe hx hb hr hlocks hml hown hnm hts hsz hA hS hP hK hD hZ hl
  have hRf : R.frames = 0 := by rw [hRe]
  have hRl : R.locals = 0 := by rw [hRe]
  have hRc : R.cells = 0 := by rw [hRe]
  have hRs : R.slots = 0 := by rw [hRe]
  refine va_gets hx hb hZ.2.1 hS hown (mm_h hts mm_w268) (fun _ h9 => h9) dJ0_coder_7d493_0 ?_
  refine lv_if_eq (tgt := 13) hx hb dJ0_coder_7d493_3 (by decide) (fun c1 => ?_) (fun c1 => ?_)
  · exact mm_eqN c1.symm mm_k0 mm_k1 (by decide)
  · refine lv_aload_n hx hb dJ0_coder_7d493_6 rfl (lv_at hl 0 rfl) ?_
    refine vk_getf hx hb ((hZ.1.1 12 (by decide)).2.1) hS hown (mm_h hts mm_w269) (fun _ h9 => h9) dJ0_coder_7d493_7 ?_
    refine W.eq (g2 := F0 m 10 ls [.int 0]) rfl ?_
    refine lv_goto (tgt := 14) hx hb dJ0_coder_7d493_10 (by decide) ?_
    subst hAe
    rw [hQ]
    exact W.zret (v := 0) hx hb hr rfl (fun t ht hW => ⟨⟨0, (), rfl, rfl, by rw [ht]; exact hP, hK.warm hW, hD⟩, hS.F ht⟩) hS.2.2 dJ0_coder_7d493_14

set_option maxHeartbeats 4000000 in
set_option maxRecDepth 100000 in
theorem K128_J0_length_8abf5 (l : Launch) (G : va_G) (cy : Nat → ClassId) (sz : Nat)    : mm_CI l yJ0_length_8abf5 (mm_ws yJ0_length_8abf5 cJ0_length_8abf5 1 (some .int)) ({ frames := 1, cells := 0, slots := 0, locals := 20 } : Room) G cy sz [] [.ref (cy 124)] (fun u : Unit => []) (fun (r : Int32) (u : Unit) => 4 = r) 0 0 := by
  refine mm_begin (lv := [(0, .ref (cy 124))]) (by decide) (Nat.le_of_ble_eq_true rfl) rfl ?_
  intro p e s m below meth c A ls R args Q H locs hRe hQ hAe hx hb hr hlocks hml hown hnm hts hsz hA hS hP hK hD hZ hl
  have hRf : R.frames = 1 := by rw [hRe]
  have hRl : R.locals = 20 := by rw [hRe]
  have hRc : R.cells = 0 := by rw [hRe]
  have hRs : R.slots = 0 := by rw [hRe]
  refine lv_aload_n hx hb dJ0_length_8abf5_0 rfl (lv_at hl 0 rfl) ?_
  refine vk_getf hx hb ((hZ.1.1 12 (by decide)).2.2.1) hS hown (mm_h hts mm_w263) (fun _ h9 => h9) dJ0_length_8abf5_1 ?_
  refine W.eq (g2 := F0 m 4 ls [.ref (cy 125)]) rfl ?_
  refine va_tlen hx hb ((hZ.1.1 12 (by decide)).2.2.2) hS (v := 4) (by decide) dJ0_length_8abf5_4 ?_
  refine lv_aload_n hx hb dJ0_length_8abf5_5 rfl (lv_at hl 0 rfl) ?_
  refine mm_finir (va_runV (As := []) (rest := [.int 4]) ⟨hx, hb, hml, hown, hts⟩ (K127_J0_coder_7d493 l G cy H.size  ) (cwV 0 hts (mm_gV mm_w264 mm_w265 mm_w266 mm_w261 mm_w267) rfl rfl rfl hd_J0_coder_7d493 ⟨by rw [hRf]; exact Nat.le_of_ble_eq_true rfl, by rw [hRl]; exact Nat.le_of_ble_eq_true rfl⟩) (mm_preVS hK hZ hS hA hP hD [] rfl rfl 12 (by decide)) rfl rfl hl.1 rfl (lv_room (Nat.le_of_ble_eq_true rfl)) dJ0_length_8abf5_6 ⟨by rw [hRc]; exact Nat.le_of_ble_eq_true rfl, by rw [hRs]; exact Nat.le_of_ble_eq_true rfl⟩) hP hD hS hA [] rfl (fun _ => rfl) ?_
  clear hP hD hS
  clear H locs
  intro v1 _u H locs hw hP hD hS
  subst hw
  refine lv_ishr hx hb dJ0_length_8abf5_9 ?_
  refine lv_topi (fun v2 ev2 => ?_)
  obtain rfl : v2 = 4 := ev2.trans (by decide)
  subst hAe
  rw [hQ]
  exact W.iret (v := 4) hx hb hr (fun t ht hW => ⟨⟨4, (), rfl, rfl, by rw [ht]; exact hP, hK.warm hW, hD⟩, hS.F ht⟩) hS.2.2 dJ0_length_8abf5_10

set_option maxHeartbeats 4000000 in
set_option maxRecDepth 100000 in
theorem K129_J0_isLatin1_aae02 (l : Launch) (G : va_G) (cy : Nat → ClassId) (sz : Nat)    : mm_CI l yJ0_isLatin1_aae02 (mm_ws yJ0_isLatin1_aae02 cJ0_isLatin1_aae02 1 (some .boolean)) ({ frames := 0, cells := 0, slots := 0, locals := 0 } : Room) G cy sz [] [.ref (cy 124)] (fun u : Unit => []) (fun (r : Int32) (u : Unit) => 1 = r) 0 0 := by
  refine mm_begin (lv := [(0, .ref (cy 124))]) (by decide) (Nat.le_of_ble_eq_true rfl) rfl ?_
  intro p e s m below meth c A ls R args Q H locs hRe hQ hAe hx hb hr hlocks hml hown hnm hts hsz hA hS hP hK hD hZ hl
  have hRf : R.frames = 0 := by rw [hRe]
  have hRl : R.locals = 0 := by rw [hRe]
  have hRc : R.cells = 0 := by rw [hRe]
  have hRs : R.slots = 0 := by rw [hRe]
  refine va_gets hx hb hZ.2.1 hS hown (mm_h hts mm_w268) (fun _ h9 => h9) dJ0_isLatin1_aae02_0 ?_
  refine lv_if_eq (tgt := 17) hx hb dJ0_isLatin1_aae02_3 (by decide) (fun c1 => ?_) (fun c1 => ?_)
  · exact mm_eqN c1.symm mm_k0 mm_k1 (by decide)
  · refine lv_aload_n hx hb dJ0_isLatin1_aae02_6 rfl (lv_at hl 0 rfl) ?_
    refine vk_getf hx hb ((hZ.1.1 12 (by decide)).2.1) hS hown (mm_h hts mm_w269) (fun _ h9 => h9) dJ0_isLatin1_aae02_7 ?_
    refine W.eq (g2 := F0 m 10 ls [.int 0]) rfl ?_
    refine lv_if_ne (tgt := 17) hx hb dJ0_isLatin1_aae02_10 (by decide) (fun c2 => ?_) (fun c2 => ?_)
    · have q3 := mm_neL (lo := 1) (mm_ne c2) mm_k0 mm_k0 (by decide) (by decide)
      exact mm_no q3 (by decide)
    · refine lv_iconst (v := 1) hx hb dJ0_isLatin1_aae02_13 (by decide) ?_
      refine lv_goto (tgt := 18) hx hb dJ0_isLatin1_aae02_14 (by decide) ?_
      subst hAe
      rw [hQ]
      exact W.zret (v := 1) hx hb hr rfl (fun t ht hW => ⟨⟨1, (), rfl, rfl, by rw [ht]; exact hP, hK.warm hW, hD⟩, hS.F ht⟩) hS.2.2 dJ0_isLatin1_aae02_18

set_option maxHeartbeats 4000000 in
set_option maxRecDepth 100000 in
theorem K138_J1_charAt_3b067 (l : Launch) (G : va_G) (cy : Nat → ClassId) (sz : Nat) (i_0 : Int32) (h0 : mm_rg i_0 0 3)  : mm_CI l yJ1_charAt_3b067 (mm_ws yJ1_charAt_3b067 cJ1_charAt_3b067 2 (some .char)) ({ frames := 2, cells := 0, slots := 0, locals := 43 } : Room) G cy sz [] [.ref (cy 125), .int i_0] (fun u : Unit => []) (fun (r : Int32) (u : Unit) => mm_rg r 0 65535) 0 0 := by
  refine mm_begin (lv := [(0, .ref (cy 125)), (1, .int i_0)]) (by decide) (Nat.le_of_ble_eq_true rfl) rfl ?_
  intro p e s m below meth c A ls R args Q H locs hRe hQ hAe hx hb hr hlocks hml hown hnm hts hsz hA hS hP hK hD hZ hl
  have hRf : R.frames = 2 := by rw [hRe]
  have hRl : R.locals = 43 := by rw [hRe]
  have hRc : R.cells = 0 := by rw [hRe]
  have hRs : R.slots = 0 := by rw [hRe]
  refine lv_iload_n hx hb dJ1_charAt_3b067_0 rfl (lv_at hl 1 rfl) ?_
  refine lv_aload_n hx hb dJ1_charAt_3b067_1 rfl (lv_at hl 0 rfl) ?_
  refine va_tlen hx hb ((hZ.1.1 12 (by decide)).2.2.2) hS (v := 4) (by decide) dJ1_charAt_3b067_2 ?_
  refine mm_finvr (va_runS (As := [.int i_0, .int 4]) (rest := []) ⟨hx, hb, hml, hown, hts⟩ (K69_J0_checkIndex_df160 l G cy H.size i_0 h0) (va_cwS 2 hts (mm_gS mm_w282 mm_w283 mm_w261 mm_w284) rfl rfl rfl hs_J0_checkIndex_df160 ⟨by rw [hRf]; exact Nat.le_of_ble_eq_true rfl, by rw [hRl]; exact Nat.le_of_ble_eq_true rfl⟩) (mm_preS hK hZ hS hA hP hD [] rfl rfl) rfl rfl hl.1 rfl (lv_room (Nat.le_of_ble_eq_true rfl)) dJ1_charAt_3b067_3 ⟨by rw [hRc]; exact Nat.le_of_ble_eq_true rfl, by rw [hRs]; exact Nat.le_of_ble_eq_true rfl⟩) hP hD hS hA [] rfl (fun _ => rfl) ?_
  clear hP hD hS
  clear H locs
  intro _u H locs hw hP hD hS
  refine lv_aload_n hx hb dJ1_charAt_3b067_6 rfl (lv_at hl 0 rfl) ?_
  refine lv_iload_n hx hb dJ1_charAt_3b067_7 rfl (lv_at hl 1 rfl) ?_
  refine va_tb hx hb ((hZ.1.1 12 (by decide)).2.2.2) hS (mm_in h0 (by decide)) rfl dJ1_charAt_3b067_8 ?_
  refine lv_topi (fun v1 ev1 => ?_)
  refine lv_sipush (v := 255) hx hb dJ1_charAt_3b067_9 (by decide) ?_
  refine lv_iand hx hb dJ1_charAt_3b067_12 ?_
  refine lv_topi (fun v2 ev2 => ?_)
  have rv2 : mm_rg v2 0 255 := mm_andR ev2 mm_k255 (by decide)
  obtain ⟨v3, ev3⟩ : ∃ y : Int32, y = (v2.toUInt32 % 65536).toInt32 := ⟨_, rfl⟩
  refine lv_i2c hx hb dJ1_charAt_3b067_13 ev3.symm ?_
  have rv3 : mm_rg v3 0 65535 := mm_i2c ev3
  subst hAe
  rw [hQ]
  exact W.zret (v := v3) hx hb hr (mm_nch rv3) (fun t ht hW => ⟨⟨v3, (), rfl, rv3, by rw [ht]; exact hP, hK.warm hW, hD⟩, hS.F ht⟩) hS.2.2 dJ1_charAt_3b067_14

set_option maxHeartbeats 4000000 in
set_option maxRecDepth 100000 in
theorem K139_J0_charAt_5068e (l : Launch) (G : va_G) (cy : Nat → ClassId) (sz : Nat) (i_0 : Int32) (h0 : mm_rg i_0 0 3)  : mm_CI l yJ0_charAt_5068e (mm_ws yJ0_charAt_5068e cJ0_charAt_5068e 2 (some .char)) ({ frames := 3, cells := 0, slots := 0, locals := 64 } : Room) G cy sz [] [.ref (cy 124), .int i_0] (fun u : Unit => []) (fun (r : Int32) (u : Unit) => mm_rg r 0 65535) 0 0 := by
  refine mm_begin (lv := [(0, .ref (cy 124)), (1, .int i_0)]) (by decide) (Nat.le_of_ble_eq_true rfl) rfl ?_
  intro p e s m below meth c A ls R args Q H locs hRe hQ hAe hx hb hr hlocks hml hown hnm hts hsz hA hS hP hK hD hZ hl
  have hRf : R.frames = 3 := by rw [hRe]
  have hRl : R.locals = 64 := by rw [hRe]
  have hRc : R.cells = 0 := by rw [hRe]
  have hRs : R.slots = 0 := by rw [hRe]
  refine lv_aload_n hx hb dJ0_charAt_5068e_0 rfl (lv_at hl 0 rfl) ?_
  refine mm_finir (va_runV (As := []) (rest := []) ⟨hx, hb, hml, hown, hts⟩ (K129_J0_isLatin1_aae02 l G cy H.size  ) (cwV 0 hts (mm_gV mm_w274 mm_w275 mm_w276 mm_w261 mm_w277) rfl rfl rfl hd_J0_isLatin1_aae02 ⟨by rw [hRf]; exact Nat.le_of_ble_eq_true rfl, by rw [hRl]; exact Nat.le_of_ble_eq_true rfl⟩) (mm_preVS hK hZ hS hA hP hD [] rfl rfl 12 (by decide)) rfl rfl hl.1 rfl (lv_room (Nat.le_of_ble_eq_true rfl)) dJ0_charAt_5068e_1 ⟨by rw [hRc]; exact Nat.le_of_ble_eq_true rfl, by rw [hRs]; exact Nat.le_of_ble_eq_true rfl⟩) hP hD hS hA [] rfl (fun _ => rfl) ?_
  clear hP hD hS
  clear H locs
  intro v1 _u H locs hw hP hD hS
  subst hw
  refine lv_if_eq (tgt := 16) hx hb dJ0_charAt_5068e_4 (by decide) (fun c2 => ?_) (fun c2 => ?_)
  · exact mm_eqN c2.symm mm_k0 mm_k1 (by decide)
  · refine lv_aload_n hx hb dJ0_charAt_5068e_7 rfl (lv_at hl 0 rfl) ?_
    refine vk_getf hx hb ((hZ.1.1 12 (by decide)).2.2.1) hS hown (mm_h hts mm_w263) (fun _ h9 => h9) dJ0_charAt_5068e_8 ?_
    refine W.eq (g2 := F0 m 11 ls [.ref (cy 125)]) rfl ?_
    refine lv_iload_n hx hb dJ0_charAt_5068e_11 rfl (lv_at hl 1 rfl) ?_
    refine mm_finir (va_runS (As := [.ref (cy 125), .int i_0]) (rest := []) ⟨hx, hb, hml, hown, hts⟩ (K138_J1_charAt_3b067 l G cy H.size i_0 h0) (va_cwS 2 hts (mm_gS mm_w278 mm_w279 mm_w280 mm_w281) rfl rfl rfl hs_J1_charAt_3b067 ⟨by rw [hRf]; exact Nat.le_of_ble_eq_true rfl, by rw [hRl]; exact Nat.le_of_ble_eq_true rfl⟩) (mm_preS hK hZ hS hA hP hD [] rfl rfl) rfl rfl hl.1 rfl (lv_room (Nat.le_of_ble_eq_true rfl)) dJ0_charAt_5068e_12 ⟨by rw [hRc]; exact Nat.le_of_ble_eq_true rfl, by rw [hRs]; exact Nat.le_of_ble_eq_true rfl⟩) hP hD hS hA [] rfl (fun _ => rfl) ?_
    clear hP hD hS
    clear H locs
    intro v3 _u H locs hw hP hD hS
    have w4 := hw
    subst hAe
    rw [hQ]
    exact W.zret (v := v3) hx hb hr (mm_nch w4) (fun t ht hW => ⟨⟨v3, (), rfl, w4, by rw [ht]; exact hP, hK.warm hW, hD⟩, hS.F ht⟩) hS.2.2 dJ0_charAt_5068e_15

set_option maxHeartbeats 4000000 in
set_option maxRecDepth 100000 in
theorem K140_X7_isName (l : Launch) (G : va_G) (cy : Nat → ClassId) (sz : Nat) (a_0 : Nat) (a_1 : Nat) (a_2 : Nat) (i_0 : Int32) (f_0 : Nat → Int32) (a_3 : Nat) (i_1 : Int32) (i_2 : Int32) (i_3 : Int32) (i_4 : Int32) (i_5 : Int32) (i_6 : Int32) (h0 : mm_rg i_0 0 600) (h1 : mm_ar f_0 (-128) 127) (h2 : mm_rg i_3 0 5) (h3 : mm_rg i_4 0 600) (h4 : mm_rg i_5 0 600)  : mm_CI l yX7_isName (mm_ws yX7_isName cX7_isName 4 (some .boolean)) ({ frames := 4, cells := 0, slots := 0, locals := 85 } : Room) G cy sz [(a_1, .inr (9, [.ref a_2, .int i_0])), (a_2, .inl (cy 0, 600, .inl f_0)), (a_0, .inr (7, [.ref a_1, .ref a_3, .int i_1, .int i_2, .int i_3, .int i_4, .int i_5, .int i_6]))] [.ref a_0, .ref (cy 124)] (fun u : Unit => [(a_1, .inr (9, [.ref a_2, .int i_0])), (a_2, .inl (cy 0, 600, .inl f_0)), (a_0, .inr (7, [.ref a_1, .ref a_3, .int i_1, .int i_2, .int i_3, .int i_4, .int i_5, .int i_6]))]) (fun (r : Int32) (u : Unit) => ((0 = r) ∨ (1 = r))) 0 0 := by
  refine mm_begin (lv := [(0, .ref a_0), (1, .ref (cy 124))]) (by decide) (Nat.le_of_ble_eq_true rfl) rfl ?_
  intro p e s m below meth c A ls R args Q H locs hRe hQ hAe hx hb hr hlocks hml hown hnm hts hsz hA hS hP hK hD hZ hl
  have hRf : R.frames = 4 := by rw [hRe]
  have hRl : R.locals = 85 := by rw [hRe]
  have hRc : R.cells = 0 := by rw [hRe]
  have hRs : R.slots = 0 := by rw [hRe]
  refine lv_aload_n hx hb dX7_isName_0 rfl (lv_at hl 1 rfl) ?_
  refine mm_finir (va_runV (As := []) (rest := []) ⟨hx, hb, hml, hown, hts⟩ (K128_J0_length_8abf5 l G cy H.size  ) (cwV 0 hts (mm_gV mm_w258 mm_w259 mm_w260 mm_w261 mm_w262) rfl rfl rfl hd_J0_length_8abf5 ⟨by rw [hRf]; exact Nat.le_of_ble_eq_true rfl, by rw [hRl]; exact Nat.le_of_ble_eq_true rfl⟩) (mm_preVS hK hZ hS hA hP hD [] rfl rfl 12 (by decide)) rfl rfl hl.1 rfl (lv_room (Nat.le_of_ble_eq_true rfl)) dX7_isName_1 ⟨by rw [hRc]; exact Nat.le_of_ble_eq_true rfl, by rw [hRs]; exact Nat.le_of_ble_eq_true rfl⟩) hP hD hS hA [] rfl (fun _ => rfl) ?_
  clear hP hD hS
  clear H locs
  intro v1 _u H locs hw hP hD hS
  subst hw
  refine lv_istore_n (lv' := [(2, .int 4), (0, .ref a_0), (1, .ref (cy 124))]) hx hb dX7_isName_4 rfl hl (by decide) rfl ?_
  clear hl
  clear ls
  intro ls hl
  refine lv_aload_n hx hb dX7_isName_5 rfl (lv_at hl 1 rfl) ?_
  refine va_get (D := G) (ci := 7) (v := .int i_3) (C := RX7) (T := TX7) (N := 8) hx hb hts (mm_i inlX7) hown hK.1 hP 2 rfl rfl 4 (by decide) (mm_h hts mm_w207) (fun _ h9 => h9) rfl dX7_isName_6 ?_
  refine lv_iconst (v := 2) hx hb dX7_isName_9 (by decide) ?_
  refine lv_icmp_ne (tgt := 40) hx hb dX7_isName_10 (by decide) (fun c2 => ?_) (fun c2 => ?_)
  · refine lv_iconst (v := 0) hx hb dX7_isName_40 (by decide) ?_
    subst hAe
    rw [hQ]
    exact W.zret (v := 0) hx hb hr rfl (fun t ht hW => ⟨⟨0, (), rfl, (Or.inl rfl), by rw [ht]; exact hP, hK.warm hW, hD⟩, hS.F ht⟩) hS.2.2 dX7_isName_41
  · have q3 := mm_eqI (lo := 2) (hi := 2) c2 h2 mm_k2 (by decide)
    refine lv_aload_n hx hb dX7_isName_13 rfl (lv_at hl 1 rfl) ?_
    refine va_get (D := G) (ci := 7) (v := .int i_5) (C := RX7) (T := TX7) (N := 8) hx hb hts (mm_i inlX7) hown hK.1 hP 2 rfl rfl 6 (by decide) (mm_h hts mm_w206) (fun _ h9 => h9) rfl dX7_isName_14 ?_
    refine lv_aload_n hx hb dX7_isName_17 rfl (lv_at hl 1 rfl) ?_
    refine va_get (D := G) (ci := 7) (v := .int i_4) (C := RX7) (T := TX7) (N := 8) hx hb hts (mm_i inlX7) hown hK.1 hP 2 rfl rfl 5 (by decide) (mm_h hts mm_w232) (fun _ h9 => h9) rfl dX7_isName_18 ?_
    refine lv_isub hx hb dX7_isName_21 ?_
    refine lv_topi (fun v4 ev4 => ?_)
    have rv4 : mm_rg v4 (-600) 600 := mm_sub ev4 h4 h3 (by decide) (by decide)
    have tv4 := mm_subE ev4 h4 h3 (by decide)
    refine lv_iload_n hx hb dX7_isName_22 rfl (lv_at hl 0 rfl) ?_
    refine lv_icmp_ne (tgt := 40) hx hb dX7_isName_23 (by decide) (fun c5 => ?_) (fun c5 => ?_)
    · refine lv_iconst (v := 0) hx hb dX7_isName_40 (by decide) ?_
      subst hAe
      rw [hQ]
      exact W.zret (v := 0) hx hb hr rfl (fun t ht hW => ⟨⟨0, (), rfl, (Or.inl rfl), by rw [ht]; exact hP, hK.warm hW, hD⟩, hS.F ht⟩) hS.2.2 dX7_isName_41
    · have q6 := mm_eqI (lo := 4) (hi := 4) c5 rv4 mm_k4 (by decide)
      have q7 : mm_rg i_4 0 596 := mm_unsubY tv4 q6 h4 h3 (by decide)
      have q8 : mm_rg i_5 4 600 := mm_unsubX tv4 q6 q7 h4 (by decide)
      refine lv_aload_n hx hb dX7_isName_26 rfl (lv_at hl 1 rfl) ?_
      refine va_get (D := G) (ci := 7) (v := .int i_5) (C := RX7) (T := TX7) (N := 8) hx hb hts (mm_i inlX7) hown hK.1 hP 2 rfl rfl 6 (by decide) (mm_h hts mm_w206) (fun _ h9 => h9) rfl dX7_isName_27 ?_
      refine lv_aload_n hx hb dX7_isName_30 rfl (lv_at hl 1 rfl) ?_
      refine va_get (D := G) (ci := 7) (v := .ref a_1) (C := RX7) (T := TX7) (N := 8) hx hb hts (mm_i inlX7) hown hK.1 hP 2 rfl rfl 0 (by decide) (mm_h hts mm_w67) (fun _ h9 => h9) rfl dX7_isName_31 ?_
      refine va_get (D := G) (ci := 9) (v := .int i_0) (C := RX9) (T := TX9) (N := 2) hx hb hts (mm_i inlX9) hown hK.1 hP 0 rfl rfl 1 (by decide) (mm_h hts mm_w231) (fun _ h9 => h9) rfl dX7_isName_34 ?_
      refine lv_icmp_le (tgt := 42) hx hb dX7_isName_37 (by decide) (fun c9 => ?_) (fun c9 => ?_)
      · have q10 := mm_leR (mm_le c9) q8 h0
        refine lv_iconst (v := 0) hx hb dX7_isName_42 (by decide) ?_
        refine lv_istore_n (lv' := [(3, .int 0), (2, .int 4), (0, .ref a_0), (1, .ref (cy 124))]) hx hb dX7_isName_43 rfl hl (by decide) rfl ?_
        clear hl
        clear ls
        intro ls hl
        have L44_71 : ∀ (n : Nat) (x44_3_71 : Int32), mm_rg x44_3_71 0 4 → (4 - x44_3_71.toInt).toNat < n → ∀ (H : Heap) (locs : List Loc), va_P G vwCl [(a_1, .inr (9, [.ref a_2, .int i_0])), (a_2, .inl (cy 0, 600, .inl f_0)), (a_0, .inr (7, [.ref a_1, .ref a_3, .int i_1, .int i_2, .int i_3, .int i_4, .int i_5, .int i_6]))] H → va_D A [(a_1, .inr (9, [.ref a_2, .int i_0])), (a_2, .inl (cy 0, 600, .inl f_0)), (a_0, .inr (7, [.ref a_1, .ref a_3, .int i_1, .int i_2, .int i_3, .int i_4, .int i_5, .int i_6]))] → va_S A s.heap H locs → ∀ (ls : Array Slot), lv_has ls 4 [(3, .int x44_3_71), (2, .int 4), (0, .ref a_0), (1, .ref (cy 124))] → W p l e R s m args below meth c H locs 0 0 Q (F0 m 44 ls []) := by
          intro n
          induction n with
          | zero => intro x44_3_71 rx44_3_71 hm; exact absurd hm (Nat.not_lt_zero _)
          | succ n ih44 =>
            intro x44_3_71 rx44_3_71 hm44 H locs hP hD hS ls hl
            refine lv_iload_n hx hb dX7_isName_44 rfl (lv_at hl 0 rfl) ?_
            refine lv_iload_n hx hb dX7_isName_45 rfl (lv_at hl 1 rfl) ?_
            refine lv_icmp_ge (tgt := 79) hx hb dX7_isName_46 (by decide) (fun c73 => ?_) (fun c73 => ?_)
            · have q74 := mm_leR (mm_le c73) mm_k4 rx44_3_71
              refine lv_iconst (v := 1) hx hb dX7_isName_79 (by decide) ?_
              subst hAe
              rw [hQ]
              exact W.zret (v := 1) hx hb hr rfl (fun t ht hW => ⟨⟨1, (), rfl, (Or.inr rfl), by rw [ht]; exact hP, hK.warm hW, hD⟩, hS.F ht⟩) hS.2.2 dX7_isName_80
            · have q75 := mm_ltL (h := 3) (mm_nle c73) rx44_3_71 mm_k4 (by decide)
              refine lv_aload_n hx hb dX7_isName_49 rfl (lv_at hl 2 rfl) ?_
              refine va_get (D := G) (ci := 7) (v := .ref a_1) (C := RX7) (T := TX7) (N := 8) hx hb hts (mm_i inlX7) hown hK.1 hP 2 rfl rfl 0 (by decide) (mm_h hts mm_w67) (fun _ h9 => h9) rfl dX7_isName_50 ?_
              refine va_get (D := G) (ci := 9) (v := .ref a_2) (C := RX9) (T := TX9) (N := 2) hx hb hts (mm_i inlX9) hown hK.1 hP 0 rfl rfl 0 (by decide) (mm_h hts mm_w238) (fun _ h9 => h9) rfl dX7_isName_53 ?_
              refine lv_aload_n hx hb dX7_isName_56 rfl (lv_at hl 2 rfl) ?_
              refine va_get (D := G) (ci := 7) (v := .int i_4) (C := RX7) (T := TX7) (N := 8) hx hb hts (mm_i inlX7) hown hK.1 hP 2 rfl rfl 5 (by decide) (mm_h hts mm_w232) (fun _ h9 => h9) rfl dX7_isName_57 ?_
              refine lv_iload_n hx hb dX7_isName_60 rfl (lv_at hl 0 rfl) ?_
              refine lv_iadd hx hb dX7_isName_61 ?_
              refine lv_topi (fun v76 ev76 => ?_)
              have rv76 : mm_rg v76 0 599 := mm_add ev76 q7 q75 (by decide) (by decide)
              have tv76 := mm_addE ev76 q7 q75 (by decide)
              refine va_bald hx hb hK.1 hP 1 0 rfl rfl (mm_in rv76 (by decide)) dX7_isName_62 ?_
              refine lv_topi (fun v77 ev77 => ?_)
              have rv77 : mm_rg v77 (-128) 127 := mm_eqv ev77 (h1 _)
              refine lv_aload_n hx hb dX7_isName_63 rfl (lv_at hl 3 rfl) ?_
              refine lv_iload_n hx hb dX7_isName_64 rfl (lv_at hl 0 rfl) ?_
              refine mm_finir (va_runV (As := [.int x44_3_71]) (rest := [.int v77]) ⟨hx, hb, hml, hown, hts⟩ (K139_J0_charAt_5068e l G cy H.size x44_3_71 q75) (cwV 1 hts (mm_gV mm_w270 mm_w271 mm_w272 mm_w261 mm_w273) rfl rfl rfl hd_J0_charAt_5068e ⟨by rw [hRf]; exact Nat.le_of_ble_eq_true rfl, by rw [hRl]; exact Nat.le_of_ble_eq_true rfl⟩) (mm_preVS hK hZ hS hA hP hD [] rfl rfl 12 (by decide)) rfl rfl hl.1 rfl (lv_room (Nat.le_of_ble_eq_true rfl)) dX7_isName_65 ⟨by rw [hRc]; exact Nat.le_of_ble_eq_true rfl, by rw [hRs]; exact Nat.le_of_ble_eq_true rfl⟩) hP hD hS hA [] rfl (fun _ => rfl) ?_
              clear hP hD hS
              clear H locs
              intro v78 _u H locs hw hP hD hS
              have w79 := hw
              refine lv_icmp_eq (tgt := 73) hx hb dX7_isName_68 (by decide) (fun c80 => ?_) (fun c80 => ?_)
              · have q81 := mm_eqI (lo := 0) (hi := 127) c80 rv77 w79 (by decide)
                have q82 := mm_eqI (lo := 0) (hi := 127) c80.symm w79 rv77 (by decide)
                obtain ⟨v83, ev83⟩ : ∃ y : Int32, y = x44_3_71 + 1 := ⟨_, rfl⟩
                refine lv_iinc (v := v83) (lv' := [(3, .int v83), (2, .int 4), (0, .ref a_0), (1, .ref (cy 124))]) hx hb dX7_isName_73 hl (k := 0) rfl (by rw [ev83]; rfl) (by decide) rfl ?_
                clear hl
                clear ls
                intro ls hl
                have rv83 : mm_rg v83 1 4 := mm_add ev83 q75 mm_k1 (by decide) (by decide)
                have tv83 := mm_addEc ev83 q75 mm_k1 (by decide) (k := 1) (by decide)
                refine lv_goto (tgt := 44) hx hb dX7_isName_76 (by decide) ?_
                exact ih44 v83 (mm_wk rv83 (by decide)) (mm_mu hm44 tv83 (by decide) (rv83).2 (by decide)) H locs hP hD hS ls (lv_sub hl [0, 1, 2, 3] rfl)
              · refine lv_iconst (v := 0) hx hb dX7_isName_71 (by decide) ?_
                subst hAe
                rw [hQ]
                exact W.zret (v := 0) hx hb hr rfl (fun t ht hW => ⟨⟨0, (), rfl, (Or.inl rfl), by rw [ht]; exact hP, hK.warm hW, hD⟩, hS.F ht⟩) hS.2.2 dX7_isName_72
        exact L44_71 _ 0 (mm_wk mm_k0 (by decide)) (Nat.lt_succ_self _) H locs hP hD hS ls (lv_sub hl [0, 1, 2, 3] rfl)
      · have q84 := mm_ltL (h := 599) (mm_nle c9) h0 q8 (by decide)
        refine lv_iconst (v := 0) hx hb dX7_isName_40 (by decide) ?_
        subst hAe
        rw [hQ]
        exact W.zret (v := 0) hx hb hr rfl (fun t ht hW => ⟨⟨0, (), rfl, (Or.inl rfl), by rw [ht]; exact hP, hK.warm hW, hD⟩, hS.F ht⟩) hS.2.2 dX7_isName_41

set_option maxHeartbeats 4000000 in
set_option maxRecDepth 100000 in
theorem K141_J0_coder_7d493 (l : Launch) (G : va_G) (cy : Nat → ClassId) (sz : Nat)    : mm_CI l yJ0_coder_7d493 (mm_ws yJ0_coder_7d493 cJ0_coder_7d493 1 (some .byte)) ({ frames := 0, cells := 0, slots := 0, locals := 0 } : Room) G cy sz [] [.ref (cy 126)] (fun u : Unit => []) (fun (r : Int32) (u : Unit) => 0 = r) 0 0 := by
  refine mm_begin (lv := [(0, .ref (cy 126))]) (by decide) (Nat.le_of_ble_eq_true rfl) rfl ?_
  intro p e s m below meth c A ls R args Q H locs hRe hQ hAe hx hb hr hlocks hml hown hnm hts hsz hA hS hP hK hD hZ hl
  have hRf : R.frames = 0 := by rw [hRe]
  have hRl : R.locals = 0 := by rw [hRe]
  have hRc : R.cells = 0 := by rw [hRe]
  have hRs : R.slots = 0 := by rw [hRe]
  refine va_gets hx hb hZ.2.1 hS hown (mm_h hts mm_w268) (fun _ h9 => h9) dJ0_coder_7d493_0 ?_
  refine lv_if_eq (tgt := 13) hx hb dJ0_coder_7d493_3 (by decide) (fun c1 => ?_) (fun c1 => ?_)
  · exact mm_eqN c1.symm mm_k0 mm_k1 (by decide)
  · refine lv_aload_n hx hb dJ0_coder_7d493_6 rfl (lv_at hl 0 rfl) ?_
    refine vk_getf hx hb ((hZ.1.1 13 (by decide)).2.1) hS hown (mm_h hts mm_w269) (fun _ h9 => h9) dJ0_coder_7d493_7 ?_
    refine W.eq (g2 := F0 m 10 ls [.int 0]) rfl ?_
    refine lv_goto (tgt := 14) hx hb dJ0_coder_7d493_10 (by decide) ?_
    subst hAe
    rw [hQ]
    exact W.zret (v := 0) hx hb hr rfl (fun t ht hW => ⟨⟨0, (), rfl, rfl, by rw [ht]; exact hP, hK.warm hW, hD⟩, hS.F ht⟩) hS.2.2 dJ0_coder_7d493_14

set_option maxHeartbeats 4000000 in
set_option maxRecDepth 100000 in
theorem K142_J0_length_8abf5 (l : Launch) (G : va_G) (cy : Nat → ClassId) (sz : Nat)    : mm_CI l yJ0_length_8abf5 (mm_ws yJ0_length_8abf5 cJ0_length_8abf5 1 (some .int)) ({ frames := 1, cells := 0, slots := 0, locals := 20 } : Room) G cy sz [] [.ref (cy 126)] (fun u : Unit => []) (fun (r : Int32) (u : Unit) => 4 = r) 0 0 := by
  refine mm_begin (lv := [(0, .ref (cy 126))]) (by decide) (Nat.le_of_ble_eq_true rfl) rfl ?_
  intro p e s m below meth c A ls R args Q H locs hRe hQ hAe hx hb hr hlocks hml hown hnm hts hsz hA hS hP hK hD hZ hl
  have hRf : R.frames = 1 := by rw [hRe]
  have hRl : R.locals = 20 := by rw [hRe]
  have hRc : R.cells = 0 := by rw [hRe]
  have hRs : R.slots = 0 := by rw [hRe]
  refine lv_aload_n hx hb dJ0_length_8abf5_0 rfl (lv_at hl 0 rfl) ?_
  refine vk_getf hx hb ((hZ.1.1 13 (by decide)).2.2.1) hS hown (mm_h hts mm_w263) (fun _ h9 => h9) dJ0_length_8abf5_1 ?_
  refine W.eq (g2 := F0 m 4 ls [.ref (cy 127)]) rfl ?_
  refine va_tlen hx hb ((hZ.1.1 13 (by decide)).2.2.2) hS (v := 4) (by decide) dJ0_length_8abf5_4 ?_
  refine lv_aload_n hx hb dJ0_length_8abf5_5 rfl (lv_at hl 0 rfl) ?_
  refine mm_finir (va_runV (As := []) (rest := [.int 4]) ⟨hx, hb, hml, hown, hts⟩ (K141_J0_coder_7d493 l G cy H.size  ) (cwV 0 hts (mm_gV mm_w264 mm_w265 mm_w266 mm_w261 mm_w267) rfl rfl rfl hd_J0_coder_7d493 ⟨by rw [hRf]; exact Nat.le_of_ble_eq_true rfl, by rw [hRl]; exact Nat.le_of_ble_eq_true rfl⟩) (mm_preVS hK hZ hS hA hP hD [] rfl rfl 13 (by decide)) rfl rfl hl.1 rfl (lv_room (Nat.le_of_ble_eq_true rfl)) dJ0_length_8abf5_6 ⟨by rw [hRc]; exact Nat.le_of_ble_eq_true rfl, by rw [hRs]; exact Nat.le_of_ble_eq_true rfl⟩) hP hD hS hA [] rfl (fun _ => rfl) ?_
  clear hP hD hS
  clear H locs
  intro v1 _u H locs hw hP hD hS
  subst hw
  refine lv_ishr hx hb dJ0_length_8abf5_9 ?_
  refine lv_topi (fun v2 ev2 => ?_)
  obtain rfl : v2 = 4 := ev2.trans (by decide)
  subst hAe
  rw [hQ]
  exact W.iret (v := 4) hx hb hr (fun t ht hW => ⟨⟨4, (), rfl, rfl, by rw [ht]; exact hP, hK.warm hW, hD⟩, hS.F ht⟩) hS.2.2 dJ0_length_8abf5_10

set_option maxHeartbeats 4000000 in
set_option maxRecDepth 100000 in
theorem K143_J0_isLatin1_aae02 (l : Launch) (G : va_G) (cy : Nat → ClassId) (sz : Nat)    : mm_CI l yJ0_isLatin1_aae02 (mm_ws yJ0_isLatin1_aae02 cJ0_isLatin1_aae02 1 (some .boolean)) ({ frames := 0, cells := 0, slots := 0, locals := 0 } : Room) G cy sz [] [.ref (cy 126)] (fun u : Unit => []) (fun (r : Int32) (u : Unit) => 1 = r) 0 0 := by
  refine mm_begin (lv := [(0, .ref (cy 126))]) (by decide) (Nat.le_of_ble_eq_true rfl) rfl ?_
  intro p e s m below meth c A ls R args Q H locs hRe hQ hAe hx hb hr hlocks hml hown hnm hts hsz hA hS hP hK hD hZ hl
  have hRf : R.frames = 0 := by rw [hRe]
  have hRl : R.locals = 0 := by rw [hRe]
  have hRc : R.cells = 0 := by rw [hRe]
  have hRs : R.slots = 0 := by rw [hRe]
  refine va_gets hx hb hZ.2.1 hS hown (mm_h hts mm_w268) (fun _ h9 => h9) dJ0_isLatin1_aae02_0 ?_
  refine lv_if_eq (tgt := 17) hx hb dJ0_isLatin1_aae02_3 (by decide) (fun c1 => ?_) (fun c1 => ?_)
  · exact mm_eqN c1.symm mm_k0 mm_k1 (by decide)
  · refine lv_aload_n hx hb dJ0_isLatin1_aae02_6 rfl (lv_at hl 0 rfl) ?_
    refine vk_getf hx hb ((hZ.1.1 13 (by decide)).2.1) hS hown (mm_h hts mm_w269) (fun _ h9 => h9) dJ0_isLatin1_aae02_7 ?_
    refine W.eq (g2 := F0 m 10 ls [.int 0]) rfl ?_
    refine lv_if_ne (tgt := 17) hx hb dJ0_isLatin1_aae02_10 (by decide) (fun c2 => ?_) (fun c2 => ?_)
    · have q3 := mm_neL (lo := 1) (mm_ne c2) mm_k0 mm_k0 (by decide) (by decide)
      exact mm_no q3 (by decide)
    · refine lv_iconst (v := 1) hx hb dJ0_isLatin1_aae02_13 (by decide) ?_
      refine lv_goto (tgt := 18) hx hb dJ0_isLatin1_aae02_14 (by decide) ?_
      subst hAe
      rw [hQ]
      exact W.zret (v := 1) hx hb hr rfl (fun t ht hW => ⟨⟨1, (), rfl, rfl, by rw [ht]; exact hP, hK.warm hW, hD⟩, hS.F ht⟩) hS.2.2 dJ0_isLatin1_aae02_18

set_option maxHeartbeats 4000000 in
set_option maxRecDepth 100000 in
theorem K152_J1_charAt_3b067 (l : Launch) (G : va_G) (cy : Nat → ClassId) (sz : Nat) (i_0 : Int32) (h0 : mm_rg i_0 0 3)  : mm_CI l yJ1_charAt_3b067 (mm_ws yJ1_charAt_3b067 cJ1_charAt_3b067 2 (some .char)) ({ frames := 2, cells := 0, slots := 0, locals := 43 } : Room) G cy sz [] [.ref (cy 127), .int i_0] (fun u : Unit => []) (fun (r : Int32) (u : Unit) => mm_rg r 0 65535) 0 0 := by
  refine mm_begin (lv := [(0, .ref (cy 127)), (1, .int i_0)]) (by decide) (Nat.le_of_ble_eq_true rfl) rfl ?_
  intro p e s m below meth c A ls R args Q H locs hRe hQ hAe hx hb hr hlocks hml hown hnm hts hsz hA hS hP hK hD hZ hl
  have hRf : R.frames = 2 := by rw [hRe]
  have hRl : R.locals = 43 := by rw [hRe]
  have hRc : R.cells = 0 := by rw [hRe]
  have hRs : R.slots = 0 := by rw [hRe]
  refine lv_iload_n hx hb dJ1_charAt_3b067_0 rfl (lv_at hl 1 rfl) ?_
  refine lv_aload_n hx hb dJ1_charAt_3b067_1 rfl (lv_at hl 0 rfl) ?_
  refine va_tlen hx hb ((hZ.1.1 13 (by decide)).2.2.2) hS (v := 4) (by decide) dJ1_charAt_3b067_2 ?_
  refine mm_finvr (va_runS (As := [.int i_0, .int 4]) (rest := []) ⟨hx, hb, hml, hown, hts⟩ (K69_J0_checkIndex_df160 l G cy H.size i_0 h0) (va_cwS 2 hts (mm_gS mm_w282 mm_w283 mm_w261 mm_w284) rfl rfl rfl hs_J0_checkIndex_df160 ⟨by rw [hRf]; exact Nat.le_of_ble_eq_true rfl, by rw [hRl]; exact Nat.le_of_ble_eq_true rfl⟩) (mm_preS hK hZ hS hA hP hD [] rfl rfl) rfl rfl hl.1 rfl (lv_room (Nat.le_of_ble_eq_true rfl)) dJ1_charAt_3b067_3 ⟨by rw [hRc]; exact Nat.le_of_ble_eq_true rfl, by rw [hRs]; exact Nat.le_of_ble_eq_true rfl⟩) hP hD hS hA [] rfl (fun _ => rfl) ?_
  clear hP hD hS
  clear H locs
  intro _u H locs hw hP hD hS
  refine lv_aload_n hx hb dJ1_charAt_3b067_6 rfl (lv_at hl 0 rfl) ?_
  refine lv_iload_n hx hb dJ1_charAt_3b067_7 rfl (lv_at hl 1 rfl) ?_
  refine va_tb hx hb ((hZ.1.1 13 (by decide)).2.2.2) hS (mm_in h0 (by decide)) rfl dJ1_charAt_3b067_8 ?_
  refine lv_topi (fun v1 ev1 => ?_)
  refine lv_sipush (v := 255) hx hb dJ1_charAt_3b067_9 (by decide) ?_
  refine lv_iand hx hb dJ1_charAt_3b067_12 ?_
  refine lv_topi (fun v2 ev2 => ?_)
  have rv2 : mm_rg v2 0 255 := mm_andR ev2 mm_k255 (by decide)
  obtain ⟨v3, ev3⟩ : ∃ y : Int32, y = (v2.toUInt32 % 65536).toInt32 := ⟨_, rfl⟩
  refine lv_i2c hx hb dJ1_charAt_3b067_13 ev3.symm ?_
  have rv3 : mm_rg v3 0 65535 := mm_i2c ev3
  subst hAe
  rw [hQ]
  exact W.zret (v := v3) hx hb hr (mm_nch rv3) (fun t ht hW => ⟨⟨v3, (), rfl, rv3, by rw [ht]; exact hP, hK.warm hW, hD⟩, hS.F ht⟩) hS.2.2 dJ1_charAt_3b067_14

set_option maxHeartbeats 4000000 in
set_option maxRecDepth 100000 in
theorem K153_J0_charAt_5068e (l : Launch) (G : va_G) (cy : Nat → ClassId) (sz : Nat) (i_0 : Int32) (h0 : mm_rg i_0 0 3)  : mm_CI l yJ0_charAt_5068e (mm_ws yJ0_charAt_5068e cJ0_charAt_5068e 2 (some .char)) ({ frames := 3, cells := 0, slots := 0, locals := 64 } : Room) G cy sz [] [.ref (cy 126), .int i_0] (fun u : Unit => []) (fun (r : Int32) (u : Unit) => mm_rg r 0 65535) 0 0 := by
  refine mm_begin (lv := [(0, .ref (cy 126)), (1, .int i_0)]) (by decide) (Nat.le_of_ble_eq_true rfl) rfl ?_
  intro p e s m below meth c A ls R args Q H locs hRe hQ hAe hx hb hr hlocks hml hown hnm hts hsz hA hS hP hK hD hZ hl
  have hRf : R.frames = 3 := by rw [hRe]
  have hRl : R.locals = 64 := by rw [hRe]
  have hRc : R.cells = 0 := by rw [hRe]
  have hRs : R.slots = 0 := by rw [hRe]
  refine lv_aload_n hx hb dJ0_charAt_5068e_0 rfl (lv_at hl 0 rfl) ?_
  refine mm_finir (va_runV (As := []) (rest := []) ⟨hx, hb, hml, hown, hts⟩ (K143_J0_isLatin1_aae02 l G cy H.size  ) (cwV 0 hts (mm_gV mm_w274 mm_w275 mm_w276 mm_w261 mm_w277) rfl rfl rfl hd_J0_isLatin1_aae02 ⟨by rw [hRf]; exact Nat.le_of_ble_eq_true rfl, by rw [hRl]; exact Nat.le_of_ble_eq_true rfl⟩) (mm_preVS hK hZ hS hA hP hD [] rfl rfl 13 (by decide)) rfl rfl hl.1 rfl (lv_room (Nat.le_of_ble_eq_true rfl)) dJ0_charAt_5068e_1 ⟨by rw [hRc]; exact Nat.le_of_ble_eq_true rfl, by rw [hRs]; exact Nat.le_of_ble_eq_true rfl⟩) hP hD hS hA [] rfl (fun _ => rfl) ?_
  clear hP hD hS
  clear H locs
  intro v1 _u H locs hw hP hD hS
  subst hw
  refine lv_if_eq (tgt := 16) hx hb dJ0_charAt_5068e_4 (by decide) (fun c2 => ?_) (fun c2 => ?_)
  · exact mm_eqN c2.symm mm_k0 mm_k1 (by decide)
  · refine lv_aload_n hx hb dJ0_charAt_5068e_7 rfl (lv_at hl 0 rfl) ?_
    refine vk_getf hx hb ((hZ.1.1 13 (by decide)).2.2.1) hS hown (mm_h hts mm_w263) (fun _ h9 => h9) dJ0_charAt_5068e_8 ?_
    refine W.eq (g2 := F0 m 11 ls [.ref (cy 127)]) rfl ?_
    refine lv_iload_n hx hb dJ0_charAt_5068e_11 rfl (lv_at hl 1 rfl) ?_
    refine mm_finir (va_runS (As := [.ref (cy 127), .int i_0]) (rest := []) ⟨hx, hb, hml, hown, hts⟩ (K152_J1_charAt_3b067 l G cy H.size i_0 h0) (va_cwS 2 hts (mm_gS mm_w278 mm_w279 mm_w280 mm_w281) rfl rfl rfl hs_J1_charAt_3b067 ⟨by rw [hRf]; exact Nat.le_of_ble_eq_true rfl, by rw [hRl]; exact Nat.le_of_ble_eq_true rfl⟩) (mm_preS hK hZ hS hA hP hD [] rfl rfl) rfl rfl hl.1 rfl (lv_room (Nat.le_of_ble_eq_true rfl)) dJ0_charAt_5068e_12 ⟨by rw [hRc]; exact Nat.le_of_ble_eq_true rfl, by rw [hRs]; exact Nat.le_of_ble_eq_true rfl⟩) hP hD hS hA [] rfl (fun _ => rfl) ?_
    clear hP hD hS
    clear H locs
    intro v3 _u H locs hw hP hD hS
    have w4 := hw
    subst hAe
    rw [hQ]
    exact W.zret (v := v3) hx hb hr (mm_nch w4) (fun t ht hW => ⟨⟨v3, (), rfl, w4, by rw [ht]; exact hP, hK.warm hW, hD⟩, hS.F ht⟩) hS.2.2 dJ0_charAt_5068e_15

set_option maxHeartbeats 4000000 in
set_option maxRecDepth 100000 in
theorem K154_X7_isName (l : Launch) (G : va_G) (cy : Nat → ClassId) (sz : Nat) (a_0 : Nat) (a_1 : Nat) (a_2 : Nat) (i_0 : Int32) (f_0 : Nat → Int32) (a_3 : Nat) (i_1 : Int32) (i_2 : Int32) (i_3 : Int32) (i_4 : Int32) (i_5 : Int32) (i_6 : Int32) (h0 : mm_rg i_0 0 600) (h1 : mm_ar f_0 (-128) 127) (h2 : mm_rg i_3 0 5) (h3 : mm_rg i_4 0 600) (h4 : mm_rg i_5 0 600)  : mm_CI l yX7_isName (mm_ws yX7_isName cX7_isName 4 (some .boolean)) ({ frames := 4, cells := 0, slots := 0, locals := 85 } : Room) G cy sz [(a_1, .inr (9, [.ref a_2, .int i_0])), (a_2, .inl (cy 0, 600, .inl f_0)), (a_0, .inr (7, [.ref a_1, .ref a_3, .int i_1, .int i_2, .int i_3, .int i_4, .int i_5, .int i_6]))] [.ref a_0, .ref (cy 126)] (fun u : Unit => [(a_1, .inr (9, [.ref a_2, .int i_0])), (a_2, .inl (cy 0, 600, .inl f_0)), (a_0, .inr (7, [.ref a_1, .ref a_3, .int i_1, .int i_2, .int i_3, .int i_4, .int i_5, .int i_6]))]) (fun (r : Int32) (u : Unit) => ((0 = r) ∨ (1 = r))) 0 0 := by
  refine mm_begin (lv := [(0, .ref a_0), (1, .ref (cy 126))]) (by decide) (Nat.le_of_ble_eq_true rfl) rfl ?_
  intro p e s m below meth c A ls R args Q H locs hRe hQ hAe hx hb hr hlocks hml hown hnm hts hsz hA hS hP hK hD hZ hl
  have hRf : R.frames = 4 := by rw [hRe]
  have hRl : R.locals = 85 := by rw [hRe]
  have hRc : R.cells = 0 := by rw [hRe]
  have hRs : R.slots = 0 := by rw [hRe]
  refine lv_aload_n hx hb dX7_isName_0 rfl (lv_at hl 1 rfl) ?_
  refine mm_finir (va_runV (As := []) (rest := []) ⟨hx, hb, hml, hown, hts⟩ (K142_J0_length_8abf5 l G cy H.size  ) (cwV 0 hts (mm_gV mm_w258 mm_w259 mm_w260 mm_w261 mm_w262) rfl rfl rfl hd_J0_length_8abf5 ⟨by rw [hRf]; exact Nat.le_of_ble_eq_true rfl, by rw [hRl]; exact Nat.le_of_ble_eq_true rfl⟩) (mm_preVS hK hZ hS hA hP hD [] rfl rfl 13 (by decide)) rfl rfl hl.1 rfl (lv_room (Nat.le_of_ble_eq_true rfl)) dX7_isName_1 ⟨by rw [hRc]; exact Nat.le_of_ble_eq_true rfl, by rw [hRs]; exact Nat.le_of_ble_eq_true rfl⟩) hP hD hS hA [] rfl (fun _ => rfl) ?_
  clear hP hD hS
  clear H locs
  intro v1 _u H locs hw hP hD hS
  subst hw
  refine lv_istore_n (lv' := [(2, .int 4), (0, .ref a_0), (1, .ref (cy 126))]) hx hb dX7_isName_4 rfl hl (by decide) rfl ?_
  clear hl
  clear ls
  intro ls hl
  refine lv_aload_n hx hb dX7_isName_5 rfl (lv_at hl 1 rfl) ?_
  refine va_get (D := G) (ci := 7) (v := .int i_3) (C := RX7) (T := TX7) (N := 8) hx hb hts (mm_i inlX7) hown hK.1 hP 2 rfl rfl 4 (by decide) (mm_h hts mm_w207) (fun _ h9 => h9) rfl dX7_isName_6 ?_
  refine lv_iconst (v := 2) hx hb dX7_isName_9 (by decide) ?_
  refine lv_icmp_ne (tgt := 40) hx hb dX7_isName_10 (by decide) (fun c2 => ?_) (fun c2 => ?_)
  · refine lv_iconst (v := 0) hx hb dX7_isName_40 (by decide) ?_
    subst hAe
    rw [hQ]
    exact W.zret (v := 0) hx hb hr rfl (fun t ht hW => ⟨⟨0, (), rfl, (Or.inl rfl), by rw [ht]; exact hP, hK.warm hW, hD⟩, hS.F ht⟩) hS.2.2 dX7_isName_41
  · have q3 := mm_eqI (lo := 2) (hi := 2) c2 h2 mm_k2 (by decide)
    refine lv_aload_n hx hb dX7_isName_13 rfl (lv_at hl 1 rfl) ?_
    refine va_get (D := G) (ci := 7) (v := .int i_5) (C := RX7) (T := TX7) (N := 8) hx hb hts (mm_i inlX7) hown hK.1 hP 2 rfl rfl 6 (by decide) (mm_h hts mm_w206) (fun _ h9 => h9) rfl dX7_isName_14 ?_
    refine lv_aload_n hx hb dX7_isName_17 rfl (lv_at hl 1 rfl) ?_
    refine va_get (D := G) (ci := 7) (v := .int i_4) (C := RX7) (T := TX7) (N := 8) hx hb hts (mm_i inlX7) hown hK.1 hP 2 rfl rfl 5 (by decide) (mm_h hts mm_w232) (fun _ h9 => h9) rfl dX7_isName_18 ?_
    refine lv_isub hx hb dX7_isName_21 ?_
    refine lv_topi (fun v4 ev4 => ?_)
    have rv4 : mm_rg v4 (-600) 600 := mm_sub ev4 h4 h3 (by decide) (by decide)
    have tv4 := mm_subE ev4 h4 h3 (by decide)
    refine lv_iload_n hx hb dX7_isName_22 rfl (lv_at hl 0 rfl) ?_
    refine lv_icmp_ne (tgt := 40) hx hb dX7_isName_23 (by decide) (fun c5 => ?_) (fun c5 => ?_)
    · refine lv_iconst (v := 0) hx hb dX7_isName_40 (by decide) ?_
      subst hAe
      rw [hQ]
      exact W.zret (v := 0) hx hb hr rfl (fun t ht hW => ⟨⟨0, (), rfl, (Or.inl rfl), by rw [ht]; exact hP, hK.warm hW, hD⟩, hS.F ht⟩) hS.2.2 dX7_isName_41
    · have q6 := mm_eqI (lo := 4) (hi := 4) c5 rv4 mm_k4 (by decide)
      have q7 : mm_rg i_4 0 596 := mm_unsubY tv4 q6 h4 h3 (by decide)
      have q8 : mm_rg i_5 4 600 := mm_unsubX tv4 q6 q7 h4 (by decide)
      refine lv_aload_n hx hb dX7_isName_26 rfl (lv_at hl 1 rfl) ?_
      refine va_get (D := G) (ci := 7) (v := .int i_5) (C := RX7) (T := TX7) (N := 8) hx hb hts (mm_i inlX7) hown hK.1 hP 2 rfl rfl 6 (by decide) (mm_h hts mm_w206) (fun _ h9 => h9) rfl dX7_isName_27 ?_
      refine lv_aload_n hx hb dX7_isName_30 rfl (lv_at hl 1 rfl) ?_
      refine va_get (D := G) (ci := 7) (v := .ref a_1) (C := RX7) (T := TX7) (N := 8) hx hb hts (mm_i inlX7) hown hK.1 hP 2 rfl rfl 0 (by decide) (mm_h hts mm_w67) (fun _ h9 => h9) rfl dX7_isName_31 ?_
      refine va_get (D := G) (ci := 9) (v := .int i_0) (C := RX9) (T := TX9) (N := 2) hx hb hts (mm_i inlX9) hown hK.1 hP 0 rfl rfl 1 (by decide) (mm_h hts mm_w231) (fun _ h9 => h9) rfl dX7_isName_34 ?_
      refine lv_icmp_le (tgt := 42) hx hb dX7_isName_37 (by decide) (fun c9 => ?_) (fun c9 => ?_)
      · have q10 := mm_leR (mm_le c9) q8 h0
        refine lv_iconst (v := 0) hx hb dX7_isName_42 (by decide) ?_
        refine lv_istore_n (lv' := [(3, .int 0), (2, .int 4), (0, .ref a_0), (1, .ref (cy 126))]) hx hb dX7_isName_43 rfl hl (by decide) rfl ?_
        clear hl
        clear ls
        intro ls hl
        have L44_71 : ∀ (n : Nat) (x44_3_71 : Int32), mm_rg x44_3_71 0 4 → (4 - x44_3_71.toInt).toNat < n → ∀ (H : Heap) (locs : List Loc), va_P G vwCl [(a_1, .inr (9, [.ref a_2, .int i_0])), (a_2, .inl (cy 0, 600, .inl f_0)), (a_0, .inr (7, [.ref a_1, .ref a_3, .int i_1, .int i_2, .int i_3, .int i_4, .int i_5, .int i_6]))] H → va_D A [(a_1, .inr (9, [.ref a_2, .int i_0])), (a_2, .inl (cy 0, 600, .inl f_0)), (a_0, .inr (7, [.ref a_1, .ref a_3, .int i_1, .int i_2, .int i_3, .int i_4, .int i_5, .int i_6]))] → va_S A s.heap H locs → ∀ (ls : Array Slot), lv_has ls 4 [(3, .int x44_3_71), (2, .int 4), (0, .ref a_0), (1, .ref (cy 126))] → W p l e R s m args below meth c H locs 0 0 Q (F0 m 44 ls []) := by
          intro n
          induction n with
          | zero => intro x44_3_71 rx44_3_71 hm; exact absurd hm (Nat.not_lt_zero _)
          | succ n ih44 =>
            intro x44_3_71 rx44_3_71 hm44 H locs hP hD hS ls hl
            refine lv_iload_n hx hb dX7_isName_44 rfl (lv_at hl 0 rfl) ?_
            refine lv_iload_n hx hb dX7_isName_45 rfl (lv_at hl 1 rfl) ?_
            refine lv_icmp_ge (tgt := 79) hx hb dX7_isName_46 (by decide) (fun c73 => ?_) (fun c73 => ?_)
            · have q74 := mm_leR (mm_le c73) mm_k4 rx44_3_71
              refine lv_iconst (v := 1) hx hb dX7_isName_79 (by decide) ?_
              subst hAe
              rw [hQ]
              exact W.zret (v := 1) hx hb hr rfl (fun t ht hW => ⟨⟨1, (), rfl, (Or.inr rfl), by rw [ht]; exact hP, hK.warm hW, hD⟩, hS.F ht⟩) hS.2.2 dX7_isName_80
            · have q75 := mm_ltL (h := 3) (mm_nle c73) rx44_3_71 mm_k4 (by decide)
              refine lv_aload_n hx hb dX7_isName_49 rfl (lv_at hl 2 rfl) ?_
              refine va_get (D := G) (ci := 7) (v := .ref a_1) (C := RX7) (T := TX7) (N := 8) hx hb hts (mm_i inlX7) hown hK.1 hP 2 rfl rfl 0 (by decide) (mm_h hts mm_w67) (fun _ h9 => h9) rfl dX7_isName_50 ?_
              refine va_get (D := G) (ci := 9) (v := .ref a_2) (C := RX9) (T := TX9) (N := 2) hx hb hts (mm_i inlX9) hown hK.1 hP 0 rfl rfl 0 (by decide) (mm_h hts mm_w238) (fun _ h9 => h9) rfl dX7_isName_53 ?_
              refine lv_aload_n hx hb dX7_isName_56 rfl (lv_at hl 2 rfl) ?_
              refine va_get (D := G) (ci := 7) (v := .int i_4) (C := RX7) (T := TX7) (N := 8) hx hb hts (mm_i inlX7) hown hK.1 hP 2 rfl rfl 5 (by decide) (mm_h hts mm_w232) (fun _ h9 => h9) rfl dX7_isName_57 ?_
              refine lv_iload_n hx hb dX7_isName_60 rfl (lv_at hl 0 rfl) ?_
              refine lv_iadd hx hb dX7_isName_61 ?_
              refine lv_topi (fun v76 ev76 => ?_)
              have rv76 : mm_rg v76 0 599 := mm_add ev76 q7 q75 (by decide) (by decide)
              have tv76 := mm_addE ev76 q7 q75 (by decide)
              refine va_bald hx hb hK.1 hP 1 0 rfl rfl (mm_in rv76 (by decide)) dX7_isName_62 ?_
              refine lv_topi (fun v77 ev77 => ?_)
              have rv77 : mm_rg v77 (-128) 127 := mm_eqv ev77 (h1 _)
              refine lv_aload_n hx hb dX7_isName_63 rfl (lv_at hl 3 rfl) ?_
              refine lv_iload_n hx hb dX7_isName_64 rfl (lv_at hl 0 rfl) ?_
              refine mm_finir (va_runV (As := [.int x44_3_71]) (rest := [.int v77]) ⟨hx, hb, hml, hown, hts⟩ (K153_J0_charAt_5068e l G cy H.size x44_3_71 q75) (cwV 1 hts (mm_gV mm_w270 mm_w271 mm_w272 mm_w261 mm_w273) rfl rfl rfl hd_J0_charAt_5068e ⟨by rw [hRf]; exact Nat.le_of_ble_eq_true rfl, by rw [hRl]; exact Nat.le_of_ble_eq_true rfl⟩) (mm_preVS hK hZ hS hA hP hD [] rfl rfl 13 (by decide)) rfl rfl hl.1 rfl (lv_room (Nat.le_of_ble_eq_true rfl)) dX7_isName_65 ⟨by rw [hRc]; exact Nat.le_of_ble_eq_true rfl, by rw [hRs]; exact Nat.le_of_ble_eq_true rfl⟩) hP hD hS hA [] rfl (fun _ => rfl) ?_
              clear hP hD hS
              clear H locs
              intro v78 _u H locs hw hP hD hS
              have w79 := hw
              refine lv_icmp_eq (tgt := 73) hx hb dX7_isName_68 (by decide) (fun c80 => ?_) (fun c80 => ?_)
              · have q81 := mm_eqI (lo := 0) (hi := 127) c80 rv77 w79 (by decide)
                have q82 := mm_eqI (lo := 0) (hi := 127) c80.symm w79 rv77 (by decide)
                obtain ⟨v83, ev83⟩ : ∃ y : Int32, y = x44_3_71 + 1 := ⟨_, rfl⟩
                refine lv_iinc (v := v83) (lv' := [(3, .int v83), (2, .int 4), (0, .ref a_0), (1, .ref (cy 126))]) hx hb dX7_isName_73 hl (k := 0) rfl (by rw [ev83]; rfl) (by decide) rfl ?_
                clear hl
                clear ls
                intro ls hl
                have rv83 : mm_rg v83 1 4 := mm_add ev83 q75 mm_k1 (by decide) (by decide)
                have tv83 := mm_addEc ev83 q75 mm_k1 (by decide) (k := 1) (by decide)
                refine lv_goto (tgt := 44) hx hb dX7_isName_76 (by decide) ?_
                exact ih44 v83 (mm_wk rv83 (by decide)) (mm_mu hm44 tv83 (by decide) (rv83).2 (by decide)) H locs hP hD hS ls (lv_sub hl [0, 1, 2, 3] rfl)
              · refine lv_iconst (v := 0) hx hb dX7_isName_71 (by decide) ?_
                subst hAe
                rw [hQ]
                exact W.zret (v := 0) hx hb hr rfl (fun t ht hW => ⟨⟨0, (), rfl, (Or.inl rfl), by rw [ht]; exact hP, hK.warm hW, hD⟩, hS.F ht⟩) hS.2.2 dX7_isName_72
        exact L44_71 _ 0 (mm_wk mm_k0 (by decide)) (Nat.lt_succ_self _) H locs hP hD hS ls (lv_sub hl [0, 1, 2, 3] rfl)
      · have q84 := mm_ltL (h := 599) (mm_nle c9) h0 q8 (by decide)
        refine lv_iconst (v := 0) hx hb dX7_isName_40 (by decide) ?_
        subst hAe
        rw [hQ]
        exact W.zret (v := 0) hx hb hr rfl (fun t ht hW => ⟨⟨0, (), rfl, (Or.inl rfl), by rw [ht]; exact hP, hK.warm hW, hD⟩, hS.F ht⟩) hS.2.2 dX7_isName_41

set_option maxHeartbeats 4000000 in
set_option maxRecDepth 100000 in
theorem K155_J0_coder_7d493 (l : Launch) (G : va_G) (cy : Nat → ClassId) (sz : Nat)    : mm_CI l yJ0_coder_7d493 (mm_ws yJ0_coder_7d493 cJ0_coder_7d493 1 (some .byte)) ({ frames := 0, cells := 0, slots := 0, locals := 0 } : Room) G cy sz [] [.ref (cy 128)] (fun u : Unit => []) (fun (r : Int32) (u : Unit) => 0 = r) 0 0 := by
  refine mm_begin (lv := [(0, .ref (cy 128))]) (by decide) (Nat.le_of_ble_eq_true rfl) rfl ?_
  intro p e s m below meth c A ls R args Q H locs hRe hQ hAe hx hb hr hlocks hml hown hnm hts hsz hA hS hP hK hD hZ hl
  have hRf : R.frames = 0 := by rw [hRe]
  have hRl : R.locals = 0 := by rw [hRe]
  have hRc : R.cells = 0 := by rw [hRe]
  have hRs : R.slots = 0 := by rw [hRe]
  refine va_gets hx hb hZ.2.1 hS hown (mm_h hts mm_w268) (fun _ h9 => h9) dJ0_coder_7d493_0 ?_
  refine lv_if_eq (tgt := 13) hx hb dJ0_coder_7d493_3 (by decide) (fun c1 => ?_) (fun c1 => ?_)
  · exact mm_eqN c1.symm mm_k0 mm_k1 (by decide)
  · refine lv_aload_n hx hb dJ0_coder_7d493_6 rfl (lv_at hl 0 rfl) ?_
    refine vk_getf hx hb ((hZ.1.1 14 (by decide)).2.1) hS hown (mm_h hts mm_w269) (fun _ h9 => h9) dJ0_coder_7d493_7 ?_
    refine W.eq (g2 := F0 m 10 ls [.int 0]) rfl ?_
    refine lv_goto (tgt := 14) hx hb dJ0_coder_7d493_10 (by decide) ?_
    subst hAe
    rw [hQ]
    exact W.zret (v := 0) hx hb hr rfl (fun t ht hW => ⟨⟨0, (), rfl, rfl, by rw [ht]; exact hP, hK.warm hW, hD⟩, hS.F ht⟩) hS.2.2 dJ0_coder_7d493_14

set_option maxHeartbeats 4000000 in
set_option maxRecDepth 100000 in
theorem K156_J0_length_8abf5 (l : Launch) (G : va_G) (cy : Nat → ClassId) (sz : Nat)    : mm_CI l yJ0_length_8abf5 (mm_ws yJ0_length_8abf5 cJ0_length_8abf5 1 (some .int)) ({ frames := 1, cells := 0, slots := 0, locals := 20 } : Room) G cy sz [] [.ref (cy 128)] (fun u : Unit => []) (fun (r : Int32) (u : Unit) => 4 = r) 0 0 := by
  refine mm_begin (lv := [(0, .ref (cy 128))]) (by decide) (Nat.le_of_ble_eq_true rfl) rfl ?_
  intro p e s m below meth c A ls R args Q H locs hRe hQ hAe hx hb hr hlocks hml hown hnm hts hsz hA hS hP hK hD hZ hl
  have hRf : R.frames = 1 := by rw [hRe]
  have hRl : R.locals = 20 := by rw [hRe]
  have hRc : R.cells = 0 := by rw [hRe]
  have hRs : R.slots = 0 := by rw [hRe]
  refine lv_aload_n hx hb dJ0_length_8abf5_0 rfl (lv_at hl 0 rfl) ?_
  refine vk_getf hx hb ((hZ.1.1 14 (by decide)).2.2.1) hS hown (mm_h hts mm_w263) (fun _ h9 => h9) dJ0_length_8abf5_1 ?_
  refine W.eq (g2 := F0 m 4 ls [.ref (cy 129)]) rfl ?_
  refine va_tlen hx hb ((hZ.1.1 14 (by decide)).2.2.2) hS (v := 4) (by decide) dJ0_length_8abf5_4 ?_
  refine lv_aload_n hx hb dJ0_length_8abf5_5 rfl (lv_at hl 0 rfl) ?_
  refine mm_finir (va_runV (As := []) (rest := [.int 4]) ⟨hx, hb, hml, hown, hts⟩ (K155_J0_coder_7d493 l G cy H.size  ) (cwV 0 hts (mm_gV mm_w264 mm_w265 mm_w266 mm_w261 mm_w267) rfl rfl rfl hd_J0_coder_7d493 ⟨by rw [hRf]; exact Nat.le_of_ble_eq_true rfl, by rw [hRl]; exact Nat.le_of_ble_eq_true rfl⟩) (mm_preVS hK hZ hS hA hP hD [] rfl rfl 14 (by decide)) rfl rfl hl.1 rfl (lv_room (Nat.le_of_ble_eq_true rfl)) dJ0_length_8abf5_6 ⟨by rw [hRc]; exact Nat.le_of_ble_eq_true rfl, by rw [hRs]; exact Nat.le_of_ble_eq_true rfl⟩) hP hD hS hA [] rfl (fun _ => rfl) ?_
  clear hP hD hS
  clear H locs
  intro v1 _u H locs hw hP hD hS
  subst hw
  refine lv_ishr hx hb dJ0_length_8abf5_9 ?_
  refine lv_topi (fun v2 ev2 => ?_)
  obtain rfl : v2 = 4 := ev2.trans (by decide)
  subst hAe
  rw [hQ]
  exact W.iret (v := 4) hx hb hr (fun t ht hW => ⟨⟨4, (), rfl, rfl, by rw [ht]; exact hP, hK.warm hW, hD⟩, hS.F ht⟩) hS.2.2 dJ0_length_8abf5_10

set_option maxHeartbeats 4000000 in
set_option maxRecDepth 100000 in
theorem K157_J0_isLatin1_aae02 (l : Launch) (G : va_G) (cy : Nat → ClassId) (sz : Nat)    : mm_CI l yJ0_isLatin1_aae02 (mm_ws yJ0_isLatin1_aae02 cJ0_isLatin1_aae02 1 (some .boolean)) ({ frames := 0, cells := 0, slots := 0, locals := 0 } : Room) G cy sz [] [.ref (cy 128)] (fun u : Unit => []) (fun (r : Int32) (u : Unit) => 1 = r) 0 0 := by
  refine mm_begin (lv := [(0, .ref (cy 128))]) (by decide) (Nat.le_of_ble_eq_true rfl) rfl ?_
  intro p e s m below meth c A ls R args Q H locs hRe hQ hAe hx hb hr hlocks hml hown hnm hts hsz hA hS hP hK hD hZ hl
  have hRf : R.frames = 0 := by rw [hRe]
  have hRl : R.locals = 0 := by rw [hRe]
  have hRc : R.cells = 0 := by rw [hRe]
  have hRs : R.slots = 0 := by rw [hRe]
  refine va_gets hx hb hZ.2.1 hS hown (mm_h hts mm_w268) (fun _ h9 => h9) dJ0_isLatin1_aae02_0 ?_
  refine lv_if_eq (tgt := 17) hx hb dJ0_isLatin1_aae02_3 (by decide) (fun c1 => ?_) (fun c1 => ?_)
  · exact mm_eqN c1.symm mm_k0 mm_k1 (by decide)
  · refine lv_aload_n hx hb dJ0_isLatin1_aae02_6 rfl (lv_at hl 0 rfl) ?_
    refine vk_getf hx hb ((hZ.1.1 14 (by decide)).2.1) hS hown (mm_h hts mm_w269) (fun _ h9 => h9) dJ0_isLatin1_aae02_7 ?_
    refine W.eq (g2 := F0 m 10 ls [.int 0]) rfl ?_
    refine lv_if_ne (tgt := 17) hx hb dJ0_isLatin1_aae02_10 (by decide) (fun c2 => ?_) (fun c2 => ?_)
    · have q3 := mm_neL (lo := 1) (mm_ne c2) mm_k0 mm_k0 (by decide) (by decide)
      exact mm_no q3 (by decide)
    · refine lv_iconst (v := 1) hx hb dJ0_isLatin1_aae02_13 (by decide) ?_
      refine lv_goto (tgt := 18) hx hb dJ0_isLatin1_aae02_14 (by decide) ?_
      subst hAe
      rw [hQ]
      exact W.zret (v := 1) hx hb hr rfl (fun t ht hW => ⟨⟨1, (), rfl, rfl, by rw [ht]; exact hP, hK.warm hW, hD⟩, hS.F ht⟩) hS.2.2 dJ0_isLatin1_aae02_18

set_option maxHeartbeats 4000000 in
set_option maxRecDepth 100000 in
theorem K166_J1_charAt_3b067 (l : Launch) (G : va_G) (cy : Nat → ClassId) (sz : Nat) (i_0 : Int32) (h0 : mm_rg i_0 0 3)  : mm_CI l yJ1_charAt_3b067 (mm_ws yJ1_charAt_3b067 cJ1_charAt_3b067 2 (some .char)) ({ frames := 2, cells := 0, slots := 0, locals := 43 } : Room) G cy sz [] [.ref (cy 129), .int i_0] (fun u : Unit => []) (fun (r : Int32) (u : Unit) => mm_rg r 0 65535) 0 0 := by
  refine mm_begin (lv := [(0, .ref (cy 129)), (1, .int i_0)]) (by decide) (Nat.le_of_ble_eq_true rfl) rfl ?_
  intro p e s m below meth c A ls R args Q H locs hRe hQ hAe hx hb hr hlocks hml hown hnm hts hsz hA hS hP hK hD hZ hl
  have hRf : R.frames = 2 := by rw [hRe]
  have hRl : R.locals = 43 := by rw [hRe]
  have hRc : R.cells = 0 := by rw [hRe]
  have hRs : R.slots = 0 := by rw [hRe]
  refine lv_iload_n hx hb dJ1_charAt_3b067_0 rfl (lv_at hl 1 rfl) ?_
  refine lv_aload_n hx hb dJ1_charAt_3b067_1 rfl (lv_at hl 0 rfl) ?_
  refine va_tlen hx hb ((hZ.1.1 14 (by decide)).2.2.2) hS (v := 4) (by decide) dJ1_charAt_3b067_2 ?_
  refine mm_finvr (va_runS (As := [.int i_0, .int 4]) (rest := []) ⟨hx, hb, hml, hown, hts⟩ (K69_J0_checkIndex_df160 l G cy H.size i_0 h0) (va_cwS 2 hts (mm_gS mm_w282 mm_w283 mm_w261 mm_w284) rfl rfl rfl hs_J0_checkIndex_df160 ⟨by rw [hRf]; exact Nat.le_of_ble_eq_true rfl, by rw [hRl]; exact Nat.le_of_ble_eq_true rfl⟩) (mm_preS hK hZ hS hA hP hD [] rfl rfl) rfl rfl hl.1 rfl (lv_room (Nat.le_of_ble_eq_true rfl)) dJ1_charAt_3b067_3 ⟨by rw [hRc]; exact Nat.le_of_ble_eq_true rfl, by rw [hRs]; exact Nat.le_of_ble_eq_true rfl⟩) hP hD hS hA [] rfl (fun _ => rfl) ?_
  clear hP hD hS
  clear H locs
  intro _u H locs hw hP hD hS
  refine lv_aload_n hx hb dJ1_charAt_3b067_6 rfl (lv_at hl 0 rfl) ?_
  refine lv_iload_n hx hb dJ1_charAt_3b067_7 rfl (lv_at hl 1 rfl) ?_
  refine va_tb hx hb ((hZ.1.1 14 (by decide)).2.2.2) hS (mm_in h0 (by decide)) rfl dJ1_charAt_3b067_8 ?_
  refine lv_topi (fun v1 ev1 => ?_)
  refine lv_sipush (v := 255) hx hb dJ1_charAt_3b067_9 (by decide) ?_
  refine lv_iand hx hb dJ1_charAt_3b067_12 ?_
  refine lv_topi (fun v2 ev2 => ?_)
  have rv2 : mm_rg v2 0 255 := mm_andR ev2 mm_k255 (by decide)
  obtain ⟨v3, ev3⟩ : ∃ y : Int32, y = (v2.toUInt32 % 65536).toInt32 := ⟨_, rfl⟩
  refine lv_i2c hx hb dJ1_charAt_3b067_13 ev3.symm ?_
  have rv3 : mm_rg v3 0 65535 := mm_i2c ev3
  subst hAe
  rw [hQ]
  exact W.zret (v := v3) hx hb hr (mm_nch rv3) (fun t ht hW => ⟨⟨v3, (), rfl, rv3, by rw [ht]; exact hP, hK.warm hW, hD⟩, hS.F ht⟩) hS.2.2 dJ1_charAt_3b067_14

set_option maxHeartbeats 4000000 in
set_option maxRecDepth 100000 in
theorem K167_J0_charAt_5068e (l : Launch) (G : va_G) (cy : Nat → ClassId) (sz : Nat) (i_0 : Int32) (h0 : mm_rg i_0 0 3)  : mm_CI l yJ0_charAt_5068e (mm_ws yJ0_charAt_5068e cJ0_charAt_5068e 2 (some .char)) ({ frames := 3, cells := 0, slots := 0, locals := 64 } : Room) G cy sz [] [.ref (cy 128), .int i_0] (fun u : Unit => []) (fun (r : Int32) (u : Unit) => mm_rg r 0 65535) 0 0 := by
  refine mm_begin (lv := [(0, .ref (cy 128)), (1, .int i_0)]) (by decide) (Nat.le_of_ble_eq_true rfl) rfl ?_
  intro p e s m below meth c A ls R args Q H locs hRe hQ hAe hx hb hr hlocks hml hown hnm hts hsz hA hS hP hK hD hZ hl
  have hRf : R.frames = 3 := by rw [hRe]
  have hRl : R.locals = 64 := by rw [hRe]
  have hRc : R.cells = 0 := by rw [hRe]
  have hRs : R.slots = 0 := by rw [hRe]
  refine lv_aload_n hx hb dJ0_charAt_5068e_0 rfl (lv_at hl 0 rfl) ?_
  refine mm_finir (va_runV (As := []) (rest := []) ⟨hx, hb, hml, hown, hts⟩ (K157_J0_isLatin1_aae02 l G cy H.size  ) (cwV 0 hts (mm_gV mm_w274 mm_w275 mm_w276 mm_w261 mm_w277) rfl rfl rfl hd_J0_isLatin1_aae02 ⟨by rw [hRf]; exact Nat.le_of_ble_eq_true rfl, by rw [hRl]; exact Nat.le_of_ble_eq_true rfl⟩) (mm_preVS hK hZ hS hA hP hD [] rfl rfl 14 (by decide)) rfl rfl hl.1 rfl (lv_room (Nat.le_of_ble_eq_true rfl)) dJ0_charAt_5068e_1 ⟨by rw [hRc]; exact Nat.le_of_ble_eq_true rfl, by rw [hRs]; exact Nat.le_of_ble_eq_true rfl⟩) hP hD hS hA [] rfl (fun _ => rfl) ?_
  clear hP hD hS
  clear H locs
  intro v1 _u H locs hw hP hD hS
  subst hw
  refine lv_if_eq (tgt := 16) hx hb dJ0_charAt_5068e_4 (by decide) (fun c2 => ?_) (fun c2 => ?_)
  · exact mm_eqN c2.symm mm_k0 mm_k1 (by decide)
  · refine lv_aload_n hx hb dJ0_charAt_5068e_7 rfl (lv_at hl 0 rfl) ?_
    refine vk_getf hx hb ((hZ.1.1 14 (by decide)).2.2.1) hS hown (mm_h hts mm_w263) (fun _ h9 => h9) dJ0_charAt_5068e_8 ?_
    refine W.eq (g2 := F0 m 11 ls [.ref (cy 129)]) rfl ?_
    refine lv_iload_n hx hb dJ0_charAt_5068e_11 rfl (lv_at hl 1 rfl) ?_
    refine mm_finir (va_runS (As := [.ref (cy 129), .int i_0]) (rest := []) ⟨hx, hb, hml, hown, hts⟩ (K166_J1_charAt_3b067 l G cy H.size i_0 h0) (va_cwS 2 hts (mm_gS mm_w278 mm_w279 mm_w280 mm_w281) rfl rfl rfl hs_J1_charAt_3b067 ⟨by rw [hRf]; exact Nat.le_of_ble_eq_true rfl, by rw [hRl]; exact Nat.le_of_ble_eq_true rfl⟩) (mm_preS hK hZ hS hA hP hD [] rfl rfl) rfl rfl hl.1 rfl (lv_room (Nat.le_of_ble_eq_true rfl)) dJ0_charAt_5068e_12 ⟨by rw [hRc]; exact Nat.le_of_ble_eq_true rfl, by rw [hRs]; exact Nat.le_of_ble_eq_true rfl⟩) hP hD hS hA [] rfl (fun _ => rfl) ?_
    clear hP hD hS
    clear H locs
    intro v3 _u H locs hw hP hD hS
    have w4 := hw
    subst hAe
    rw [hQ]
    exact W.zret (v := v3) hx hb hr (mm_nch w4) (fun t ht hW => ⟨⟨v3, (), rfl, w4, by rw [ht]; exact hP, hK.warm hW, hD⟩, hS.F ht⟩) hS.2.2 dJ0_charAt_5068e_15

set_option maxHeartbeats 4000000 in
set_option maxRecDepth 100000 in
theorem K168_X7_isName (l : Launch) (G : va_G) (cy : Nat → ClassId) (sz : Nat) (a_0 : Nat) (a_1 : Nat) (a_2 : Nat) (i_0 : Int32) (f_0 : Nat → Int32) (a_3 : Nat) (i_1 : Int32) (i_2 : Int32) (i_3 : Int32) (i_4 : Int32) (i_5 : Int32) (i_6 : Int32) (h0 : mm_rg i_0 0 600) (h1 : mm_ar f_0 (-128) 127) (h2 : mm_rg i_3 0 5) (h3 : mm_rg i_4 0 600) (h4 : mm_rg i_5 0 600)  : mm_CI l yX7_isName (mm_ws yX7_isName cX7_isName 4 (some .boolean)) ({ frames := 4, cells := 0, slots := 0, locals := 85 } : Room) G cy sz [(a_1, .inr (9, [.ref a_2, .int i_0])), (a_2, .inl (cy 0, 600, .inl f_0)), (a_0, .inr (7, [.ref a_1, .ref a_3, .int i_1, .int i_2, .int i_3, .int i_4, .int i_5, .int i_6]))] [.ref a_0, .ref (cy 128)] (fun u : Unit => [(a_1, .inr (9, [.ref a_2, .int i_0])), (a_2, .inl (cy 0, 600, .inl f_0)), (a_0, .inr (7, [.ref a_1, .ref a_3, .int i_1, .int i_2, .int i_3, .int i_4, .int i_5, .int i_6]))]) (fun (r : Int32) (u : Unit) => ((0 = r) ∨ (1 = r))) 0 0 := by
  refine mm_begin (lv := [(0, .ref a_0), (1, .ref (cy 128))]) (by decide) (Nat.le_of_ble_eq_true rfl) rfl ?_
  intro p e s m below meth c A ls R args Q H locs hRe hQ hAe hx hb hr hlocks hml hown hnm hts hsz hA hS hP hK hD hZ hl
  have hRf : R.frames = 4 := by rw [hRe]
  have hRl : R.locals = 85 := by rw [hRe]
  have hRc : R.cells = 0 := by rw [hRe]
  have hRs : R.slots = 0 := by rw [hRe]
  refine lv_aload_n hx hb dX7_isName_0 rfl (lv_at hl 1 rfl) ?_
  refine mm_finir (va_runV (As := []) (rest := []) ⟨hx, hb, hml, hown, hts⟩ (K156_J0_length_8abf5 l G cy H.size  ) (cwV 0 hts (mm_gV mm_w258 mm_w259 mm_w260 mm_w261 mm_w262) rfl rfl rfl hd_J0_length_8abf5 ⟨by rw [hRf]; exact Nat.le_of_ble_eq_true rfl, by rw [hRl]; exact Nat.le_of_ble_eq_true rfl⟩) (mm_preVS hK hZ hS hA hP hD [] rfl rfl 14 (by decide)) rfl rfl hl.1 rfl (lv_room (Nat.le_of_ble_eq_true rfl)) dX7_isName_1 ⟨by rw [hRc]; exact Nat.le_of_ble_eq_true rfl, by rw [hRs]; exact Nat.le_of_ble_eq_true rfl⟩) hP hD hS hA [] rfl (fun _ => rfl) ?_
  clear hP hD hS
  clear H locs
  intro v1 _u H locs hw hP hD hS
  subst hw
  refine lv_istore_n (lv' := [(2, .int 4), (0, .ref a_0), (1, .ref (cy 128))]) hx hb dX7_isName_4 rfl hl (by decide) rfl ?_
  clear hl
  clear ls
  intro ls hl
  refine lv_aload_n hx hb dX7_isName_5 rfl (lv_at hl 1 rfl) ?_
  refine va_get (D := G) (ci := 7) (v := .int i_3) (C := RX7) (T := TX7) (N := 8) hx hb hts (mm_i inlX7) hown hK.1 hP 2 rfl rfl 4 (by decide) (mm_h hts mm_w207) (fun _ h9 => h9) rfl dX7_isName_6 ?_
  refine lv_iconst (v := 2) hx hb dX7_isName_9 (by decide) ?_
  refine lv_icmp_ne (tgt := 40) hx hb dX7_isName_10 (by decide) (fun c2 => ?_) (fun c2 => ?_)
  · refine lv_iconst (v := 0) hx hb dX7_isName_40 (by decide) ?_
    subst hAe
    rw [hQ]
    exact W.zret (v := 0) hx hb hr rfl (fun t ht hW => ⟨⟨0, (), rfl, (Or.inl rfl), by rw [ht]; exact hP, hK.warm hW, hD⟩, hS.F ht⟩) hS.2.2 dX7_isName_41
  · have q3 := mm_eqI (lo := 2) (hi := 2) c2 h2 mm_k2 (by decide)
    refine lv_aload_n hx hb dX7_isName_13 rfl (lv_at hl 1 rfl) ?_
    refine va_get (D := G) (ci := 7) (v := .int i_5) (C := RX7) (T := TX7) (N := 8) hx hb hts (mm_i inlX7) hown hK.1 hP 2 rfl rfl 6 (by decide) (mm_h hts mm_w206) (fun _ h9 => h9) rfl dX7_isName_14 ?_
    refine lv_aload_n hx hb dX7_isName_17 rfl (lv_at hl 1 rfl) ?_
    refine va_get (D := G) (ci := 7) (v := .int i_4) (C := RX7) (T := TX7) (N := 8) hx hb hts (mm_i inlX7) hown hK.1 hP 2 rfl rfl 5 (by decide) (mm_h hts mm_w232) (fun _ h9 => h9) rfl dX7_isName_18 ?_
    refine lv_isub hx hb dX7_isName_21 ?_
    refine lv_topi (fun v4 ev4 => ?_)
    have rv4 : mm_rg v4 (-600) 600 := mm_sub ev4 h4 h3 (by decide) (by decide)
    have tv4 := mm_subE ev4 h4 h3 (by decide)
    refine lv_iload_n hx hb dX7_isName_22 rfl (lv_at hl 0 rfl) ?_
    refine lv_icmp_ne (tgt := 40) hx hb dX7_isName_23 (by decide) (fun c5 => ?_) (fun c5 => ?_)
    · refine lv_iconst (v := 0) hx hb dX7_isName_40 (by decide) ?_
      subst hAe
      rw [hQ]
      exact W.zret (v := 0) hx hb hr rfl (fun t ht hW => ⟨⟨0, (), rfl, (Or.inl rfl), by rw [ht]; exact hP, hK.warm hW, hD⟩, hS.F ht⟩) hS.2.2 dX7_isName_41
    · have q6 := mm_eqI (lo := 4) (hi := 4) c5 rv4 mm_k4 (by decide)
      have q7 : mm_rg i_4 0 596 := mm_unsubY tv4 q6 h4 h3 (by decide)
      have q8 : mm_rg i_5 4 600 := mm_unsubX tv4 q6 q7 h4 (by decide)
      refine lv_aload_n hx hb dX7_isName_26 rfl (lv_at hl 1 rfl) ?_
      refine va_get (D := G) (ci := 7) (v := .int i_5) (C := RX7) (T := TX7) (N := 8) hx hb hts (mm_i inlX7) hown hK.1 hP 2 rfl rfl 6 (by decide) (mm_h hts mm_w206) (fun _ h9 => h9) rfl dX7_isName_27 ?_
      refine lv_aload_n hx hb dX7_isName_30 rfl (lv_at hl 1 rfl) ?_
      refine va_get (D := G) (ci := 7) (v := .ref a_1) (C := RX7) (T := TX7) (N := 8) hx hb hts (mm_i inlX7) hown hK.1 hP 2 rfl rfl 0 (by decide) (mm_h hts mm_w67) (fun _ h9 => h9) rfl dX7_isName_31 ?_
      refine va_get (D := G) (ci := 9) (v := .int i_0) (C := RX9) (T := TX9) (N := 2) hx hb hts (mm_i inlX9) hown hK.1 hP 0 rfl rfl 1 (by decide) (mm_h hts mm_w231) (fun _ h9 => h9) rfl dX7_isName_34 ?_
      refine lv_icmp_le (tgt := 42) hx hb dX7_isName_37 (by decide) (fun c9 => ?_) (fun c9 => ?_)
      · have q10 := mm_leR (mm_le c9) q8 h0
        refine lv_iconst (v := 0) hx hb dX7_isName_42 (by decide) ?_
        refine lv_istore_n (lv' := [(3, .int 0), (2, .int 4), (0, .ref a_0), (1, .ref (cy 128))]) hx hb dX7_isName_43 rfl hl (by decide) rfl ?_
        clear hl
        clear ls
        intro ls hl
        have L44_71 : ∀ (n : Nat) (x44_3_71 : Int32), mm_rg x44_3_71 0 4 → (4 - x44_3_71.toInt).toNat < n → ∀ (H : Heap) (locs : List Loc), va_P G vwCl [(a_1, .inr (9, [.ref a_2, .int i_0])), (a_2, .inl (cy 0, 600, .inl f_0)), (a_0, .inr (7, [.ref a_1, .ref a_3, .int i_1, .int i_2, .int i_3, .int i_4, .int i_5, .int i_6]))] H → va_D A [(a_1, .inr (9, [.ref a_2, .int i_0])), (a_2, .inl (cy 0, 600, .inl f_0)), (a_0, .inr (7, [.ref a_1, .ref a_3, .int i_1, .int i_2, .int i_3, .int i_4, .int i_5, .int i_6]))] → va_S A s.heap H locs → ∀ (ls : Array Slot), lv_has ls 4 [(3, .int x44_3_71), (2, .int 4), (0, .ref a_0), (1, .ref (cy 128))] → W p l e R s m args below meth c H locs 0 0 Q (F0 m 44 ls []) := by
          intro n
          induction n with
          | zero => intro x44_3_71 rx44_3_71 hm; exact absurd hm (Nat.not_lt_zero _)
          | succ n ih44 =>
            intro x44_3_71 rx44_3_71 hm44 H locs hP hD hS ls hl
            refine lv_iload_n hx hb dX7_isName_44 rfl (lv_at hl 0 rfl) ?_
            refine lv_iload_n hx hb dX7_isName_45 rfl (lv_at hl 1 rfl) ?_
            refine lv_icmp_ge (tgt := 79) hx hb dX7_isName_46 (by decide) (fun c73 => ?_) (fun c73 => ?_)
            · have q74 := mm_leR (mm_le c73) mm_k4 rx44_3_71
              refine lv_iconst (v := 1) hx hb dX7_isName_79 (by decide) ?_
              subst hAe
              rw [hQ]
              exact W.zret (v := 1) hx hb hr rfl (fun t ht hW => ⟨⟨1, (), rfl, (Or.inr rfl), by rw [ht]; exact hP, hK.warm hW, hD⟩, hS.F ht⟩) hS.2.2 dX7_isName_80
            · have q75 := mm_ltL (h := 3) (mm_nle c73) rx44_3_71 mm_k4 (by decide)
              refine lv_aload_n hx hb dX7_isName_49 rfl (lv_at hl 2 rfl) ?_
              refine va_get (D := G) (ci := 7) (v := .ref a_1) (C := RX7) (T := TX7) (N := 8) hx hb hts (mm_i inlX7) hown hK.1 hP 2 rfl rfl 0 (by decide) (mm_h hts mm_w67) (fun _ h9 => h9) rfl dX7_isName_50 ?_
              refine va_get (D := G) (ci := 9) (v := .ref a_2) (C := RX9) (T := TX9) (N := 2) hx hb hts (mm_i inlX9) hown hK.1 hP 0 rfl rfl 0 (by decide) (mm_h hts mm_w238) (fun _ h9 => h9) rfl dX7_isName_53 ?_
              refine lv_aload_n hx hb dX7_isName_56 rfl (lv_at hl 2 rfl) ?_
              refine va_get (D := G) (ci := 7) (v := .int i_4) (C := RX7) (T := TX7) (N := 8) hx hb hts (mm_i inlX7) hown hK.1 hP 2 rfl rfl 5 (by decide) (mm_h hts mm_w232) (fun _ h9 => h9) rfl dX7_isName_57 ?_
              refine lv_iload_n hx hb dX7_isName_60 rfl (lv_at hl 0 rfl) ?_
              refine lv_iadd hx hb dX7_isName_61 ?_
              refine lv_topi (fun v76 ev76 => ?_)
              have rv76 : mm_rg v76 0 599 := mm_add ev76 q7 q75 (by decide) (by decide)
              have tv76 := mm_addE ev76 q7 q75 (by decide)
              refine va_bald hx hb hK.1 hP 1 0 rfl rfl (mm_in rv76 (by decide)) dX7_isName_62 ?_
              refine lv_topi (fun v77 ev77 => ?_)
              have rv77 : mm_rg v77 (-128) 127 := mm_eqv ev77 (h1 _)
              refine lv_aload_n hx hb dX7_isName_63 rfl (lv_at hl 3 rfl) ?_
              refine lv_iload_n hx hb dX7_isName_64 rfl (lv_at hl 0 rfl) ?_
              refine mm_finir (va_runV (As := [.int x44_3_71]) (rest := [.int v77]) ⟨hx, hb, hml, hown, hts⟩ (K167_J0_charAt_5068e l G cy H.size x44_3_71 q75) (cwV 1 hts (mm_gV mm_w270 mm_w271 mm_w272 mm_w261 mm_w273) rfl rfl rfl hd_J0_charAt_5068e ⟨by rw [hRf]; exact Nat.le_of_ble_eq_true rfl, by rw [hRl]; exact Nat.le_of_ble_eq_true rfl⟩) (mm_preVS hK hZ hS hA hP hD [] rfl rfl 14 (by decide)) rfl rfl hl.1 rfl (lv_room (Nat.le_of_ble_eq_true rfl)) dX7_isName_65 ⟨by rw [hRc]; exact Nat.le_of_ble_eq_true rfl, by rw [hRs]; exact Nat.le_of_ble_eq_true rfl⟩) hP hD hS hA [] rfl (fun _ => rfl) ?_
              clear hP hD hS
              clear H locs
              intro v78 _u H locs hw hP hD hS
              have w79 := hw
              refine lv_icmp_eq (tgt := 73) hx hb dX7_isName_68 (by decide) (fun c80 => ?_) (fun c80 => ?_)
              · have q81 := mm_eqI (lo := 0) (hi := 127) c80 rv77 w79 (by decide)
                have q82 := mm_eqI (lo := 0) (hi := 127) c80.symm w79 rv77 (by decide)
                obtain ⟨v83, ev83⟩ : ∃ y : Int32, y = x44_3_71 + 1 := ⟨_, rfl⟩
                refine lv_iinc (v := v83) (lv' := [(3, .int v83), (2, .int 4), (0, .ref a_0), (1, .ref (cy 128))]) hx hb dX7_isName_73 hl (k := 0) rfl (by rw [ev83]; rfl) (by decide) rfl ?_
                clear hl
                clear ls
                intro ls hl
                have rv83 : mm_rg v83 1 4 := mm_add ev83 q75 mm_k1 (by decide) (by decide)
                have tv83 := mm_addEc ev83 q75 mm_k1 (by decide) (k := 1) (by decide)
                refine lv_goto (tgt := 44) hx hb dX7_isName_76 (by decide) ?_
                exact ih44 v83 (mm_wk rv83 (by decide)) (mm_mu hm44 tv83 (by decide) (rv83).2 (by decide)) H locs hP hD hS ls (lv_sub hl [0, 1, 2, 3] rfl)
              · refine lv_iconst (v := 0) hx hb dX7_isName_71 (by decide) ?_
                subst hAe
                rw [hQ]
                exact W.zret (v := 0) hx hb hr rfl (fun t ht hW => ⟨⟨0, (), rfl, (Or.inl rfl), by rw [ht]; exact hP, hK.warm hW, hD⟩, hS.F ht⟩) hS.2.2 dX7_isName_72
        exact L44_71 _ 0 (mm_wk mm_k0 (by decide)) (Nat.lt_succ_self _) H locs hP hD hS ls (lv_sub hl [0, 1, 2, 3] rfl)
      · have q84 := mm_ltL (h := 599) (mm_nle c9) h0 q8 (by decide)
        refine lv_iconst (v := 0) hx hb dX7_isName_40 (by decide) ?_
        subst hAe
        rw [hQ]
        exact W.zret (v := 0) hx hb hr rfl (fun t ht hW => ⟨⟨0, (), rfl, (Or.inl rfl), by rw [ht]; exact hP, hK.warm hW, hD⟩, hS.F ht⟩) hS.2.2 dX7_isName_41

set_option maxHeartbeats 4000000 in
set_option maxRecDepth 100000 in
theorem K169_X7_takeIf (l : Launch) (G : va_G) (cy : Nat → ClassId) (sz : Nat) (a_0 : Nat) (a_1 : Nat) (a_2 : Nat) (i_0 : Int32) (i_1 : Int32) (i_2 : Int32) (i_3 : Int32) (i_4 : Int32) (i_5 : Int32) (h0 : mm_rg i_0 0 3) (h1 : mm_rg i_3 0 600)  : mm_CV l yX7_takeIf (mm_ws yX7_takeIf cX7_takeIf 2 (none)) ({ frames := 1, cells := 0, slots := 0, locals := 21 } : Room) G cy sz [(a_0, .inr (7, [.ref a_1, .ref a_2, .int i_0, .int i_1, .int i_2, .int i_3, .int i_4, .int i_5]))] [.ref a_0, .int 0] (fun u : Int32 × Int32 => [(a_0, .inr (7, [.ref a_1, .ref a_2, .int u.1, .int u.2, .int i_2, .int i_3, .int i_4, .int i_5]))]) (fun u : Int32 × Int32 => mm_rg u.1 1 3) 0 0 := by
  refine mm_begin (lv := [(0, .ref a_0), (1, .int 0)]) (by decide) (Nat.le_of_ble_eq_true rfl) rfl ?_
  intro p e s m below meth c A ls R args Q H locs hRe hQ hAe hx hb hr hlocks hml hown hnm hts hsz hA hS hP hK hD hZ hl
  have hRf : R.frames = 1 := by rw [hRe]
  have hRl : R.locals = 21 := by rw [hRe]
  have hRc : R.cells = 0 := by rw [hRe]
  have hRs : R.slots = 0 := by rw [hRe]
  refine lv_iload_n hx hb dX7_takeIf_0 rfl (lv_at hl 1 rfl) ?_
  refine lv_if_ne (tgt := 12) hx hb dX7_takeIf_1 (by decide) (fun c1 => ?_) (fun c1 => ?_)
  · have q2 := mm_neL (lo := 1) (mm_ne c1) mm_k0 mm_k0 (by decide) (by decide)
    exact mm_no q2 (by decide)
  · refine lv_aload_n hx hb dX7_takeIf_4 rfl (lv_at hl 0 rfl) ?_
    refine lv_iconst (v := 1) hx hb dX7_takeIf_5 (by decide) ?_
    refine mm_finv (va_runV (As := [.int 1]) (rest := []) ⟨hx, hb, hml, hown, hts⟩ (K101_X7_blame l G cy H.size a_0 a_1 a_2 i_0 i_1 i_2 i_3 i_4 i_5 h0 h1) (cwV 1 hts (mm_gV mm_w311 mm_w312 mm_w313 mm_w19 mm_w314) rfl rfl rfl hd_X7_blame ⟨by rw [hRf]; exact Nat.le_of_ble_eq_true rfl, by rw [hRl]; exact Nat.le_of_ble_eq_true rfl⟩) (mm_preV hK hZ hS hA hP hD [0] rfl rfl 0 rfl rfl rfl) rfl rfl hl.1 rfl (lv_room (Nat.le_of_ble_eq_true rfl)) dX7_takeIf_6 ⟨by rw [hRc]; exact Nat.le_of_ble_eq_true rfl, by rw [hRs]; exact Nat.le_of_ble_eq_true rfl⟩) hP hD hS hA (fun u : Int32 × Int32 => [(a_0, .inr (7, [.ref a_1, .ref a_2, .int u.1, .int u.2, .int i_2, .int i_3, .int i_4, .int i_5]))]) [0] [] (n := 1) (fun _ => rfl) (by decide +kernel) (by decide +kernel) rfl (fun _ => rfl) (wr := []) rfl (fun _ => rfl) (fun _ => rfl) ?_
    clear hP hD hS
    clear H locs
    intro u
    obtain ⟨n3, n4⟩ := u
    intro H locs hw (hP : va_P G vwCl [(a_0, .inr (7, [.ref a_1, .ref a_2, .int n3, .int n4, .int i_2, .int i_3, .int i_4, .int i_5]))] H) (hD : va_D A [(a_0, .inr (7, [.ref a_1, .ref a_2, .int n3, .int n4, .int i_2, .int i_3, .int i_4, .int i_5]))]) hS
    have w5 := hw
    refine lv_goto (tgt := 23) hx hb dX7_takeIf_9 (by decide) ?_
    subst hAe
    rw [hQ]
    exact W.vret hx hb hr (fun t ht hW => ⟨⟨(n3, n4), rfl, w5, by rw [ht]; exact hP, hK.warm hW, hD⟩, hS.F ht⟩) hS.2.2 dX7_takeIf_23

set_option maxHeartbeats 4000000 in
set_option maxRecDepth 100000 in
theorem K170_X7_takeIf (l : Launch) (G : va_G) (cy : Nat → ClassId) (sz : Nat) (a_0 : Nat) (a_1 : Nat) (a_2 : Nat) (i_0 : Int32) (f_0 : Nat → Int32) (a_3 : Nat) (i_1 : Int32) (i_2 : Int32) (i_3 : Int32) (i_4 : Int32) (i_5 : Int32) (i_6 : Int32) (h0 : mm_rg i_0 0 600) (h1 : mm_ar f_0 (-128) 127) (h2 : mm_rg i_1 0 3) (h3 : mm_rg i_3 0 5) (h4 : mm_rg i_4 0 600) (h5 : mm_rg i_5 0 600)  : mm_CV l yX7_takeIf (mm_ws yX7_takeIf cX7_takeIf 2 (none)) ({ frames := 2, cells := 0, slots := 0, locals := 45 } : Room) G cy sz [(a_1, .inr (9, [.ref a_2, .int i_0])), (a_2, .inl (cy 0, 600, .inl f_0)), (a_0, .inr (7, [.ref a_1, .ref a_3, .int i_1, .int i_2, .int i_3, .int i_4, .int i_5, .int i_6]))] [.ref a_0, .int 1] (fun u : Int32 × Int32 × Int32 × Int32 => [(a_1, .inr (9, [.ref a_2, .int i_0])), (a_2, .inl (cy 0, 600, .inl f_0)), (a_0, .inr (7, [.ref a_1, .ref a_3, .int i_1, .int i_2, .int u.1, .int u.2.1, .int u.2.2.1, .int u.2.2.2]))]) (fun u : Int32 × Int32 × Int32 × Int32 => mm_rg u.1 0 5 ∧ mm_rg u.2.1 0 600 ∧ mm_rg u.2.2.1 0 600) 0 0 := by
  refine mm_begin (lv := [(0, .ref a_0), (1, .int 1)]) (by decide) (Nat.le_of_ble_eq_true rfl) rfl ?_
  intro p e s m below meth c A ls R args Q H locs hRe hQ hAe hx hb hr hlocks hml hown hnm hts hsz hA hS hP hK hD hZ hl
  have hRf : R.frames = 2 := by rw [hRe]
  have hRl : R.locals = 45 := by rw [hRe]
  have hRc : R.cells = 0 := by rw [hRe]
  have hRs : R.slots = 0 := by rw [hRe]
  refine lv_iload_n hx hb dX7_takeIf_0 rfl (lv_at hl 1 rfl) ?_
  refine lv_if_ne (tgt := 12) hx hb dX7_takeIf_1 (by decide) (fun c1 => ?_) (fun c1 => ?_)
  · refine lv_aload_n hx hb dX7_takeIf_12 rfl (lv_at hl 0 rfl) ?_
    refine va_get (D := G) (ci := 7) (v := .int i_1) (C := RX7) (T := TX7) (N := 8) hx hb hts (mm_i inlX7) hown hK.1 hP 2 rfl rfl 2 (by decide) (mm_h hts mm_w205) (fun _ h9 => h9) rfl dX7_takeIf_13 ?_
    refine lv_if_ne (tgt := 23) hx hb dX7_takeIf_16 (by decide) (fun c2 => ?_) (fun c2 => ?_)
    · have q3 := mm_neL (lo := 1) (mm_ne c2) h2 mm_k0 (by decide) (by decide)
      subst hAe
      rw [hQ]
      exact W.vret hx hb hr (fun t ht hW => ⟨⟨(i_3, i_4, i_5, i_6), rfl, ⟨h3, h4, h5⟩, by rw [ht]; exact hP, hK.warm hW, hD⟩, hS.F ht⟩) hS.2.2 dX7_takeIf_23
    · have q4 := mm_eqI (lo := 0) (hi := 0) c2 h2 mm_k0 (by decide)
      refine lv_aload_n hx hb dX7_takeIf_19 rfl (lv_at hl 0 rfl) ?_
      refine mm_finv (va_runV (As := []) (rest := []) ⟨hx, hb, hml, hown, hts⟩ (K9_X7_nextToken l G cy H.size a_0 a_1 a_2 i_0 f_0 a_3 i_1 i_2 i_3 i_4 i_5 i_6 h0 h1 h3 h4 h5) (cwV 0 hts (mm_gV mm_w227 mm_w228 mm_w229 mm_w19 mm_w230) rfl rfl rfl hd_X7_nextToken ⟨by rw [hRf]; exact Nat.le_of_ble_eq_true rfl, by rw [hRl]; exact Nat.le_of_ble_eq_true rfl⟩) (mm_preV hK hZ hS hA hP hD [0, 1, 2] rfl rfl 2 rfl rfl rfl) rfl rfl hl.1 rfl (lv_room (Nat.le_of_ble_eq_true rfl)) dX7_takeIf_20 ⟨by rw [hRc]; exact Nat.le_of_ble_eq_true rfl, by rw [hRs]; exact Nat.le_of_ble_eq_true rfl⟩) hP hD hS hA (fun u : Int32 × Int32 × Int32 × Int32 => [(a_1, .inr (9, [.ref a_2, .int i_0])), (a_2, .inl (cy 0, 600, .inl f_0)), (a_0, .inr (7, [.ref a_1, .ref a_3, .int i_1, .int i_2, .int u.1, .int u.2.1, .int u.2.2.1, .int u.2.2.2]))]) [0, 1, 2] [] (n := 3) (fun _ => rfl) (by decide +kernel) (by decide +kernel) rfl (fun _ => rfl) (wr := []) rfl (fun _ => rfl) (fun _ => rfl) ?_
      clear hP hD hS
      clear H locs
      intro u
      obtain ⟨n5, n6, n7, n8⟩ := u
      intro H locs hw (hP : va_P G vwCl [(a_1, .inr (9, [.ref a_2, .int i_0])), (a_2, .inl (cy 0, 600, .inl f_0)), (a_0, .inr (7, [.ref a_1, .ref a_3, .int i_1, .int i_2, .int n5, .int n6, .int n7, .int n8]))] H) (hD : va_D A [(a_1, .inr (9, [.ref a_2, .int i_0])), (a_2, .inl (cy 0, 600, .inl f_0)), (a_0, .inr (7, [.ref a_1, .ref a_3, .int i_1, .int i_2, .int n5, .int n6, .int n7, .int n8]))]) hS
      obtain ⟨w9, w10, w11⟩ := hw
      subst hAe
      rw [hQ]
      exact W.vret hx hb hr (fun t ht hW => ⟨⟨(n5, n6, n7, n8), rfl, ⟨w9, w10, w11⟩, by rw [ht]; exact hP, hK.warm hW, hD⟩, hS.F ht⟩) hS.2.2 dX7_takeIf_23
  · exact mm_eqN c1.symm mm_k0 mm_k1 (by decide)

set_option maxHeartbeats 4000000 in
set_option maxRecDepth 100000 in
theorem K171_X7_refuse (l : Launch) (G : va_G) (cy : Nat → ClassId) (sz : Nat) (a_0 : Nat) (i_0 : Int32) (a_1 : Nat) (a_2 : Nat) (i_1 : Int32) (i_2 : Int32) (i_3 : Int32) (i_4 : Int32) (i_5 : Int32) (i_6 : Int32) (h0 : mm_rg i_0 0 9) (h1 : mm_rg i_1 0 3) (h2 : mm_rg i_3 0 5) (h3 : mm_rg i_4 0 600)  : mm_CV l yX7_refuse (mm_ws yX7_refuse cX7_refuse 2 (none)) ({ frames := 1, cells := 0, slots := 0, locals := 21 } : Room) G cy sz [(a_0, .inr (7, [.ref a_1, .ref a_2, .int i_1, .int i_2, .int i_3, .int i_4, .int i_5, .int i_6]))] [.ref a_0, .int i_0] (fun u : Int32 × Int32 => [(a_0, .inr (7, [.ref a_1, .ref a_2, .int u.1, .int u.2, .int i_3, .int i_4, .int i_5, .int i_6]))]) (fun u : Int32 × Int32 => mm_rg u.1 0 3) 0 0 := by
  refine mm_begin (lv := [(0, .ref a_0), (1, .int i_0)]) (by decide) (Nat.le_of_ble_eq_true rfl) rfl ?_
  intro p e s m below meth c A ls R args Q H locs hRe hQ hAe hx hb hr hlocks hml hown hnm hts hsz hA hS hP hK hD hZ hl
  have hRf : R.frames = 1 := by rw [hRe]
  have hRl : R.locals = 21 := by rw [hRe]
  have hRc : R.cells = 0 := by rw [hRe]
  have hRs : R.slots = 0 := by rw [hRe]
  refine lv_aload_n hx hb dX7_refuse_0 rfl (lv_at hl 0 rfl) ?_
  refine va_get (D := G) (ci := 7) (v := .int i_3) (C := RX7) (T := TX7) (N := 8) hx hb hts (mm_i inlX7) hown hK.1 hP 0 rfl rfl 4 (by decide) (mm_h hts mm_w207) (fun _ h9 => h9) rfl dX7_refuse_1 ?_
  refine lv_iconst (v := 3) hx hb dX7_refuse_4 (by decide) ?_
  refine lv_icmp_ne (tgt := 21) hx hb dX7_refuse_5 (by decide) (fun c1 => ?_) (fun c1 => ?_)
  · subst hAe
    rw [hQ]
    exact W.vret hx hb hr (fun t ht hW => ⟨⟨(i_1, i_2), rfl, h1, by rw [ht]; exact hP, hK.warm hW, hD⟩, hS.F ht⟩) hS.2.2 dX7_refuse_21
  · have q2 := mm_eqI (lo := 3) (hi := 3) c1 h2 mm_k3 (by decide)
    refine lv_aload_n hx hb dX7_refuse_8 rfl (lv_at hl 0 rfl) ?_
    refine va_get (D := G) (ci := 7) (v := .int i_6) (C := RX7) (T := TX7) (N := 8) hx hb hts (mm_i inlX7) hown hK.1 hP 0 rfl rfl 7 (by decide) (mm_h hts mm_w233) (fun _ h9 => h9) rfl dX7_refuse_9 ?_
    refine lv_iload_n hx hb dX7_refuse_12 rfl (lv_at hl 1 rfl) ?_
    refine lv_icmp_ne (tgt := 21) hx hb dX7_refuse_13 (by decide) (fun c3 => ?_) (fun c3 => ?_)
    · subst hAe
      rw [hQ]
      exact W.vret hx hb hr (fun t ht hW => ⟨⟨(i_1, i_2), rfl, h1, by rw [ht]; exact hP, hK.warm hW, hD⟩, hS.F ht⟩) hS.2.2 dX7_refuse_21
    · have q4 := mm_eqI (lo := 0) (hi := 9) c3 (mm_top i_6) h0 (by decide)
      refine lv_aload_n hx hb dX7_refuse_16 rfl (lv_at hl 0 rfl) ?_
      refine lv_iconst (v := 2) hx hb dX7_refuse_17 (by decide) ?_
      refine mm_finv (va_runV (As := [.int 2]) (rest := []) ⟨hx, hb, hml, hown, hts⟩ (K102_X7_blame l G cy H.size a_0 a_1 a_2 i_1 i_2 i_3 i_4 i_5 i_6 h1 h3) (cwV 1 hts (mm_gV mm_w311 mm_w312 mm_w313 mm_w19 mm_w314) rfl rfl rfl hd_X7_blame ⟨by rw [hRf]; exact Nat.le_of_ble_eq_true rfl, by rw [hRl]; exact Nat.le_of_ble_eq_true rfl⟩) (mm_preV hK hZ hS hA hP hD [0] rfl rfl 0 rfl rfl rfl) rfl rfl hl.1 rfl (lv_room (Nat.le_of_ble_eq_true rfl)) dX7_refuse_18 ⟨by rw [hRc]; exact Nat.le_of_ble_eq_true rfl, by rw [hRs]; exact Nat.le_of_ble_eq_true rfl⟩) hP hD hS hA (fun u : Int32 × Int32 => [(a_0, .inr (7, [.ref a_1, .ref a_2, .int u.1, .int u.2, .int i_3, .int i_4, .int i_5, .int i_6]))]) [0] [] (n := 1) (fun _ => rfl) (by decide +kernel) (by decide +kernel) rfl (fun _ => rfl) (wr := []) rfl (fun _ => rfl) (fun _ => rfl) ?_
      clear hP hD hS
      clear H locs
      intro u
      obtain ⟨n5, n6⟩ := u
      intro H locs hw (hP : va_P G vwCl [(a_0, .inr (7, [.ref a_1, .ref a_2, .int n5, .int n6, .int i_3, .int i_4, .int i_5, .int i_6]))] H) (hD : va_D A [(a_0, .inr (7, [.ref a_1, .ref a_2, .int n5, .int n6, .int i_3, .int i_4, .int i_5, .int i_6]))]) hS
      have w7 := hw
      subst hAe
      rw [hQ]
      exact W.vret hx hb hr (fun t ht hW => ⟨⟨(n5, n6), rfl, (mm_wk w7 (by decide)), by rw [ht]; exact hP, hK.warm hW, hD⟩, hS.F ht⟩) hS.2.2 dX7_refuse_21

set_option maxHeartbeats 4000000 in
set_option maxRecDepth 100000 in
theorem K172_X7_takeNumber (l : Launch) (G : va_G) (cy : Nat → ClassId) (sz : Nat) (a_0 : Nat) (a_1 : Nat) (a_2 : Nat) (i_0 : Int32) (f_0 : Nat → Int32) (a_3 : Nat) (i_1 : Int32) (i_2 : Int32) (i_3 : Int32) (i_4 : Int32) (i_5 : Int32) (i_6 : Int32) (h0 : mm_rg i_0 0 600) (h1 : mm_ar f_0 (-128) 127) (h2 : mm_rg i_1 0 3) (h3 : mm_rg i_3 0 5) (h4 : mm_rg i_4 0 600) (h5 : mm_rg i_5 0 600)  : mm_CI l yX7_takeNumber (mm_ws yX7_takeNumber cX7_takeNumber 4 (some .int)) ({ frames := 2, cells := 0, slots := 0, locals := 45 } : Room) G cy sz [(a_1, .inr (9, [.ref a_2, .int i_0])), (a_2, .inl (cy 0, 600, .inl f_0)), (a_0, .inr (7, [.ref a_1, .ref a_3, .int i_1, .int i_2, .int i_3, .int i_4, .int i_5, .int i_6]))] [.ref a_0, .int 1, .int 9] (fun u : Int32 × Int32 × Int32 × Int32 × Int32 × Int32 => [(a_1, .inr (9, [.ref a_2, .int i_0])), (a_2, .inl (cy 0, 600, .inl f_0)), (a_0, .inr (7, [.ref a_1, .ref a_3, .int u.1, .int u.2.1, .int u.2.2.1, .int u.2.2.2.1, .int u.2.2.2.2.1, .int u.2.2.2.2.2]))]) (fun (r : Int32) (u : Int32 × Int32 × Int32 × Int32 × Int32 × Int32) => mm_rg u.1 0 3 ∧ mm_rg u.2.2.1 0 5 ∧ mm_rg u.2.2.2.1 0 600 ∧ mm_rg u.2.2.2.2.1 0 600 ∧ mm_rg r 1 9) 0 0 := by
  refine mm_begin (lv := [(0, .ref a_0), (1, .int 1), (2, .int 9)]) (by decide) (Nat.le_of_ble_eq_true rfl) rfl ?_
  intro p e s m below meth c A ls R args Q H locs hRe hQ hAe hx hb hr hlocks hml hown hnm hts hsz hA hS hP hK hD hZ hl
  have hRf : R.frames = 2 := by rw [hRe]
  have hRl : R.locals = 45 := by rw [hRe]
  have hRc : R.cells = 0 := by rw [hRe]
  have hRs : R.slots = 0 := by rw [hRe]
  refine lv_aload_n hx hb dX7_takeNumber_0 rfl (lv_at hl 0 rfl) ?_
  refine va_get (D := G) (ci := 7) (v := .int i_3) (C := RX7) (T := TX7) (N := 8) hx hb hts (mm_i inlX7) hown hK.1 hP 2 rfl rfl 4 (by decide) (mm_h hts mm_w207) (fun _ h9 => h9) rfl dX7_takeNumber_1 ?_
  refine lv_iconst (v := 3) hx hb dX7_takeNumber_4 (by decide) ?_
  refine lv_icmp_eq (tgt := 16) hx hb dX7_takeNumber_5 (by decide) (fun c1 => ?_) (fun c1 => ?_)
  · have q2 := mm_eqI (lo := 3) (hi := 3) c1 h3 mm_k3 (by decide)
    refine lv_aload_n hx hb dX7_takeNumber_16 rfl (lv_at hl 0 rfl) ?_
    refine va_get (D := G) (ci := 7) (v := .int i_6) (C := RX7) (T := TX7) (N := 8) hx hb hts (mm_i inlX7) hown hK.1 hP 2 rfl rfl 7 (by decide) (mm_h hts mm_w233) (fun _ h9 => h9) rfl dX7_takeNumber_17 ?_
    refine lv_iload_n hx hb dX7_takeNumber_20 rfl (lv_at hl 1 rfl) ?_
    refine lv_icmp_lt (tgt := 32) hx hb dX7_takeNumber_21 (by decide) (fun c3 => ?_) (fun c3 => ?_)
    · have q4 := mm_ltL (h := 0) (mm_lt c3) (mm_top i_6) mm_k1 (by decide)
      refine lv_aload_n hx hb dX7_takeNumber_32 rfl (lv_at hl 0 rfl) ?_
      refine lv_iconst (v := 2) hx hb dX7_takeNumber_33 (by decide) ?_
      refine mm_finv (va_runV (As := [.int 2]) (rest := []) ⟨hx, hb, hml, hown, hts⟩ (K102_X7_blame l G cy H.size a_0 a_1 a_3 i_1 i_2 i_3 i_4 i_5 i_6 h2 h4) (cwV 1 hts (mm_gV mm_w311 mm_w312 mm_w313 mm_w19 mm_w314) rfl rfl rfl hd_X7_blame ⟨by rw [hRf]; exact Nat.le_of_ble_eq_true rfl, by rw [hRl]; exact Nat.le_of_ble_eq_true rfl⟩) (mm_preV hK hZ hS hA hP hD [2] rfl rfl 2 rfl rfl rfl) rfl rfl hl.1 rfl (lv_room (Nat.le_of_ble_eq_true rfl)) dX7_takeNumber_34 ⟨by rw [hRc]; exact Nat.le_of_ble_eq_true rfl, by rw [hRs]; exact Nat.le_of_ble_eq_true rfl⟩) hP hD hS hA (fun u : Int32 × Int32 => [(a_1, .inr (9, [.ref a_2, .int i_0])), (a_2, .inl (cy 0, 600, .inl f_0)), (a_0, .inr (7, [.ref a_1, .ref a_3, .int u.1, .int u.2, .int i_3, .int i_4, .int i_5, .int i_6]))]) [2] [0, 1] (n := 3) (fun _ => rfl) (by decide +kernel) (by decide +kernel) rfl (fun _ => rfl) (wr := [(a_1, .inr (9, [.ref a_2, .int i_0])), (a_2, .inl (cy 0, 600, .inl f_0))]) rfl (fun _ => rfl) (fun _ => rfl) ?_
      clear hP hD hS
      clear H locs
      intro u
      obtain ⟨n5, n6⟩ := u
      intro H locs hw (hP : va_P G vwCl [(a_1, .inr (9, [.ref a_2, .int i_0])), (a_2, .inl (cy 0, 600, .inl f_0)), (a_0, .inr (7, [.ref a_1, .ref a_3, .int n5, .int n6, .int i_3, .int i_4, .int i_5, .int i_6]))] H) (hD : va_D A [(a_1, .inr (9, [.ref a_2, .int i_0])), (a_2, .inl (cy 0, 600, .inl f_0)), (a_0, .inr (7, [.ref a_1, .ref a_3, .int n5, .int n6, .int i_3, .int i_4, .int i_5, .int i_6]))]) hS
      have w7 := hw
      refine lv_aload_n hx hb dX7_takeNumber_37 rfl (lv_at hl 0 rfl) ?_
      refine va_get (D := G) (ci := 7) (v := .int n5) (C := RX7) (T := TX7) (N := 8) hx hb hts (mm_i inlX7) hown hK.1 hP 2 rfl rfl 2 (by decide) (mm_h hts mm_w205) (fun _ h9 => h9) rfl dX7_takeNumber_38 ?_
      refine lv_if_eq (tgt := 46) hx hb dX7_takeNumber_41 (by decide) (fun c8 => ?_) (fun c8 => ?_)
      · exact mm_eqN c8.symm mm_k0 w7 (by decide)
      · refine lv_iload_n hx hb dX7_takeNumber_44 rfl (lv_at hl 1 rfl) ?_
        subst hAe
        rw [hQ]
        exact W.iret (v := 1) hx hb hr (fun t ht hW => ⟨⟨1, (n5, n6, i_3, i_4, i_5, i_6), rfl, ⟨(mm_wk w7 (by decide)), (mm_wk q2 (by decide)), h4, h5, (mm_wk mm_k1 (by decide))⟩, by rw [ht]; exact hP, hK.warm hW, hD⟩, hS.F ht⟩) hS.2.2 dX7_takeNumber_45
    · have q9 := mm_leR (mm_nlt c3) mm_k1 (mm_top i_6)
      refine lv_aload_n hx hb dX7_takeNumber_24 rfl (lv_at hl 0 rfl) ?_
      refine va_get (D := G) (ci := 7) (v := .int i_6) (C := RX7) (T := TX7) (N := 8) hx hb hts (mm_i inlX7) hown hK.1 hP 2 rfl rfl 7 (by decide) (mm_h hts mm_w233) (fun _ h9 => h9) rfl dX7_takeNumber_25 ?_
      refine lv_iload_n hx hb dX7_takeNumber_28 rfl (lv_at hl 2 rfl) ?_
      refine lv_icmp_le (tgt := 37) hx hb dX7_takeNumber_29 (by decide) (fun c10 => ?_) (fun c10 => ?_)
      · have q11 := mm_leL (mm_le c10) q9 mm_k9
        refine lv_aload_n hx hb dX7_takeNumber_37 rfl (lv_at hl 0 rfl) ?_
        refine va_get (D := G) (ci := 7) (v := .int i_1) (C := RX7) (T := TX7) (N := 8) hx hb hts (mm_i inlX7) hown hK.1 hP 2 rfl rfl 2 (by decide) (mm_h hts mm_w205) (fun _ h9 => h9) rfl dX7_takeNumber_38 ?_
        refine lv_if_eq (tgt := 46) hx hb dX7_takeNumber_41 (by decide) (fun c12 => ?_) (fun c12 => ?_)
        · have q13 := mm_eqI (lo := 0) (hi := 0) c12 h2 mm_k0 (by decide)
          refine lv_aload_n hx hb dX7_takeNumber_46 rfl (lv_at hl 0 rfl) ?_
          refine va_get (D := G) (ci := 7) (v := .int i_6) (C := RX7) (T := TX7) (N := 8) hx hb hts (mm_i inlX7) hown hK.1 hP 2 rfl rfl 7 (by decide) (mm_h hts mm_w233) (fun _ h9 => h9) rfl dX7_takeNumber_47 ?_
          refine lv_istore_n (lv' := [(3, .int i_6), (0, .ref a_0), (1, .int 1), (2, .int 9)]) hx hb dX7_takeNumber_50 rfl hl (by decide) rfl ?_
          clear hl
          clear ls
          intro ls hl
          refine lv_aload_n hx hb dX7_takeNumber_51 rfl (lv_at hl 1 rfl) ?_
          refine mm_finv (va_runV (As := []) (rest := []) ⟨hx, hb, hml, hown, hts⟩ (K9_X7_nextToken l G cy H.size a_0 a_1 a_2 i_0 f_0 a_3 i_1 i_2 i_3 i_4 i_5 i_6 h0 h1 (mm_wk q2 (by decide)) h4 h5) (cwV 0 hts (mm_gV mm_w227 mm_w228 mm_w229 mm_w19 mm_w230) rfl rfl rfl hd_X7_nextToken ⟨by rw [hRf]; exact Nat.le_of_ble_eq_true rfl, by rw [hRl]; exact Nat.le_of_ble_eq_true rfl⟩) (mm_preV hK hZ hS hA hP hD [0, 1, 2] rfl rfl 2 rfl rfl rfl) rfl rfl hl.1 rfl (lv_room (Nat.le_of_ble_eq_true rfl)) dX7_takeNumber_52 ⟨by rw [hRc]; exact Nat.le_of_ble_eq_true rfl, by rw [hRs]; exact Nat.le_of_ble_eq_true rfl⟩) hP hD hS hA (fun u : Int32 × Int32 × Int32 × Int32 => [(a_1, .inr (9, [.ref a_2, .int i_0])), (a_2, .inl (cy 0, 600, .inl f_0)), (a_0, .inr (7, [.ref a_1, .ref a_3, .int i_1, .int i_2, .int u.1, .int u.2.1, .int u.2.2.1, .int u.2.2.2]))]) [0, 1, 2] [] (n := 3) (fun _ => rfl) (by decide +kernel) (by decide +kernel) rfl (fun _ => rfl) (wr := []) rfl (fun _ => rfl) (fun _ => rfl) ?_
          clear hP hD hS
          clear H locs
          intro u
          obtain ⟨n14, n15, n16, n17⟩ := u
          intro H locs hw (hP : va_P G vwCl [(a_1, .inr (9, [.ref a_2, .int i_0])), (a_2, .inl (cy 0, 600, .inl f_0)), (a_0, .inr (7, [.ref a_1, .ref a_3, .int i_1, .int i_2, .int n14, .int n15, .int n16, .int n17]))] H) (hD : va_D A [(a_1, .inr (9, [.ref a_2, .int i_0])), (a_2, .inl (cy 0, 600, .inl f_0)), (a_0, .inr (7, [.ref a_1, .ref a_3, .int i_1, .int i_2, .int n14, .int n15, .int n16, .int n17]))]) hS
          obtain ⟨w18, w19, w20⟩ := hw
          refine lv_iload_n hx hb dX7_takeNumber_55 rfl (lv_at hl 0 rfl) ?_
          subst hAe
          rw [hQ]
          exact W.iret (v := i_6) hx hb hr (fun t ht hW => ⟨⟨i_6, (i_1, i_2, n14, n15, n16, n17), rfl, ⟨(mm_wk q13 (by decide)), w18, w19, w20, q11⟩, by rw [ht]; exact hP, hK.warm hW, hD⟩, hS.F ht⟩) hS.2.2 dX7_takeNumber_56
        · have q21 := mm_neL (lo := 1) (mm_ne c12) h2 mm_k0 (by decide) (by decide)
          refine lv_iload_n hx hb dX7_takeNumber_44 rfl (lv_at hl 1 rfl) ?_
          subst hAe
          rw [hQ]
          exact W.iret (v := 1) hx hb hr (fun t ht hW => ⟨⟨1, (i_1, i_2, i_3, i_4, i_5, i_6), rfl, ⟨(mm_wk q21 (by decide)), (mm_wk q2 (by decide)), h4, h5, (mm_wk mm_k1 (by decide))⟩, by rw [ht]; exact hP, hK.warm hW, hD⟩, hS.F ht⟩) hS.2.2 dX7_takeNumber_45
      · have q22 := mm_ltR (lo := 10) (mm_nle c10) mm_k9 q9 (by decide)
        refine lv_aload_n hx hb dX7_takeNumber_32 rfl (lv_at hl 0 rfl) ?_
        refine lv_iconst (v := 2) hx hb dX7_takeNumber_33 (by decide) ?_
        refine mm_finv (va_runV (As := [.int 2]) (rest := []) ⟨hx, hb, hml, hown, hts⟩ (K102_X7_blame l G cy H.size a_0 a_1 a_3 i_1 i_2 i_3 i_4 i_5 i_6 h2 h4) (cwV 1 hts (mm_gV mm_w311 mm_w312 mm_w313 mm_w19 mm_w314) rfl rfl rfl hd_X7_blame ⟨by rw [hRf]; exact Nat.le_of_ble_eq_true rfl, by rw [hRl]; exact Nat.le_of_ble_eq_true rfl⟩) (mm_preV hK hZ hS hA hP hD [2] rfl rfl 2 rfl rfl rfl) rfl rfl hl.1 rfl (lv_room (Nat.le_of_ble_eq_true rfl)) dX7_takeNumber_34 ⟨by rw [hRc]; exact Nat.le_of_ble_eq_true rfl, by rw [hRs]; exact Nat.le_of_ble_eq_true rfl⟩) hP hD hS hA (fun u : Int32 × Int32 => [(a_1, .inr (9, [.ref a_2, .int i_0])), (a_2, .inl (cy 0, 600, .inl f_0)), (a_0, .inr (7, [.ref a_1, .ref a_3, .int u.1, .int u.2, .int i_3, .int i_4, .int i_5, .int i_6]))]) [2] [0, 1] (n := 3) (fun _ => rfl) (by decide +kernel) (by decide +kernel) rfl (fun _ => rfl) (wr := [(a_1, .inr (9, [.ref a_2, .int i_0])), (a_2, .inl (cy 0, 600, .inl f_0))]) rfl (fun _ => rfl) (fun _ => rfl) ?_
        clear hP hD hS
        clear H locs
        intro u
        obtain ⟨n23, n24⟩ := u
        intro H locs hw (hP : va_P G vwCl [(a_1, .inr (9, [.ref a_2, .int i_0])), (a_2, .inl (cy 0, 600, .inl f_0)), (a_0, .inr (7, [.ref a_1, .ref a_3, .int n23, .int n24, .int i_3, .int i_4, .int i_5, .int i_6]))] H) (hD : va_D A [(a_1, .inr (9, [.ref a_2, .int i_0])), (a_2, .inl (cy 0, 600, .inl f_0)), (a_0, .inr (7, [.ref a_1, .ref a_3, .int n23, .int n24, .int i_3, .int i_4, .int i_5, .int i_6]))]) hS
        have w25 := hw
        refine lv_aload_n hx hb dX7_takeNumber_37 rfl (lv_at hl 0 rfl) ?_
        refine va_get (D := G) (ci := 7) (v := .int n23) (C := RX7) (T := TX7) (N := 8) hx hb hts (mm_i inlX7) hown hK.1 hP 2 rfl rfl 2 (by decide) (mm_h hts mm_w205) (fun _ h9 => h9) rfl dX7_takeNumber_38 ?_
        refine lv_if_eq (tgt := 46) hx hb dX7_takeNumber_41 (by decide) (fun c26 => ?_) (fun c26 => ?_)
        · exact mm_eqN c26.symm mm_k0 w25 (by decide)
        · refine lv_iload_n hx hb dX7_takeNumber_44 rfl (lv_at hl 1 rfl) ?_
          subst hAe
          rw [hQ]
          exact W.iret (v := 1) hx hb hr (fun t ht hW => ⟨⟨1, (n23, n24, i_3, i_4, i_5, i_6), rfl, ⟨(mm_wk w25 (by decide)), (mm_wk q2 (by decide)), h4, h5, (mm_wk mm_k1 (by decide))⟩, by rw [ht]; exact hP, hK.warm hW, hD⟩, hS.F ht⟩) hS.2.2 dX7_takeNumber_45
  · refine lv_aload_n hx hb dX7_takeNumber_8 rfl (lv_at hl 0 rfl) ?_
    refine lv_iconst (v := 1) hx hb dX7_takeNumber_9 (by decide) ?_
    refine mm_finv (va_runV (As := [.int 1]) (rest := []) ⟨hx, hb, hml, hown, hts⟩ (K101_X7_blame l G cy H.size a_0 a_1 a_3 i_1 i_2 i_3 i_4 i_5 i_6 h2 h4) (cwV 1 hts (mm_gV mm_w311 mm_w312 mm_w313 mm_w19 mm_w314) rfl rfl rfl hd_X7_blame ⟨by rw [hRf]; exact Nat.le_of_ble_eq_true rfl, by rw [hRl]; exact Nat.le_of_ble_eq_true rfl⟩) (mm_preV hK hZ hS hA hP hD [2] rfl rfl 2 rfl rfl rfl) rfl rfl hl.1 rfl (lv_room (Nat.le_of_ble_eq_true rfl)) dX7_takeNumber_10 ⟨by rw [hRc]; exact Nat.le_of_ble_eq_true rfl, by rw [hRs]; exact Nat.le_of_ble_eq_true rfl⟩) hP hD hS hA (fun u : Int32 × Int32 => [(a_1, .inr (9, [.ref a_2, .int i_0])), (a_2, .inl (cy 0, 600, .inl f_0)), (a_0, .inr (7, [.ref a_1, .ref a_3, .int u.1, .int u.2, .int i_3, .int i_4, .int i_5, .int i_6]))]) [2] [0, 1] (n := 3) (fun _ => rfl) (by decide +kernel) (by decide +kernel) rfl (fun _ => rfl) (wr := [(a_1, .inr (9, [.ref a_2, .int i_0])), (a_2, .inl (cy 0, 600, .inl f_0))]) rfl (fun _ => rfl) (fun _ => rfl) ?_
    clear hP hD hS
    clear H locs
    intro u
    obtain ⟨n27, n28⟩ := u
    intro H locs hw (hP : va_P G vwCl [(a_1, .inr (9, [.ref a_2, .int i_0])), (a_2, .inl (cy 0, 600, .inl f_0)), (a_0, .inr (7, [.ref a_1, .ref a_3, .int n27, .int n28, .int i_3, .int i_4, .int i_5, .int i_6]))] H) (hD : va_D A [(a_1, .inr (9, [.ref a_2, .int i_0])), (a_2, .inl (cy 0, 600, .inl f_0)), (a_0, .inr (7, [.ref a_1, .ref a_3, .int n27, .int n28, .int i_3, .int i_4, .int i_5, .int i_6]))]) hS
    have w29 := hw
    refine lv_goto (tgt := 37) hx hb dX7_takeNumber_13 (by decide) ?_
    refine lv_aload_n hx hb dX7_takeNumber_37 rfl (lv_at hl 0 rfl) ?_
    refine va_get (D := G) (ci := 7) (v := .int n27) (C := RX7) (T := TX7) (N := 8) hx hb hts (mm_i inlX7) hown hK.1 hP 2 rfl rfl 2 (by decide) (mm_h hts mm_w205) (fun _ h9 => h9) rfl dX7_takeNumber_38 ?_
    refine lv_if_eq (tgt := 46) hx hb dX7_takeNumber_41 (by decide) (fun c30 => ?_) (fun c30 => ?_)
    · exact mm_eqN c30.symm mm_k0 w29 (by decide)
    · refine lv_iload_n hx hb dX7_takeNumber_44 rfl (lv_at hl 1 rfl) ?_
      subst hAe
      rw [hQ]
      exact W.iret (v := 1) hx hb hr (fun t ht hW => ⟨⟨1, (n27, n28, i_3, i_4, i_5, i_6), rfl, ⟨(mm_wk w29 (by decide)), h3, h4, h5, (mm_wk mm_k1 (by decide))⟩, by rw [ht]; exact hP, hK.warm hW, hD⟩, hS.F ht⟩) hS.2.2 dX7_takeNumber_45

set_option maxHeartbeats 4000000 in
set_option maxRecDepth 100000 in
theorem K173_X7_shiftAll (l : Launch) (G : va_G) (cy : Nat → ClassId) (sz : Nat) (a_0 : Nat) (i_0 : Int32) (i_1 : Int32) (i_2 : Int32) (a_1 : Nat) (a_2 : Nat) (i_3 : Int32) (i_4 : Int32) (i_5 : Int32) (i_6 : Int32) (i_7 : Int32) (i_8 : Int32) (i_9 : Int32) (i_10 : Int32) (i_11 : Int32) (i_12 : Int32) (i_13 : Int32) (i_14 : Int32) (i_15 : Int32) (i_16 : Int32) (a_3 : Nat) (a_4 : Nat) (a_5 : Nat) (a_6 : Nat) (a_7 : Nat) (a_8 : Nat) (a_9 : Nat) (a_10 : Nat) (a_11 : Nat) (a_12 : Nat) (f_0 : Nat → Int32) (h0 : mm_rg i_0 0 2) (h1 : mm_rg i_1 0 6) (h2 : mm_rg i_2 1 9) (h3 : mm_rg i_13 0 9) (h4 : mm_ar f_0 0 9)  : mm_CV l yX7_shiftAll (mm_ws yX7_shiftAll cX7_shiftAll 6 (none)) ({ frames := 1, cells := 0, slots := 0, locals := 40 } : Room) G cy sz [(a_0, .inr (7, [.ref a_1, .ref a_2, .int i_3, .int i_4, .int i_5, .int i_6, .int i_7, .int i_8])), (a_2, .inr (0, [.int i_9, .int i_10, .int i_11, .int i_12, .int i_13, .int i_14, .int i_15, .int i_16, .ref a_3, .ref a_4, .ref a_5, .ref a_6, .ref a_7, .ref a_8, .ref a_9, .ref a_10, .ref a_11, .ref a_12])), (a_6, .inl (cy 1, 210, .inl f_0))] [.ref a_0, .int i_0, .int i_1, .int i_2] (fun u : (Nat → Int32) => [(a_0, .inr (7, [.ref a_1, .ref a_2, .int i_3, .int i_4, .int i_5, .int i_6, .int i_7, .int i_8])), (a_2, .inr (0, [.int i_9, .int i_10, .int i_11, .int i_12, .int i_13, .int i_14, .int i_15, .int i_16, .ref a_3, .ref a_4, .ref a_5, .ref a_6, .ref a_7, .ref a_8, .ref a_9, .ref a_10, .ref a_11, .ref a_12])), (a_6, .inl (cy 1, 210, .inl u))]) (fun u : (Nat → Int32) => mm_ar u 0 9) 0 0 := by
  refine mm_begin (lv := [(0, .ref a_0), (1, .int i_0), (2, .int i_1), (3, .int i_2)]) (by decide) (Nat.le_of_ble_eq_true rfl) rfl ?_
  intro p e s m below meth c A ls R args Q H locs hRe hQ hAe hx hb hr hlocks hml hown hnm hts hsz hA hS hP hK hD hZ hl
  have hRf : R.frames = 1 := by rw [hRe]
  have hRl : R.locals = 40 := by rw [hRe]
  have hRc : R.cells = 0 := by rw [hRe]
  have hRs : R.slots = 0 := by rw [hRe]
  refine lv_iconst (v := 1) hx hb dX7_shiftAll_0 (by decide) ?_
  refine lv_aload_n hx hb dX7_shiftAll_1 rfl (lv_at hl 0 rfl) ?_
  refine va_get (D := G) (ci := 7) (v := .ref a_2) (C := RX7) (T := TX7) (N := 8) hx hb hts (mm_i inlX7) hown hK.1 hP 0 rfl rfl 1 (by decide) (mm_h hts mm_w65) (fun _ h9 => h9) rfl dX7_shiftAll_2 ?_
  refine mm_finir (va_runV (As := []) (rest := [.int 1]) ⟨hx, hb, hml, hown, hts⟩ (K107_X0_wordCount l G cy H.size a_2 i_9 i_10 i_11 i_12 i_13 i_14 i_15 i_16 a_3 a_4 a_5 a_6 a_7 a_8 a_9 a_10 a_11 a_12 h3) (cwV 0 hts (mm_gV mm_w348 mm_w349 mm_w350 mm_w28 mm_w351) rfl rfl rfl hd_X0_wordCount ⟨by rw [hRf]; exact Nat.le_of_ble_eq_true rfl, by rw [hRl]; exact Nat.le_of_ble_eq_true rfl⟩) (mm_preV hK hZ hS hA hP hD [1] rfl rfl 1 rfl rfl rfl) rfl rfl hl.1 rfl (lv_room (Nat.le_of_ble_eq_true rfl)) dX7_shiftAll_5 ⟨by rw [hRc]; exact Nat.le_of_ble_eq_true rfl, by rw [hRs]; exact Nat.le_of_ble_eq_true rfl⟩) hP hD hS hA [1] rfl (fun _ => rfl) ?_
  clear hP hD hS
  clear H locs
  intro v1 _u H locs hw hP hD hS
  have w2 := hw
  refine va_mmax hx hb (by rw [hml]; exact hl.1.symm) hown (mm_h hts mm_w344) (mm_h hts mm_w345) (mm_h hts mm_w346) (mm_h hts mm_w347) (by rw [hRf]; exact Nat.le_of_ble_eq_true rfl) (by rw [hRl]; exact Nat.le_of_ble_eq_true rfl) (by rw [hRc]; exact Nat.le_of_ble_eq_true rfl) (by rw [hRs]; exact Nat.le_of_ble_eq_true rfl) dX7_shiftAll_8 ?_
  refine lv_topi (fun v3 ev3 => ?_)
  have rv3 : mm_rg v3 1 10 := mm_max ev3 mm_k1 w2 (by decide)
  refine lv_istore (lv' := [(4, .int v3), (0, .ref a_0), (1, .int i_0), (2, .int i_1), (3, .int i_2)]) hx hb dX7_shiftAll_11 hl (by decide) rfl ?_
  clear hl
  clear ls
  intro ls hl
  refine lv_iconst (v := 0) hx hb dX7_shiftAll_13 (by decide) ?_
  refine lv_istore (lv' := [(5, .int 0), (4, .int v3), (0, .ref a_0), (1, .int i_0), (2, .int i_1), (3, .int i_2)]) hx hb dX7_shiftAll_14 hl (by decide) rfl ?_
  clear hl
  clear ls
  intro ls hl
  have L16_98 : ∀ (n : Nat) (x16_5_97 : Int32) (z16_2_98 : Nat → Int32), mm_rg x16_5_97 0 10 → mm_ar z16_2_98 0 9 → (10 - x16_5_97.toInt).toNat < n → ∀ (H : Heap) (locs : List Loc), va_P G vwCl [(a_0, .inr (7, [.ref a_1, .ref a_2, .int i_3, .int i_4, .int i_5, .int i_6, .int i_7, .int i_8])), (a_2, .inr (0, [.int i_9, .int i_10, .int i_11, .int i_12, .int i_13, .int i_14, .int i_15, .int i_16, .ref a_3, .ref a_4, .ref a_5, .ref a_6, .ref a_7, .ref a_8, .ref a_9, .ref a_10, .ref a_11, .ref a_12])), (a_6, .inl (cy 1, 210, .inl z16_2_98))] H → va_D A [(a_0, .inr (7, [.ref a_1, .ref a_2, .int i_3, .int i_4, .int i_5, .int i_6, .int i_7, .int i_8])), (a_2, .inr (0, [.int i_9, .int i_10, .int i_11, .int i_12, .int i_13, .int i_14, .int i_15, .int i_16, .ref a_3, .ref a_4, .ref a_5, .ref a_6, .ref a_7, .ref a_8, .ref a_9, .ref a_10, .ref a_11, .ref a_12])), (a_6, .inl (cy 1, 210, .inl z16_2_98))] → va_S A s.heap H locs → ∀ (ls : Array Slot), lv_has ls 6 [(5, .int x16_5_97), (4, .int v3), (0, .ref a_0), (1, .int i_0), (2, .int i_1), (3, .int i_2)] → W p l e R s m args below meth c H locs 0 0 Q (F0 m 16 ls []) := by
    intro n
    induction n with
    | zero => intro x16_5_97 z16_2_98 rx16_5_97 rz16_2_98 hm; exact absurd hm (Nat.not_lt_zero _)
    | succ n ih16 =>
      intro x16_5_97 z16_2_98 rx16_5_97 rz16_2_98 hm16 H locs hP hD hS ls hl
      refine lv_iload hx hb dX7_shiftAll_16 (lv_at hl 0 rfl) ?_
      refine lv_iload hx hb dX7_shiftAll_18 (lv_at hl 1 rfl) ?_
      refine lv_icmp_ge (tgt := 47) hx hb dX7_shiftAll_20 (by decide) (fun c100 => ?_) (fun c100 => ?_)
      · have q101 := mm_leR (mm_le c100) rv3 rx16_5_97
        subst hAe
        rw [hQ]
        exact W.vret hx hb hr (fun t ht hW => ⟨⟨z16_2_98, rfl, rz16_2_98, by rw [ht]; exact hP, hK.warm hW, hD⟩, hS.F ht⟩) hS.2.2 dX7_shiftAll_47
      · have q102 := mm_ltL (h := 9) (mm_nle c100) rx16_5_97 rv3 (by decide)
        refine lv_aload_n hx hb dX7_shiftAll_23 rfl (lv_at hl 2 rfl) ?_
        refine va_get (D := G) (ci := 7) (v := .ref a_2) (C := RX7) (T := TX7) (N := 8) hx hb hts (mm_i inlX7) hown hK.1 hP 0 rfl rfl 1 (by decide) (mm_h hts mm_w65) (fun _ h9 => h9) rfl dX7_shiftAll_24 ?_
        refine lv_iload_n hx hb dX7_shiftAll_27 rfl (lv_at hl 3 rfl) ?_
        refine lv_iload_n hx hb dX7_shiftAll_28 rfl (lv_at hl 4 rfl) ?_
        refine lv_iload hx hb dX7_shiftAll_29 (lv_at hl 0 rfl) ?_
        refine lv_iload hx hb dX7_shiftAll_31 (lv_at hl 0 rfl) ?_
        refine lv_iload_n hx hb dX7_shiftAll_33 rfl (lv_at hl 5 rfl) ?_
        refine lv_iadd hx hb dX7_shiftAll_34 ?_
        refine lv_topi (fun v103 ev103 => ?_)
        have rv103 : mm_rg v103 1 18 := mm_add ev103 q102 h2 (by decide) (by decide)
        have tv103 := mm_addE ev103 q102 h2 (by decide)
        refine lv_iload hx hb dX7_shiftAll_35 (lv_at hl 1 rfl) ?_
        refine lv_irem hx hb dX7_shiftAll_37 (mm_nz rv3 (by decide)) ?_
        refine lv_topi (fun v104 ev104 => ?_)
        have rv104 : mm_rg v104 0 9 := mm_rem ev104 rv103 rv3 (by decide) (by decide)
        refine mm_finv (va_runV (As := [.int i_0, .int i_1, .int x16_5_97, .int v104]) (rest := []) ⟨hx, hb, hml, hown, hts⟩ (K108_X0_setTaken l G cy H.size a_2 i_0 i_1 x16_5_97 v104 i_9 i_10 i_11 i_12 i_13 i_14 i_15 i_16 a_3 a_4 a_5 a_6 a_7 a_8 a_9 a_10 a_11 a_12 z16_2_98 h0 h1 q102 rv104 rz16_2_98) (cwV 4 hts (mm_gV mm_w352 mm_w353 mm_w354 mm_w28 mm_w355) rfl rfl rfl hd_X0_setTaken ⟨by rw [hRf]; exact Nat.le_of_ble_eq_true rfl, by rw [hRl]; exact Nat.le_of_ble_eq_true rfl⟩) (mm_preV hK hZ hS hA hP hD [1, 2] rfl rfl 1 rfl rfl rfl) rfl rfl hl.1 rfl (lv_room (Nat.le_of_ble_eq_true rfl)) dX7_shiftAll_38 ⟨by rw [hRc]; exact Nat.le_of_ble_eq_true rfl, by rw [hRs]; exact Nat.le_of_ble_eq_true rfl⟩) hP hD hS hA (fun u : (Nat → Int32) => [(a_0, .inr (7, [.ref a_1, .ref a_2, .int i_3, .int i_4, .int i_5, .int i_6, .int i_7, .int i_8])), (a_2, .inr (0, [.int i_9, .int i_10, .int i_11, .int i_12, .int i_13, .int i_14, .int i_15, .int i_16, .ref a_3, .ref a_4, .ref a_5, .ref a_6, .ref a_7, .ref a_8, .ref a_9, .ref a_10, .ref a_11, .ref a_12])), (a_6, .inl (cy 1, 210, .inl u))]) [1, 2] [0] (n := 3) (fun _ => rfl) (by decide +kernel) (by decide +kernel) rfl (fun _ => rfl) (wr := [(a_0, .inr (7, [.ref a_1, .ref a_2, .int i_3, .int i_4, .int i_5, .int i_6, .int i_7, .int i_8]))]) rfl (fun _ => rfl) (fun _ => rfl) ?_
        clear hP hD hS
        clear H locs
        intro n105 H locs hw (hP : va_P G vwCl [(a_0, .inr (7, [.ref a_1, .ref a_2, .int i_3, .int i_4, .int i_5, .int i_6, .int i_7, .int i_8])), (a_2, .inr (0, [.int i_9, .int i_10, .int i_11, .int i_12, .int i_13, .int i_14, .int i_15, .int i_16, .ref a_3, .ref a_4, .ref a_5, .ref a_6, .ref a_7, .ref a_8, .ref a_9, .ref a_10, .ref a_11, .ref a_12])), (a_6, .inl (cy 1, 210, .inl n105))] H) (hD : va_D A [(a_0, .inr (7, [.ref a_1, .ref a_2, .int i_3, .int i_4, .int i_5, .int i_6, .int i_7, .int i_8])), (a_2, .inr (0, [.int i_9, .int i_10, .int i_11, .int i_12, .int i_13, .int i_14, .int i_15, .int i_16, .ref a_3, .ref a_4, .ref a_5, .ref a_6, .ref a_7, .ref a_8, .ref a_9, .ref a_10, .ref a_11, .ref a_12])), (a_6, .inl (cy 1, 210, .inl n105))]) hS
        have w106 := hw
        obtain ⟨v107, ev107⟩ : ∃ y : Int32, y = x16_5_97 + 1 := ⟨_, rfl⟩
        refine lv_iinc (v := v107) (lv' := [(5, .int v107), (4, .int v3), (0, .ref a_0), (1, .int i_0), (2, .int i_1), (3, .int i_2)]) hx hb dX7_shiftAll_41 hl (k := 0) rfl (by rw [ev107]; rfl) (by decide) rfl ?_
        clear hl
        clear ls
        intro ls hl
        have rv107 : mm_rg v107 1 10 := mm_add ev107 q102 mm_k1 (by decide) (by decide)
        have tv107 := mm_addEc ev107 q102 mm_k1 (by decide) (k := 1) (by decide)
        refine lv_goto (tgt := 16) hx hb dX7_shiftAll_44 (by decide) ?_
        exact ih16 v107 n105 (mm_wk rv107 (by decide)) w106 (mm_mu hm16 tv107 (by decide) (rv107).2 (by decide)) H locs hP hD hS ls (lv_sub hl [0, 1, 2, 3, 4, 5] rfl)
  exact L16_98 _ 0 f_0 (mm_wk mm_k0 (by decide)) h4 (Nat.lt_succ_self _) H locs hP hD hS ls (lv_sub hl [0, 1, 2, 3, 4, 5] rfl)

set_option maxHeartbeats 4000000 in
set_option maxRecDepth 100000 in
theorem K174_X7_takeRule (l : Launch) (G : va_G) (cy : Nat → ClassId) (sz : Nat) (a_0 : Nat) (i_0 : Int32) (a_1 : Nat) (a_2 : Nat) (i_1 : Int32) (f_0 : Nat → Int32) (a_3 : Nat) (i_2 : Int32) (i_3 : Int32) (i_4 : Int32) (i_5 : Int32) (i_6 : Int32) (i_7 : Int32) (i_8 : Int32) (i_9 : Int32) (i_10 : Int32) (i_11 : Int32) (i_12 : Int32) (i_13 : Int32) (i_14 : Int32) (i_15 : Int32) (a_4 : Nat) (a_5 : Nat) (a_6 : Nat) (a_7 : Nat) (a_8 : Nat) (a_9 : Nat) (a_10 : Nat) (a_11 : Nat) (a_12 : Nat) (a_13 : Nat) (f_1 : Nat → Int32) (f_2 : Nat → Int32) (h0 : mm_rg i_0 0 2) (h1 : mm_rg i_1 0 600) (h2 : mm_ar f_0 (-128) 127) (h3 : mm_rg i_2 0 3) (h4 : mm_rg i_4 0 5) (h5 : mm_rg i_5 0 600) (h6 : mm_rg i_6 0 600) (h7 : mm_rg i_12 0 9) (h8 : mm_ar f_1 0 7) (h9 : mm_ar f_2 0 9) (h10 : mm_rcl f_1 i_0)  : mm_CV l yX7_takeRule (mm_ws yX7_takeRule cX7_takeRule 6 (none)) ({ frames := 5, cells := 0, slots := 0, locals := 108 } : Room) G cy sz [(a_1, .inr (9, [.ref a_2, .int i_1])), (a_2, .inl (cy 0, 600, .inl f_0)), (a_0, .inr (7, [.ref a_1, .ref a_3, .int i_2, .int i_3, .int i_4, .int i_5, .int i_6, .int i_7])), (a_3, .inr (0, [.int i_8, .int i_9, .int i_10, .int i_11, .int i_12, .int i_13, .int i_14, .int i_15, .ref a_4, .ref a_5, .ref a_6, .ref a_7, .ref a_8, .ref a_9, .ref a_10, .ref a_11, .ref a_12, .ref a_13])), (a_6, .inl (cy 1, 3, .inl f_1)), (a_7, .inl (cy 1, 210, .inl f_2))] [.ref a_0, .int i_0] (fun u : Int32 × Int32 × Int32 × Int32 × Int32 × Int32 × (Nat → Int32) × (Nat → Int32) => [(a_1, .inr (9, [.ref a_2, .int i_1])), (a_2, .inl (cy 0, 600, .inl f_0)), (a_0, .inr (7, [.ref a_1, .ref a_3, .int u.1, .int u.2.1, .int u.2.2.1, .int u.2.2.2.1, .int u.2.2.2.2.1, .int u.2.2.2.2.2.1])), (a_3, .inr (0, [.int i_8, .int i_9, .int i_10, .int i_11, .int i_12, .int i_13, .int i_14, .int i_15, .ref a_4, .ref a_5, .ref a_6, .ref a_7, .ref a_8, .ref a_9, .ref a_10, .ref a_11, .ref a_12, .ref a_13])), (a_6, .inl (cy 1, 3, .inl u.2.2.2.2.2.2.1)), (a_7, .inl (cy 1, 210, .inl u.2.2.2.2.2.2.2))]) (fun u : Int32 × Int32 × Int32 × Int32 × Int32 × Int32 × (Nat → Int32) × (Nat → Int32) => mm_rg u.1 0 3 ∧ mm_rg u.2.2.1 0 5 ∧ mm_rg u.2.2.2.1 0 600 ∧ mm_rg u.2.2.2.2.1 0 600 ∧ mm_ar u.2.2.2.2.2.2.1 0 7 ∧ mm_ar u.2.2.2.2.2.2.2 0 9) 0 0 := by
  refine mm_begin (lv := [(0, .ref a_0), (1, .int i_0)]) (by decide) (Nat.le_of_ble_eq_true rfl) rfl ?_
  intro p e s m below meth c A ls R args Q H locs hRe hQ hAe hx hb hr hlocks hml hown hnm hts hsz hA hS hP hK hD hZ hl
  have hRf : R.frames = 5 := by rw [hRe]
  have hRl : R.locals = 108 := by rw [hRe]
  have hRc : R.cells = 0 := by rw [hRe]
  have hRs : R.slots = 0 := by rw [hRe]
  refine lv_aload_n hx hb dX7_takeRule_0 rfl (lv_at hl 0 rfl) ?_
  refine va_get (D := G) (ci := 7) (v := .ref a_3) (C := RX7) (T := TX7) (N := 8) hx hb hts (mm_i inlX7) hown hK.1 hP 2 rfl rfl 1 (by decide) (mm_h hts mm_w65) (fun _ h9 => h9) rfl dX7_takeRule_1 ?_
  refine va_get (D := G) (ci := 0) (v := .ref a_6) (C := RX0) (T := TX0) (N := 18) hx hb hts (mm_i inlX0) hown hK.1 hP 3 rfl rfl 10 (by decide) (mm_h hts mm_w339) (fun _ h9 => h9) rfl dX7_takeRule_4 ?_
  refine lv_iload_n hx hb dX7_takeRule_7 rfl (lv_at hl 1 rfl) ?_
  refine va_iald hx hb hK.1 hP 4 1 rfl rfl (mm_in h0 (by decide)) dX7_takeRule_8 ?_
  refine lv_topi (fun v1 ev1 => ?_)
  have rv1 : mm_rg v1 0 7 := mm_eqv ev1 (h8 _)
  have q2 : mm_rg v1 0 6 := mm_rcl_ld h10 ev1 rv1 trivial
  refine lv_istore_n (lv' := [(2, .int v1), (0, .ref a_0), (1, .int i_0)]) hx hb dX7_takeRule_9 rfl hl (by decide) rfl ?_
  clear hl
  clear ls
  intro ls hl
  refine lv_aload_n hx hb dX7_takeRule_10 rfl (lv_at hl 1 rfl) ?_
  refine va_ldcS hx hb hown (hK.2.2.2 11 "MissingMeaning$Scribe" 141 "shift" rfl) dX7_takeRule_11 ?_
  refine mm_finir (va_runV (As := [.ref (cy 122)]) (rest := []) ⟨hx, hb, hml, hown, hts⟩ (K126_X7_isName l G cy H.size a_0 a_1 a_2 i_1 f_0 a_3 i_2 i_3 i_4 i_5 i_6 i_7 h1 h2 h4 h5 h6) (cwV 1 hts (mm_gV mm_w254 mm_w255 mm_w256 mm_w19 mm_w257) rfl rfl rfl hd_X7_isName ⟨by rw [hRf]; exact Nat.le_of_ble_eq_true rfl, by rw [hRl]; exact Nat.le_of_ble_eq_true rfl⟩) (mm_preV hK hZ hS hA hP hD [0, 1, 2] rfl rfl 2 rfl rfl rfl) rfl rfl hl.1 rfl (lv_room (Nat.le_of_ble_eq_true rfl)) dX7_takeRule_13 ⟨by rw [hRc]; exact Nat.le_of_ble_eq_true rfl, by rw [hRs]; exact Nat.le_of_ble_eq_true rfl⟩) hP hD hS hA [0, 1, 2] rfl (fun _ => rfl) ?_
  clear hP hD hS
  clear H locs
  intro v3 _u H locs hw hP hD hS
  rcases hw with rfl | rfl
  · refine lv_if_eq (tgt := 39) hx hb dX7_takeRule_16 (by decide) (fun c4 => ?_) (fun c4 => ?_)
    · refine lv_aload_n hx hb dX7_takeRule_39 rfl (lv_at hl 1 rfl) ?_
      refine va_ldcS hx hb hown (hK.2.2.2 12 "MissingMeaning$Scribe" 143 "swap" rfl) dX7_takeRule_40 ?_
      refine mm_finir (va_runV (As := [.ref (cy 124)]) (rest := []) ⟨hx, hb, hml, hown, hts⟩ (K140_X7_isName l G cy H.size a_0 a_1 a_2 i_1 f_0 a_3 i_2 i_3 i_4 i_5 i_6 i_7 h1 h2 h4 h5 h6) (cwV 1 hts (mm_gV mm_w254 mm_w255 mm_w256 mm_w19 mm_w257) rfl rfl rfl hd_X7_isName ⟨by rw [hRf]; exact Nat.le_of_ble_eq_true rfl, by rw [hRl]; exact Nat.le_of_ble_eq_true rfl⟩) (mm_preV hK hZ hS hA hP hD [0, 1, 2] rfl rfl 2 rfl rfl rfl) rfl rfl hl.1 rfl (lv_room (Nat.le_of_ble_eq_true rfl)) dX7_takeRule_42 ⟨by rw [hRc]; exact Nat.le_of_ble_eq_true rfl, by rw [hRs]; exact Nat.le_of_ble_eq_true rfl⟩) hP hD hS hA [0, 1, 2] rfl (fun _ => rfl) ?_
      clear hP hD hS
      clear H locs
      intro v5 _u H locs hw hP hD hS
      rcases hw with rfl | rfl
      · refine lv_if_eq (tgt := 111) hx hb dX7_takeRule_45 (by decide) (fun c6 => ?_) (fun c6 => ?_)
        · refine lv_aload_n hx hb dX7_takeRule_111 rfl (lv_at hl 1 rfl) ?_
          refine va_ldcS hx hb hown (hK.2.2.2 13 "MissingMeaning$Scribe" 152 "turn" rfl) dX7_takeRule_112 ?_
          refine mm_finir (va_runV (As := [.ref (cy 126)]) (rest := []) ⟨hx, hb, hml, hown, hts⟩ (K154_X7_isName l G cy H.size a_0 a_1 a_2 i_1 f_0 a_3 i_2 i_3 i_4 i_5 i_6 i_7 h1 h2 h4 h5 h6) (cwV 1 hts (mm_gV mm_w254 mm_w255 mm_w256 mm_w19 mm_w257) rfl rfl rfl hd_X7_isName ⟨by rw [hRf]; exact Nat.le_of_ble_eq_true rfl, by rw [hRl]; exact Nat.le_of_ble_eq_true rfl⟩) (mm_preV hK hZ hS hA hP hD [0, 1, 2] rfl rfl 2 rfl rfl rfl) rfl rfl hl.1 rfl (lv_room (Nat.le_of_ble_eq_true rfl)) dX7_takeRule_114 ⟨by rw [hRc]; exact Nat.le_of_ble_eq_true rfl, by rw [hRs]; exact Nat.le_of_ble_eq_true rfl⟩) hP hD hS hA [0, 1, 2] rfl (fun _ => rfl) ?_
          clear hP hD hS
          clear H locs
          intro v7 _u H locs hw hP hD hS
          rcases hw with rfl | rfl
          · refine lv_if_eq (tgt := 221) hx hb dX7_takeRule_117 (by decide) (fun c8 => ?_) (fun c8 => ?_)
            · refine lv_aload_n hx hb dX7_takeRule_221 rfl (lv_at hl 1 rfl) ?_
              refine lv_aload_n hx hb dX7_takeRule_222 rfl (lv_at hl 1 rfl) ?_
              refine va_ldcS hx hb hown (hK.2.2.2 14 "MissingMeaning$Scribe" 154 "rest" rfl) dX7_takeRule_223 ?_
              refine mm_finir (va_runV (As := [.ref (cy 128)]) (rest := [.ref a_0]) ⟨hx, hb, hml, hown, hts⟩ (K168_X7_isName l G cy H.size a_0 a_1 a_2 i_1 f_0 a_3 i_2 i_3 i_4 i_5 i_6 i_7 h1 h2 h4 h5 h6) (cwV 1 hts (mm_gV mm_w254 mm_w255 mm_w256 mm_w19 mm_w257) rfl rfl rfl hd_X7_isName ⟨by rw [hRf]; exact Nat.le_of_ble_eq_true rfl, by rw [hRl]; exact Nat.le_of_ble_eq_true rfl⟩) (mm_preV hK hZ hS hA hP hD [0, 1, 2] rfl rfl 2 rfl rfl rfl) rfl rfl hl.1 rfl (lv_room (Nat.le_of_ble_eq_true rfl)) dX7_takeRule_225 ⟨by rw [hRc]; exact Nat.le_of_ble_eq_true rfl, by rw [hRs]; exact Nat.le_of_ble_eq_true rfl⟩) hP hD hS hA [0, 1, 2] rfl (fun _ => rfl) ?_
              clear hP hD hS
              clear H locs
              intro v9 _u H locs hw hP hD hS
              rcases hw with rfl | rfl
              · refine mm_finv (va_runV (As := [.int 0]) (rest := []) ⟨hx, hb, hml, hown, hts⟩ (K169_X7_takeIf l G cy H.size a_0 a_1 a_3 i_2 i_3 i_4 i_5 i_6 i_7 h3 h5) (cwV 1 hts (mm_gV mm_w307 mm_w308 mm_w309 mm_w19 mm_w310) rfl rfl rfl hd_X7_takeIf ⟨by rw [hRf]; exact Nat.le_of_ble_eq_true rfl, by rw [hRl]; exact Nat.le_of_ble_eq_true rfl⟩) (mm_preV hK hZ hS hA hP hD [2] rfl rfl 2 rfl rfl rfl) rfl rfl hl.1 rfl (lv_room (Nat.le_of_ble_eq_true rfl)) dX7_takeRule_228 ⟨by rw [hRc]; exact Nat.le_of_ble_eq_true rfl, by rw [hRs]; exact Nat.le_of_ble_eq_true rfl⟩) hP hD hS hA (fun u : Int32 × Int32 => [(a_1, .inr (9, [.ref a_2, .int i_1])), (a_2, .inl (cy 0, 600, .inl f_0)), (a_0, .inr (7, [.ref a_1, .ref a_3, .int u.1, .int u.2, .int i_4, .int i_5, .int i_6, .int i_7])), (a_3, .inr (0, [.int i_8, .int i_9, .int i_10, .int i_11, .int i_12, .int i_13, .int i_14, .int i_15, .ref a_4, .ref a_5, .ref a_6, .ref a_7, .ref a_8, .ref a_9, .ref a_10, .ref a_11, .ref a_12, .ref a_13])), (a_6, .inl (cy 1, 3, .inl f_1)), (a_7, .inl (cy 1, 210, .inl f_2))]) [2] [0, 1, 3, 4, 5] (n := 6) (fun _ => rfl) (by decide +kernel) (by decide +kernel) rfl (fun _ => rfl) (wr := [(a_1, .inr (9, [.ref a_2, .int i_1])), (a_2, .inl (cy 0, 600, .inl f_0)), (a_3, .inr (0, [.int i_8, .int i_9, .int i_10, .int i_11, .int i_12, .int i_13, .int i_14, .int i_15, .ref a_4, .ref a_5, .ref a_6, .ref a_7, .ref a_8, .ref a_9, .ref a_10, .ref a_11, .ref a_12, .ref a_13])), (a_6, .inl (cy 1, 3, .inl f_1)), (a_7, .inl (cy 1, 210, .inl f_2))]) rfl (fun _ => rfl) (fun _ => rfl) ?_
                clear hP hD hS
                clear H locs
                intro u
                obtain ⟨n10, n11⟩ := u
                intro H locs hw (hP : va_P G vwCl [(a_1, .inr (9, [.ref a_2, .int i_1])), (a_2, .inl (cy 0, 600, .inl f_0)), (a_0, .inr (7, [.ref a_1, .ref a_3, .int n10, .int n11, .int i_4, .int i_5, .int i_6, .int i_7])), (a_3, .inr (0, [.int i_8, .int i_9, .int i_10, .int i_11, .int i_12, .int i_13, .int i_14, .int i_15, .ref a_4, .ref a_5, .ref a_6, .ref a_7, .ref a_8, .ref a_9, .ref a_10, .ref a_11, .ref a_12, .ref a_13])), (a_6, .inl (cy 1, 3, .inl f_1)), (a_7, .inl (cy 1, 210, .inl f_2))] H) (hD : va_D A [(a_1, .inr (9, [.ref a_2, .int i_1])), (a_2, .inl (cy 0, 600, .inl f_0)), (a_0, .inr (7, [.ref a_1, .ref a_3, .int n10, .int n11, .int i_4, .int i_5, .int i_6, .int i_7])), (a_3, .inr (0, [.int i_8, .int i_9, .int i_10, .int i_11, .int i_12, .int i_13, .int i_14, .int i_15, .ref a_4, .ref a_5, .ref a_6, .ref a_7, .ref a_8, .ref a_9, .ref a_10, .ref a_11, .ref a_12, .ref a_13])), (a_6, .inl (cy 1, 3, .inl f_1)), (a_7, .inl (cy 1, 210, .inl f_2))]) hS
                have w12 := hw
                refine lv_aload_n hx hb dX7_takeRule_231 rfl (lv_at hl 1 rfl) ?_
                refine va_get (D := G) (ci := 7) (v := .ref a_3) (C := RX7) (T := TX7) (N := 8) hx hb hts (mm_i inlX7) hown hK.1 hP 2 rfl rfl 1 (by decide) (mm_h hts mm_w65) (fun _ h9 => h9) rfl dX7_takeRule_232 ?_
                refine va_get (D := G) (ci := 0) (v := .ref a_6) (C := RX0) (T := TX0) (N := 18) hx hb hts (mm_i inlX0) hown hK.1 hP 3 rfl rfl 10 (by decide) (mm_h hts mm_w339) (fun _ h9 => h9) rfl dX7_takeRule_235 ?_
                refine lv_iload_n hx hb dX7_takeRule_238 rfl (lv_at hl 2 rfl) ?_
                refine lv_dup2_11 hx hb dX7_takeRule_239 rfl rfl ?_
                refine va_iald hx hb hK.1 hP 4 1 rfl rfl (mm_in h0 (by decide)) dX7_takeRule_240 ?_
                refine lv_topi (fun v13 ev13 => ?_)
                have rv13 : mm_rg v13 0 7 := mm_eqv ev13 (h8 _)
                have q14 : mm_rg v13 0 6 := mm_rcl_ld h10 ev13 rv13 trivial
                obtain rfl : v1 = v13 := ev1.trans ev13.symm
                refine lv_iconst (v := 1) hx hb dX7_takeRule_241 (by decide) ?_
                refine lv_iadd hx hb dX7_takeRule_242 ?_
                refine lv_topi (fun v15 ev15 => ?_)
                have rv15 : mm_rg v15 1 7 := mm_add ev15 q2 mm_k1 (by decide) (by decide)
                have tv15 := mm_addEc ev15 q2 mm_k1 (by decide) (k := 1) (by decide)
                refine va_iast hx hb hK.1 hP hD hS 4 1 rfl rfl (mm_in h0 (by decide)) dX7_takeRule_243 ?_
                clear hP hD hS
                clear H locs
                obtain ⟨g16, eg16⟩ : ∃ z : Nat → Int32, z = upd f_1 i_0.toNatClampNeg v15 := ⟨_, rfl⟩
                rw [← eg16]
                intro H locs (hP : va_P G vwCl [(a_1, .inr (9, [.ref a_2, .int i_1])), (a_2, .inl (cy 0, 600, .inl f_0)), (a_0, .inr (7, [.ref a_1, .ref a_3, .int n10, .int n11, .int i_4, .int i_5, .int i_6, .int i_7])), (a_3, .inr (0, [.int i_8, .int i_9, .int i_10, .int i_11, .int i_12, .int i_13, .int i_14, .int i_15, .ref a_4, .ref a_5, .ref a_6, .ref a_7, .ref a_8, .ref a_9, .ref a_10, .ref a_11, .ref a_12, .ref a_13])), (a_6, .inl (cy 1, 3, .inl g16)), (a_7, .inl (cy 1, 210, .inl f_2))] H) (hD : va_D A [(a_1, .inr (9, [.ref a_2, .int i_1])), (a_2, .inl (cy 0, 600, .inl f_0)), (a_0, .inr (7, [.ref a_1, .ref a_3, .int n10, .int n11, .int i_4, .int i_5, .int i_6, .int i_7])), (a_3, .inr (0, [.int i_8, .int i_9, .int i_10, .int i_11, .int i_12, .int i_13, .int i_14, .int i_15, .ref a_4, .ref a_5, .ref a_6, .ref a_7, .ref a_8, .ref a_9, .ref a_10, .ref a_11, .ref a_12, .ref a_13])), (a_6, .inl (cy 1, 3, .inl g16)), (a_7, .inl (cy 1, 210, .inl f_2))]) hS
                have rg16 : mm_ar g16 0 7 := by rw [eg16]; exact mm_ar_upd (mm_ar_wk h8 (by decide)) (mm_wk rv15 (by decide)) _
                subst hAe
                rw [hQ]
                exact W.vret hx hb hr (fun t ht hW => ⟨⟨(n10, n11, i_4, i_5, i_6, i_7, g16, f_2), rfl, ⟨(mm_wk w12 (by decide)), h4, h5, h6, rg16, h9⟩, by rw [ht]; exact hP, hK.warm hW, hD⟩, hS.F ht⟩) hS.2.2 dX7_takeRule_244
              · refine mm_finv (va_runV (As := [.int 1]) (rest := []) ⟨hx, hb, hml, hown, hts⟩ (K170_X7_takeIf l G cy H.size a_0 a_1 a_2 i_1 f_0 a_3 i_2 i_3 i_4 i_5 i_6 i_7 h1 h2 h3 h4 h5 h6) (cwV 1 hts (mm_gV mm_w307 mm_w308 mm_w309 mm_w19 mm_w310) rfl rfl rfl hd_X7_takeIf ⟨by rw [hRf]; exact Nat.le_of_ble_eq_true rfl, by rw [hRl]; exact Nat.le_of_ble_eq_true rfl⟩) (mm_preV hK hZ hS hA hP hD [0, 1, 2] rfl rfl 2 rfl rfl rfl) rfl rfl hl.1 rfl (lv_room (Nat.le_of_ble_eq_true rfl)) dX7_takeRule_228 ⟨by rw [hRc]; exact Nat.le_of_ble_eq_true rfl, by rw [hRs]; exact Nat.le_of_ble_eq_true rfl⟩) hP hD hS hA (fun u : Int32 × Int32 × Int32 × Int32 => [(a_1, .inr (9, [.ref a_2, .int i_1])), (a_2, .inl (cy 0, 600, .inl f_0)), (a_0, .inr (7, [.ref a_1, .ref a_3, .int i_2, .int i_3, .int u.1, .int u.2.1, .int u.2.2.1, .int u.2.2.2])), (a_3, .inr (0, [.int i_8, .int i_9, .int i_10, .int i_11, .int i_12, .int i_13, .int i_14, .int i_15, .ref a_4, .ref a_5, .ref a_6, .ref a_7, .ref a_8, .ref a_9, .ref a_10, .ref a_11, .ref a_12, .ref a_13])), (a_6, .inl (cy 1, 3, .inl f_1)), (a_7, .inl (cy 1, 210, .inl f_2))]) [0, 1, 2] [3, 4, 5] (n := 6) (fun _ => rfl) (by decide +kernel) (by decide +kernel) rfl (fun _ => rfl) (wr := [(a_3, .inr (0, [.int i_8, .int i_9, .int i_10, .int i_11, .int i_12, .int i_13, .int i_14, .int i_15, .ref a_4, .ref a_5, .ref a_6, .ref a_7, .ref a_8, .ref a_9, .ref a_10, .ref a_11, .ref a_12, .ref a_13])), (a_6, .inl (cy 1, 3, .inl f_1)), (a_7, .inl (cy 1, 210, .inl f_2))]) rfl (fun _ => rfl) (fun _ => rfl) ?_
                clear hP hD hS
                clear H locs
                intro u
                obtain ⟨n17, n18, n19, n20⟩ := u
                intro H locs hw (hP : va_P G vwCl [(a_1, .inr (9, [.ref a_2, .int i_1])), (a_2, .inl (cy 0, 600, .inl f_0)), (a_0, .inr (7, [.ref a_1, .ref a_3, .int i_2, .int i_3, .int n17, .int n18, .int n19, .int n20])), (a_3, .inr (0, [.int i_8, .int i_9, .int i_10, .int i_11, .int i_12, .int i_13, .int i_14, .int i_15, .ref a_4, .ref a_5, .ref a_6, .ref a_7, .ref a_8, .ref a_9, .ref a_10, .ref a_11, .ref a_12, .ref a_13])), (a_6, .inl (cy 1, 3, .inl f_1)), (a_7, .inl (cy 1, 210, .inl f_2))] H) (hD : va_D A [(a_1, .inr (9, [.ref a_2, .int i_1])), (a_2, .inl (cy 0, 600, .inl f_0)), (a_0, .inr (7, [.ref a_1, .ref a_3, .int i_2, .int i_3, .int n17, .int n18, .int n19, .int n20])), (a_3, .inr (0, [.int i_8, .int i_9, .int i_10, .int i_11, .int i_12, .int i_13, .int i_14, .int i_15, .ref a_4, .ref a_5, .ref a_6, .ref a_7, .ref a_8, .ref a_9, .ref a_10, .ref a_11, .ref a_12, .ref a_13])), (a_6, .inl (cy 1, 3, .inl f_1)), (a_7, .inl (cy 1, 210, .inl f_2))]) hS
                obtain ⟨w21, w22, w23⟩ := hw
                refine lv_aload_n hx hb dX7_takeRule_231 rfl (lv_at hl 1 rfl) ?_
                refine va_get (D := G) (ci := 7) (v := .ref a_3) (C := RX7) (T := TX7) (N := 8) hx hb hts (mm_i inlX7) hown hK.1 hP 2 rfl rfl 1 (by decide) (mm_h hts mm_w65) (fun _ h9 => h9) rfl dX7_takeRule_232 ?_
                refine va_get (D := G) (ci := 0) (v := .ref a_6) (C := RX0) (T := TX0) (N := 18) hx hb hts (mm_i inlX0) hown hK.1 hP 3 rfl rfl 10 (by decide) (mm_h hts mm_w339) (fun _ h9 => h9) rfl dX7_takeRule_235 ?_
                refine lv_iload_n hx hb dX7_takeRule_238 rfl (lv_at hl 2 rfl) ?_
                refine lv_dup2_11 hx hb dX7_takeRule_239 rfl rfl ?_
                refine va_iald hx hb hK.1 hP 4 1 rfl rfl (mm_in h0 (by decide)) dX7_takeRule_240 ?_
                refine lv_topi (fun v24 ev24 => ?_)
                have rv24 : mm_rg v24 0 7 := mm_eqv ev24 (h8 _)
                have q25 : mm_rg v24 0 6 := mm_rcl_ld h10 ev24 rv24 trivial
                obtain rfl : v1 = v24 := ev1.trans ev24.symm
                refine lv_iconst (v := 1) hx hb dX7_takeRule_241 (by decide) ?_
                refine lv_iadd hx hb dX7_takeRule_242 ?_
                refine lv_topi (fun v26 ev26 => ?_)
                have rv26 : mm_rg v26 1 7 := mm_add ev26 q2 mm_k1 (by decide) (by decide)
                have tv26 := mm_addEc ev26 q2 mm_k1 (by decide) (k := 1) (by decide)
                refine va_iast hx hb hK.1 hP hD hS 4 1 rfl rfl (mm_in h0 (by decide)) dX7_takeRule_243 ?_
                clear hP hD hS
                clear H locs
                obtain ⟨g27, eg27⟩ : ∃ z : Nat → Int32, z = upd f_1 i_0.toNatClampNeg v26 := ⟨_, rfl⟩
                rw [← eg27]
                intro H locs (hP : va_P G vwCl [(a_1, .inr (9, [.ref a_2, .int i_1])), (a_2, .inl (cy 0, 600, .inl f_0)), (a_0, .inr (7, [.ref a_1, .ref a_3, .int i_2, .int i_3, .int n17, .int n18, .int n19, .int n20])), (a_3, .inr (0, [.int i_8, .int i_9, .int i_10, .int i_11, .int i_12, .int i_13, .int i_14, .int i_15, .ref a_4, .ref a_5, .ref a_6, .ref a_7, .ref a_8, .ref a_9, .ref a_10, .ref a_11, .ref a_12, .ref a_13])), (a_6, .inl (cy 1, 3, .inl g27)), (a_7, .inl (cy 1, 210, .inl f_2))] H) (hD : va_D A [(a_1, .inr (9, [.ref a_2, .int i_1])), (a_2, .inl (cy 0, 600, .inl f_0)), (a_0, .inr (7, [.ref a_1, .ref a_3, .int i_2, .int i_3, .int n17, .int n18, .int n19, .int n20])), (a_3, .inr (0, [.int i_8, .int i_9, .int i_10, .int i_11, .int i_12, .int i_13, .int i_14, .int i_15, .ref a_4, .ref a_5, .ref a_6, .ref a_7, .ref a_8, .ref a_9, .ref a_10, .ref a_11, .ref a_12, .ref a_13])), (a_6, .inl (cy 1, 3, .inl g27)), (a_7, .inl (cy 1, 210, .inl f_2))]) hS
                have rg27 : mm_ar g27 0 7 := by rw [eg27]; exact mm_ar_upd (mm_ar_wk h8 (by decide)) (mm_wk rv26 (by decide)) _
                subst hAe
                rw [hQ]
                exact W.vret hx hb hr (fun t ht hW => ⟨⟨(i_2, i_3, n17, n18, n19, n20, g27, f_2), rfl, ⟨h3, w21, w22, w23, rg27, h9⟩, by rw [ht]; exact hP, hK.warm hW, hD⟩, hS.F ht⟩) hS.2.2 dX7_takeRule_244
            · have q28 := mm_neL (lo := 1) (mm_ne c8) mm_k0 mm_k0 (by decide) (by decide)
              exact mm_no q28 (by decide)
          · refine lv_if_eq (tgt := 221) hx hb dX7_takeRule_117 (by decide) (fun c29 => ?_) (fun c29 => ?_)
            · exact mm_eqN c29.symm mm_k0 mm_k1 (by decide)
            · refine lv_aload_n hx hb dX7_takeRule_120 rfl (lv_at hl 1 rfl) ?_
              refine mm_finv (va_runV (As := []) (rest := []) ⟨hx, hb, hml, hown, hts⟩ (K9_X7_nextToken l G cy H.size a_0 a_1 a_2 i_1 f_0 a_3 i_2 i_3 i_4 i_5 i_6 i_7 h1 h2 h4 h5 h6) (cwV 0 hts (mm_gV mm_w227 mm_w228 mm_w229 mm_w19 mm_w230) rfl rfl rfl hd_X7_nextToken ⟨by rw [hRf]; exact Nat.le_of_ble_eq_true rfl, by rw [hRl]; exact Nat.le_of_ble_eq_true rfl⟩) (mm_preV hK hZ hS hA hP hD [0, 1, 2] rfl rfl 2 rfl rfl rfl) rfl rfl hl.1 rfl (lv_room (Nat.le_of_ble_eq_true rfl)) dX7_takeRule_121 ⟨by rw [hRc]; exact Nat.le_of_ble_eq_true rfl, by rw [hRs]; exact Nat.le_of_ble_eq_true rfl⟩) hP hD hS hA (fun u : Int32 × Int32 × Int32 × Int32 => [(a_1, .inr (9, [.ref a_2, .int i_1])), (a_2, .inl (cy 0, 600, .inl f_0)), (a_0, .inr (7, [.ref a_1, .ref a_3, .int i_2, .int i_3, .int u.1, .int u.2.1, .int u.2.2.1, .int u.2.2.2])), (a_3, .inr (0, [.int i_8, .int i_9, .int i_10, .int i_11, .int i_12, .int i_13, .int i_14, .int i_15, .ref a_4, .ref a_5, .ref a_6, .ref a_7, .ref a_8, .ref a_9, .ref a_10, .ref a_11, .ref a_12, .ref a_13])), (a_6, .inl (cy 1, 3, .inl f_1)), (a_7, .inl (cy 1, 210, .inl f_2))]) [0, 1, 2] [3, 4, 5] (n := 6) (fun _ => rfl) (by decide +kernel) (by decide +kernel) rfl (fun _ => rfl) (wr := [(a_3, .inr (0, [.int i_8, .int i_9, .int i_10, .int i_11, .int i_12, .int i_13, .int i_14, .int i_15, .ref a_4, .ref a_5, .ref a_6, .ref a_7, .ref a_8, .ref a_9, .ref a_10, .ref a_11, .ref a_12, .ref a_13])), (a_6, .inl (cy 1, 3, .inl f_1)), (a_7, .inl (cy 1, 210, .inl f_2))]) rfl (fun _ => rfl) (fun _ => rfl) ?_
              clear hP hD hS
              clear H locs
              intro u
              obtain ⟨n30, n31, n32, n33⟩ := u
              intro H locs hw (hP : va_P G vwCl [(a_1, .inr (9, [.ref a_2, .int i_1])), (a_2, .inl (cy 0, 600, .inl f_0)), (a_0, .inr (7, [.ref a_1, .ref a_3, .int i_2, .int i_3, .int n30, .int n31, .int n32, .int n33])), (a_3, .inr (0, [.int i_8, .int i_9, .int i_10, .int i_11, .int i_12, .int i_13, .int i_14, .int i_15, .ref a_4, .ref a_5, .ref a_6, .ref a_7, .ref a_8, .ref a_9, .ref a_10, .ref a_11, .ref a_12, .ref a_13])), (a_6, .inl (cy 1, 3, .inl f_1)), (a_7, .inl (cy 1, 210, .inl f_2))] H) (hD : va_D A [(a_1, .inr (9, [.ref a_2, .int i_1])), (a_2, .inl (cy 0, 600, .inl f_0)), (a_0, .inr (7, [.ref a_1, .ref a_3, .int i_2, .int i_3, .int n30, .int n31, .int n32, .int n33])), (a_3, .inr (0, [.int i_8, .int i_9, .int i_10, .int i_11, .int i_12, .int i_13, .int i_14, .int i_15, .ref a_4, .ref a_5, .ref a_6, .ref a_7, .ref a_8, .ref a_9, .ref a_10, .ref a_11, .ref a_12, .ref a_13])), (a_6, .inl (cy 1, 3, .inl f_1)), (a_7, .inl (cy 1, 210, .inl f_2))]) hS
              obtain ⟨w34, w35, w36⟩ := hw
              refine lv_aload_n hx hb dX7_takeRule_124 rfl (lv_at hl 1 rfl) ?_
              refine lv_iconst (v := 0) hx hb dX7_takeRule_125 (by decide) ?_
              refine lv_aload_n hx hb dX7_takeRule_126 rfl (lv_at hl 1 rfl) ?_
              refine va_get (D := G) (ci := 7) (v := .ref a_3) (C := RX7) (T := TX7) (N := 8) hx hb hts (mm_i inlX7) hown hK.1 hP 2 rfl rfl 1 (by decide) (mm_h hts mm_w65) (fun _ h9 => h9) rfl dX7_takeRule_127 ?_
              refine va_get (D := G) (ci := 0) (v := .int i_12) (C := RX0) (T := TX0) (N := 18) hx hb hts (mm_i inlX0) hown hK.1 hP 3 rfl rfl 4 (by decide) (mm_h hts mm_w324) (fun _ h9 => h9) rfl dX7_takeRule_130 ?_
              refine mm_fini (va_runV (As := [.int 0, .int i_12]) (rest := []) ⟨hx, hb, hml, hown, hts⟩ (K103_X7_takeNumber l G cy H.size a_0 i_12 a_1 a_2 i_1 f_0 a_3 i_2 i_3 n30 n31 n32 n33 h7 h1 h2 h3 w34 w35 w36) (cwV 2 hts (mm_gV mm_w315 mm_w316 mm_w317 mm_w19 mm_w318) rfl rfl rfl hd_X7_takeNumber ⟨by rw [hRf]; exact Nat.le_of_ble_eq_true rfl, by rw [hRl]; exact Nat.le_of_ble_eq_true rfl⟩) (mm_preV hK hZ hS hA hP hD [0, 1, 2] rfl rfl 2 rfl rfl rfl) rfl rfl hl.1 rfl (lv_room (Nat.le_of_ble_eq_true rfl)) dX7_takeRule_133 ⟨by rw [hRc]; exact Nat.le_of_ble_eq_true rfl, by rw [hRs]; exact Nat.le_of_ble_eq_true rfl⟩) hP hD hS hA (fun u : Int32 × Int32 × Int32 × Int32 × Int32 × Int32 => [(a_1, .inr (9, [.ref a_2, .int i_1])), (a_2, .inl (cy 0, 600, .inl f_0)), (a_0, .inr (7, [.ref a_1, .ref a_3, .int u.1, .int u.2.1, .int u.2.2.1, .int u.2.2.2.1, .int u.2.2.2.2.1, .int u.2.2.2.2.2])), (a_3, .inr (0, [.int i_8, .int i_9, .int i_10, .int i_11, .int i_12, .int i_13, .int i_14, .int i_15, .ref a_4, .ref a_5, .ref a_6, .ref a_7, .ref a_8, .ref a_9, .ref a_10, .ref a_11, .ref a_12, .ref a_13])), (a_6, .inl (cy 1, 3, .inl f_1)), (a_7, .inl (cy 1, 210, .inl f_2))]) [0, 1, 2] [3, 4, 5] (n := 6) (fun _ => rfl) (by decide +kernel) (by decide +kernel) rfl (fun _ => rfl) (wr := [(a_3, .inr (0, [.int i_8, .int i_9, .int i_10, .int i_11, .int i_12, .int i_13, .int i_14, .int i_15, .ref a_4, .ref a_5, .ref a_6, .ref a_7, .ref a_8, .ref a_9, .ref a_10, .ref a_11, .ref a_12, .ref a_13])), (a_6, .inl (cy 1, 3, .inl f_1)), (a_7, .inl (cy 1, 210, .inl f_2))]) rfl (fun _ => rfl) (fun _ => rfl) ?_
              clear hP hD hS
              clear H locs
              intro v43 u
              obtain ⟨n37, n38, n39, n40, n41, n42⟩ := u
              intro H locs hw (hP : va_P G vwCl [(a_1, .inr (9, [.ref a_2, .int i_1])), (a_2, .inl (cy 0, 600, .inl f_0)), (a_0, .inr (7, [.ref a_1, .ref a_3, .int n37, .int n38, .int n39, .int n40, .int n41, .int n42])), (a_3, .inr (0, [.int i_8, .int i_9, .int i_10, .int i_11, .int i_12, .int i_13, .int i_14, .int i_15, .ref a_4, .ref a_5, .ref a_6, .ref a_7, .ref a_8, .ref a_9, .ref a_10, .ref a_11, .ref a_12, .ref a_13])), (a_6, .inl (cy 1, 3, .inl f_1)), (a_7, .inl (cy 1, 210, .inl f_2))] H) (hD : va_D A [(a_1, .inr (9, [.ref a_2, .int i_1])), (a_2, .inl (cy 0, 600, .inl f_0)), (a_0, .inr (7, [.ref a_1, .ref a_3, .int n37, .int n38, .int n39, .int n40, .int n41, .int n42])), (a_3, .inr (0, [.int i_8, .int i_9, .int i_10, .int i_11, .int i_12, .int i_13, .int i_14, .int i_15, .ref a_4, .ref a_5, .ref a_6, .ref a_7, .ref a_8, .ref a_9, .ref a_10, .ref a_11, .ref a_12, .ref a_13])), (a_6, .inl (cy 1, 3, .inl f_1)), (a_7, .inl (cy 1, 210, .inl f_2))]) hS
              obtain ⟨w44, w45, w46, w47, hw⟩ := hw
              have w48 := hw
              refine lv_istore_n (lv' := [(3, .int v43), (2, .int v1), (0, .ref a_0), (1, .int i_0)]) hx hb dX7_takeRule_136 rfl hl (by decide) rfl ?_
              clear hl
              clear ls
              intro ls hl
              refine lv_aload_n hx hb dX7_takeRule_137 rfl (lv_at hl 2 rfl) ?_
              refine lv_iload_n hx hb dX7_takeRule_138 rfl (lv_at hl 0 rfl) ?_
              refine mm_finv (va_runV (As := [.int v43]) (rest := []) ⟨hx, hb, hml, hown, hts⟩ (K171_X7_refuse l G cy H.size a_0 v43 a_1 a_3 n37 n38 n39 n40 n41 n42 w48 w44 w45 w46) (cwV 1 hts (mm_gV mm_w360 mm_w361 mm_w362 mm_w19 mm_w363) rfl rfl rfl hd_X7_refuse ⟨by rw [hRf]; exact Nat.le_of_ble_eq_true rfl, by rw [hRl]; exact Nat.le_of_ble_eq_true rfl⟩) (mm_preV hK hZ hS hA hP hD [2] rfl rfl 2 rfl rfl rfl) rfl rfl hl.1 rfl (lv_room (Nat.le_of_ble_eq_true rfl)) dX7_takeRule_139 ⟨by rw [hRc]; exact Nat.le_of_ble_eq_true rfl, by rw [hRs]; exact Nat.le_of_ble_eq_true rfl⟩) hP hD hS hA (fun u : Int32 × Int32 => [(a_1, .inr (9, [.ref a_2, .int i_1])), (a_2, .inl (cy 0, 600, .inl f_0)), (a_0, .inr (7, [.ref a_1, .ref a_3, .int u.1, .int u.2, .int n39, .int n40, .int n41, .int n42])), (a_3, .inr (0, [.int i_8, .int i_9, .int i_10, .int i_11, .int i_12, .int i_13, .int i_14, .int i_15, .ref a_4, .ref a_5, .ref a_6, .ref a_7, .ref a_8, .ref a_9, .ref a_10, .ref a_11, .ref a_12, .ref a_13])), (a_6, .inl (cy 1, 3, .inl f_1)), (a_7, .inl (cy 1, 210, .inl f_2))]) [2] [0, 1, 3, 4, 5] (n := 6) (fun _ => rfl) (by decide +kernel) (by decide +kernel) rfl (fun _ => rfl) (wr := [(a_1, .inr (9, [.ref a_2, .int i_1])), (a_2, .inl (cy 0, 600, .inl f_0)), (a_3, .inr (0, [.int i_8, .int i_9, .int i_10, .int i_11, .int i_12, .int i_13, .int i_14, .int i_15, .ref a_4, .ref a_5, .ref a_6, .ref a_7, .ref a_8, .ref a_9, .ref a_10, .ref a_11, .ref a_12, .ref a_13])), (a_6, .inl (cy 1, 3, .inl f_1)), (a_7, .inl (cy 1, 210, .inl f_2))]) rfl (fun _ => rfl) (fun _ => rfl) ?_
              clear hP hD hS
              clear H locs
              intro u
              obtain ⟨n49, n50⟩ := u
              intro H locs hw (hP : va_P G vwCl [(a_1, .inr (9, [.ref a_2, .int i_1])), (a_2, .inl (cy 0, 600, .inl f_0)), (a_0, .inr (7, [.ref a_1, .ref a_3, .int n49, .int n50, .int n39, .int n40, .int n41, .int n42])), (a_3, .inr (0, [.int i_8, .int i_9, .int i_10, .int i_11, .int i_12, .int i_13, .int i_14, .int i_15, .ref a_4, .ref a_5, .ref a_6, .ref a_7, .ref a_8, .ref a_9, .ref a_10, .ref a_11, .ref a_12, .ref a_13])), (a_6, .inl (cy 1, 3, .inl f_1)), (a_7, .inl (cy 1, 210, .inl f_2))] H) (hD : va_D A [(a_1, .inr (9, [.ref a_2, .int i_1])), (a_2, .inl (cy 0, 600, .inl f_0)), (a_0, .inr (7, [.ref a_1, .ref a_3, .int n49, .int n50, .int n39, .int n40, .int n41, .int n42])), (a_3, .inr (0, [.int i_8, .int i_9, .int i_10, .int i_11, .int i_12, .int i_13, .int i_14, .int i_15, .ref a_4, .ref a_5, .ref a_6, .ref a_7, .ref a_8, .ref a_9, .ref a_10, .ref a_11, .ref a_12, .ref a_13])), (a_6, .inl (cy 1, 3, .inl f_1)), (a_7, .inl (cy 1, 210, .inl f_2))]) hS
              have w51 := hw
              refine lv_aload_n hx hb dX7_takeRule_142 rfl (lv_at hl 2 rfl) ?_
              refine lv_iconst (v := 0) hx hb dX7_takeRule_143 (by decide) ?_
              refine lv_aload_n hx hb dX7_takeRule_144 rfl (lv_at hl 2 rfl) ?_
              refine va_get (D := G) (ci := 7) (v := .ref a_3) (C := RX7) (T := TX7) (N := 8) hx hb hts (mm_i inlX7) hown hK.1 hP 2 rfl rfl 1 (by decide) (mm_h hts mm_w65) (fun _ h9 => h9) rfl dX7_takeRule_145 ?_
              refine va_get (D := G) (ci := 0) (v := .int i_12) (C := RX0) (T := TX0) (N := 18) hx hb hts (mm_i inlX0) hown hK.1 hP 3 rfl rfl 4 (by decide) (mm_h hts mm_w324) (fun _ h9 => h9) rfl dX7_takeRule_148 ?_
              refine mm_fini (va_runV (As := [.int 0, .int i_12]) (rest := []) ⟨hx, hb, hml, hown, hts⟩ (K103_X7_takeNumber l G cy H.size a_0 i_12 a_1 a_2 i_1 f_0 a_3 n49 n50 n39 n40 n41 n42 h7 h1 h2 w51 w45 w46 w47) (cwV 2 hts (mm_gV mm_w315 mm_w316 mm_w317 mm_w19 mm_w318) rfl rfl rfl hd_X7_takeNumber ⟨by rw [hRf]; exact Nat.le_of_ble_eq_true rfl, by rw [hRl]; exact Nat.le_of_ble_eq_true rfl⟩) (mm_preV hK hZ hS hA hP hD [0, 1, 2] rfl rfl 2 rfl rfl rfl) rfl rfl hl.1 rfl (lv_room (Nat.le_of_ble_eq_true rfl)) dX7_takeRule_151 ⟨by rw [hRc]; exact Nat.le_of_ble_eq_true rfl, by rw [hRs]; exact Nat.le_of_ble_eq_true rfl⟩) hP hD hS hA (fun u : Int32 × Int32 × Int32 × Int32 × Int32 × Int32 => [(a_1, .inr (9, [.ref a_2, .int i_1])), (a_2, .inl (cy 0, 600, .inl f_0)), (a_0, .inr (7, [.ref a_1, .ref a_3, .int u.1, .int u.2.1, .int u.2.2.1, .int u.2.2.2.1, .int u.2.2.2.2.1, .int u.2.2.2.2.2])), (a_3, .inr (0, [.int i_8, .int i_9, .int i_10, .int i_11, .int i_12, .int i_13, .int i_14, .int i_15, .ref a_4, .ref a_5, .ref a_6, .ref a_7, .ref a_8, .ref a_9, .ref a_10, .ref a_11, .ref a_12, .ref a_13])), (a_6, .inl (cy 1, 3, .inl f_1)), (a_7, .inl (cy 1, 210, .inl f_2))]) [0, 1, 2] [3, 4, 5] (n := 6) (fun _ => rfl) (by decide +kernel) (by decide +kernel) rfl (fun _ => rfl) (wr := [(a_3, .inr (0, [.int i_8, .int i_9, .int i_10, .int i_11, .int i_12, .int i_13, .int i_14, .int i_15, .ref a_4, .ref a_5, .ref a_6, .ref a_7, .ref a_8, .ref a_9, .ref a_10, .ref a_11, .ref a_12, .ref a_13])), (a_6, .inl (cy 1, 3, .inl f_1)), (a_7, .inl (cy 1, 210, .inl f_2))]) rfl (fun _ => rfl) (fun _ => rfl) ?_
              clear hP hD hS
              clear H locs
              intro v58 u
              obtain ⟨n52, n53, n54, n55, n56, n57⟩ := u
              intro H locs hw (hP : va_P G vwCl [(a_1, .inr (9, [.ref a_2, .int i_1])), (a_2, .inl (cy 0, 600, .inl f_0)), (a_0, .inr (7, [.ref a_1, .ref a_3, .int n52, .int n53, .int n54, .int n55, .int n56, .int n57])), (a_3, .inr (0, [.int i_8, .int i_9, .int i_10, .int i_11, .int i_12, .int i_13, .int i_14, .int i_15, .ref a_4, .ref a_5, .ref a_6, .ref a_7, .ref a_8, .ref a_9, .ref a_10, .ref a_11, .ref a_12, .ref a_13])), (a_6, .inl (cy 1, 3, .inl f_1)), (a_7, .inl (cy 1, 210, .inl f_2))] H) (hD : va_D A [(a_1, .inr (9, [.ref a_2, .int i_1])), (a_2, .inl (cy 0, 600, .inl f_0)), (a_0, .inr (7, [.ref a_1, .ref a_3, .int n52, .int n53, .int n54, .int n55, .int n56, .int n57])), (a_3, .inr (0, [.int i_8, .int i_9, .int i_10, .int i_11, .int i_12, .int i_13, .int i_14, .int i_15, .ref a_4, .ref a_5, .ref a_6, .ref a_7, .ref a_8, .ref a_9, .ref a_10, .ref a_11, .ref a_12, .ref a_13])), (a_6, .inl (cy 1, 3, .inl f_1)), (a_7, .inl (cy 1, 210, .inl f_2))]) hS
              obtain ⟨w59, w60, w61, w62, hw⟩ := hw
              have w63 := hw
              refine lv_istore (lv' := [(4, .int v58), (3, .int v43), (2, .int v1), (0, .ref a_0), (1, .int i_0)]) hx hb dX7_takeRule_154 hl (by decide) rfl ?_
              clear hl
              clear ls
              intro ls hl
              refine lv_aload_n hx hb dX7_takeRule_156 rfl (lv_at hl 3 rfl) ?_
              refine lv_iload_n hx hb dX7_takeRule_157 rfl (lv_at hl 1 rfl) ?_
              refine mm_finv (va_runV (As := [.int v43]) (rest := []) ⟨hx, hb, hml, hown, hts⟩ (K171_X7_refuse l G cy H.size a_0 v43 a_1 a_3 n52 n53 n54 n55 n56 n57 w48 w59 w60 w61) (cwV 1 hts (mm_gV mm_w360 mm_w361 mm_w362 mm_w19 mm_w363) rfl rfl rfl hd_X7_refuse ⟨by rw [hRf]; exact Nat.le_of_ble_eq_true rfl, by rw [hRl]; exact Nat.le_of_ble_eq_true rfl⟩) (mm_preV hK hZ hS hA hP hD [2] rfl rfl 2 rfl rfl rfl) rfl rfl hl.1 rfl (lv_room (Nat.le_of_ble_eq_true rfl)) dX7_takeRule_158 ⟨by rw [hRc]; exact Nat.le_of_ble_eq_true rfl, by rw [hRs]; exact Nat.le_of_ble_eq_true rfl⟩) hP hD hS hA (fun u : Int32 × Int32 => [(a_1, .inr (9, [.ref a_2, .int i_1])), (a_2, .inl (cy 0, 600, .inl f_0)), (a_0, .inr (7, [.ref a_1, .ref a_3, .int u.1, .int u.2, .int n54, .int n55, .int n56, .int n57])), (a_3, .inr (0, [.int i_8, .int i_9, .int i_10, .int i_11, .int i_12, .int i_13, .int i_14, .int i_15, .ref a_4, .ref a_5, .ref a_6, .ref a_7, .ref a_8, .ref a_9, .ref a_10, .ref a_11, .ref a_12, .ref a_13])), (a_6, .inl (cy 1, 3, .inl f_1)), (a_7, .inl (cy 1, 210, .inl f_2))]) [2] [0, 1, 3, 4, 5] (n := 6) (fun _ => rfl) (by decide +kernel) (by decide +kernel) rfl (fun _ => rfl) (wr := [(a_1, .inr (9, [.ref a_2, .int i_1])), (a_2, .inl (cy 0, 600, .inl f_0)), (a_3, .inr (0, [.int i_8, .int i_9, .int i_10, .int i_11, .int i_12, .int i_13, .int i_14, .int i_15, .ref a_4, .ref a_5, .ref a_6, .ref a_7, .ref a_8, .ref a_9, .ref a_10, .ref a_11, .ref a_12, .ref a_13])), (a_6, .inl (cy 1, 3, .inl f_1)), (a_7, .inl (cy 1, 210, .inl f_2))]) rfl (fun _ => rfl) (fun _ => rfl) ?_
              clear hP hD hS
              clear H locs
              intro u
              obtain ⟨n64, n65⟩ := u
              intro H locs hw (hP : va_P G vwCl [(a_1, .inr (9, [.ref a_2, .int i_1])), (a_2, .inl (cy 0, 600, .inl f_0)), (a_0, .inr (7, [.ref a_1, .ref a_3, .int n64, .int n65, .int n54, .int n55, .int n56, .int n57])), (a_3, .inr (0, [.int i_8, .int i_9, .int i_10, .int i_11, .int i_12, .int i_13, .int i_14, .int i_15, .ref a_4, .ref a_5, .ref a_6, .ref a_7, .ref a_8, .ref a_9, .ref a_10, .ref a_11, .ref a_12, .ref a_13])), (a_6, .inl (cy 1, 3, .inl f_1)), (a_7, .inl (cy 1, 210, .inl f_2))] H) (hD : va_D A [(a_1, .inr (9, [.ref a_2, .int i_1])), (a_2, .inl (cy 0, 600, .inl f_0)), (a_0, .inr (7, [.ref a_1, .ref a_3, .int n64, .int n65, .int n54, .int n55, .int n56, .int n57])), (a_3, .inr (0, [.int i_8, .int i_9, .int i_10, .int i_11, .int i_12, .int i_13, .int i_14, .int i_15, .ref a_4, .ref a_5, .ref a_6, .ref a_7, .ref a_8, .ref a_9, .ref a_10, .ref a_11, .ref a_12, .ref a_13])), (a_6, .inl (cy 1, 3, .inl f_1)), (a_7, .inl (cy 1, 210, .inl f_2))]) hS
              have w66 := hw
              refine lv_aload_n hx hb dX7_takeRule_161 rfl (lv_at hl 3 rfl) ?_
              refine lv_iload hx hb dX7_takeRule_162 (lv_at hl 0 rfl) ?_
              refine mm_finv (va_runV (As := [.int v58]) (rest := []) ⟨hx, hb, hml, hown, hts⟩ (K171_X7_refuse l G cy H.size a_0 v58 a_1 a_3 n64 n65 n54 n55 n56 n57 w63 w66 w60 w61) (cwV 1 hts (mm_gV mm_w360 mm_w361 mm_w362 mm_w19 mm_w363) rfl rfl rfl hd_X7_refuse ⟨by rw [hRf]; exact Nat.le_of_ble_eq_true rfl, by rw [hRl]; exact Nat.le_of_ble_eq_true rfl⟩) (mm_preV hK hZ hS hA hP hD [2] rfl rfl 2 rfl rfl rfl) rfl rfl hl.1 rfl (lv_room (Nat.le_of_ble_eq_true rfl)) dX7_takeRule_164 ⟨by rw [hRc]; exact Nat.le_of_ble_eq_true rfl, by rw [hRs]; exact Nat.le_of_ble_eq_true rfl⟩) hP hD hS hA (fun u : Int32 × Int32 => [(a_1, .inr (9, [.ref a_2, .int i_1])), (a_2, .inl (cy 0, 600, .inl f_0)), (a_0, .inr (7, [.ref a_1, .ref a_3, .int u.1, .int u.2, .int n54, .int n55, .int n56, .int n57])), (a_3, .inr (0, [.int i_8, .int i_9, .int i_10, .int i_11, .int i_12, .int i_13, .int i_14, .int i_15, .ref a_4, .ref a_5, .ref a_6, .ref a_7, .ref a_8, .ref a_9, .ref a_10, .ref a_11, .ref a_12, .ref a_13])), (a_6, .inl (cy 1, 3, .inl f_1)), (a_7, .inl (cy 1, 210, .inl f_2))]) [2] [0, 1, 3, 4, 5] (n := 6) (fun _ => rfl) (by decide +kernel) (by decide +kernel) rfl (fun _ => rfl) (wr := [(a_1, .inr (9, [.ref a_2, .int i_1])), (a_2, .inl (cy 0, 600, .inl f_0)), (a_3, .inr (0, [.int i_8, .int i_9, .int i_10, .int i_11, .int i_12, .int i_13, .int i_14, .int i_15, .ref a_4, .ref a_5, .ref a_6, .ref a_7, .ref a_8, .ref a_9, .ref a_10, .ref a_11, .ref a_12, .ref a_13])), (a_6, .inl (cy 1, 3, .inl f_1)), (a_7, .inl (cy 1, 210, .inl f_2))]) rfl (fun _ => rfl) (fun _ => rfl) ?_
              clear hP hD hS
              clear H locs
              intro u
              obtain ⟨n67, n68⟩ := u
              intro H locs hw (hP : va_P G vwCl [(a_1, .inr (9, [.ref a_2, .int i_1])), (a_2, .inl (cy 0, 600, .inl f_0)), (a_0, .inr (7, [.ref a_1, .ref a_3, .int n67, .int n68, .int n54, .int n55, .int n56, .int n57])), (a_3, .inr (0, [.int i_8, .int i_9, .int i_10, .int i_11, .int i_12, .int i_13, .int i_14, .int i_15, .ref a_4, .ref a_5, .ref a_6, .ref a_7, .ref a_8, .ref a_9, .ref a_10, .ref a_11, .ref a_12, .ref a_13])), (a_6, .inl (cy 1, 3, .inl f_1)), (a_7, .inl (cy 1, 210, .inl f_2))] H) (hD : va_D A [(a_1, .inr (9, [.ref a_2, .int i_1])), (a_2, .inl (cy 0, 600, .inl f_0)), (a_0, .inr (7, [.ref a_1, .ref a_3, .int n67, .int n68, .int n54, .int n55, .int n56, .int n57])), (a_3, .inr (0, [.int i_8, .int i_9, .int i_10, .int i_11, .int i_12, .int i_13, .int i_14, .int i_15, .ref a_4, .ref a_5, .ref a_6, .ref a_7, .ref a_8, .ref a_9, .ref a_10, .ref a_11, .ref a_12, .ref a_13])), (a_6, .inl (cy 1, 3, .inl f_1)), (a_7, .inl (cy 1, 210, .inl f_2))]) hS
              have w69 := hw
              refine lv_aload_n hx hb dX7_takeRule_167 rfl (lv_at hl 3 rfl) ?_
              refine lv_iconst (v := 0) hx hb dX7_takeRule_168 (by decide) ?_
              refine lv_aload_n hx hb dX7_takeRule_169 rfl (lv_at hl 3 rfl) ?_
              refine va_get (D := G) (ci := 7) (v := .ref a_3) (C := RX7) (T := TX7) (N := 8) hx hb hts (mm_i inlX7) hown hK.1 hP 2 rfl rfl 1 (by decide) (mm_h hts mm_w65) (fun _ h9 => h9) rfl dX7_takeRule_170 ?_
              refine va_get (D := G) (ci := 0) (v := .int i_12) (C := RX0) (T := TX0) (N := 18) hx hb hts (mm_i inlX0) hown hK.1 hP 3 rfl rfl 4 (by decide) (mm_h hts mm_w324) (fun _ h9 => h9) rfl dX7_takeRule_173 ?_
              refine mm_fini (va_runV (As := [.int 0, .int i_12]) (rest := []) ⟨hx, hb, hml, hown, hts⟩ (K103_X7_takeNumber l G cy H.size a_0 i_12 a_1 a_2 i_1 f_0 a_3 n67 n68 n54 n55 n56 n57 h7 h1 h2 w69 w60 w61 w62) (cwV 2 hts (mm_gV mm_w315 mm_w316 mm_w317 mm_w19 mm_w318) rfl rfl rfl hd_X7_takeNumber ⟨by rw [hRf]; exact Nat.le_of_ble_eq_true rfl, by rw [hRl]; exact Nat.le_of_ble_eq_true rfl⟩) (mm_preV hK hZ hS hA hP hD [0, 1, 2] rfl rfl 2 rfl rfl rfl) rfl rfl hl.1 rfl (lv_room (Nat.le_of_ble_eq_true rfl)) dX7_takeRule_176 ⟨by rw [hRc]; exact Nat.le_of_ble_eq_true rfl, by rw [hRs]; exact Nat.le_of_ble_eq_true rfl⟩) hP hD hS hA (fun u : Int32 × Int32 × Int32 × Int32 × Int32 × Int32 => [(a_1, .inr (9, [.ref a_2, .int i_1])), (a_2, .inl (cy 0, 600, .inl f_0)), (a_0, .inr (7, [.ref a_1, .ref a_3, .int u.1, .int u.2.1, .int u.2.2.1, .int u.2.2.2.1, .int u.2.2.2.2.1, .int u.2.2.2.2.2])), (a_3, .inr (0, [.int i_8, .int i_9, .int i_10, .int i_11, .int i_12, .int i_13, .int i_14, .int i_15, .ref a_4, .ref a_5, .ref a_6, .ref a_7, .ref a_8, .ref a_9, .ref a_10, .ref a_11, .ref a_12, .ref a_13])), (a_6, .inl (cy 1, 3, .inl f_1)), (a_7, .inl (cy 1, 210, .inl f_2))]) [0, 1, 2] [3, 4, 5] (n := 6) (fun _ => rfl) (by decide +kernel) (by decide +kernel) rfl (fun _ => rfl) (wr := [(a_3, .inr (0, [.int i_8, .int i_9, .int i_10, .int i_11, .int i_12, .int i_13, .int i_14, .int i_15, .ref a_4, .ref a_5, .ref a_6, .ref a_7, .ref a_8, .ref a_9, .ref a_10, .ref a_11, .ref a_12, .ref a_13])), (a_6, .inl (cy 1, 3, .inl f_1)), (a_7, .inl (cy 1, 210, .inl f_2))]) rfl (fun _ => rfl) (fun _ => rfl) ?_
              clear hP hD hS
              clear H locs
              intro v76 u
              obtain ⟨n70, n71, n72, n73, n74, n75⟩ := u
              intro H locs hw (hP : va_P G vwCl [(a_1, .inr (9, [.ref a_2, .int i_1])), (a_2, .inl (cy 0, 600, .inl f_0)), (a_0, .inr (7, [.ref a_1, .ref a_3, .int n70, .int n71, .int n72, .int n73, .int n74, .int n75])), (a_3, .inr (0, [.int i_8, .int i_9, .int i_10, .int i_11, .int i_12, .int i_13, .int i_14, .int i_15, .ref a_4, .ref a_5, .ref a_6, .ref a_7, .ref a_8, .ref a_9, .ref a_10, .ref a_11, .ref a_12, .ref a_13])), (a_6, .inl (cy 1, 3, .inl f_1)), (a_7, .inl (cy 1, 210, .inl f_2))] H) (hD : va_D A [(a_1, .inr (9, [.ref a_2, .int i_1])), (a_2, .inl (cy 0, 600, .inl f_0)), (a_0, .inr (7, [.ref a_1, .ref a_3, .int n70, .int n71, .int n72, .int n73, .int n74, .int n75])), (a_3, .inr (0, [.int i_8, .int i_9, .int i_10, .int i_11, .int i_12, .int i_13, .int i_14, .int i_15, .ref a_4, .ref a_5, .ref a_6, .ref a_7, .ref a_8, .ref a_9, .ref a_10, .ref a_11, .ref a_12, .ref a_13])), (a_6, .inl (cy 1, 3, .inl f_1)), (a_7, .inl (cy 1, 210, .inl f_2))]) hS
              obtain ⟨w77, w78, w79, w80, hw⟩ := hw
              have w81 := hw
              refine lv_istore (lv' := [(5, .int v76), (4, .int v58), (3, .int v43), (2, .int v1), (0, .ref a_0), (1, .int i_0)]) hx hb dX7_takeRule_179 hl (by decide) rfl ?_
              clear hl
              clear ls
              intro ls hl
              refine lv_aload_n hx hb dX7_takeRule_181 rfl (lv_at hl 4 rfl) ?_
              refine va_get (D := G) (ci := 7) (v := .ref a_3) (C := RX7) (T := TX7) (N := 8) hx hb hts (mm_i inlX7) hown hK.1 hP 2 rfl rfl 1 (by decide) (mm_h hts mm_w65) (fun _ h9 => h9) rfl dX7_takeRule_182 ?_
              refine lv_iload_n hx hb dX7_takeRule_185 rfl (lv_at hl 5 rfl) ?_
              refine lv_iload_n hx hb dX7_takeRule_186 rfl (lv_at hl 3 rfl) ?_
              refine lv_iload_n hx hb dX7_takeRule_187 rfl (lv_at hl 2 rfl) ?_
              refine lv_iload hx hb dX7_takeRule_188 (lv_at hl 1 rfl) ?_
              refine mm_finv (va_runV (As := [.int i_0, .int v1, .int v43, .int v58]) (rest := []) ⟨hx, hb, hml, hown, hts⟩ (K108_X0_setTaken l G cy H.size a_3 i_0 v1 v43 v58 i_8 i_9 i_10 i_11 i_12 i_13 i_14 i_15 a_4 a_5 a_6 a_7 a_8 a_9 a_10 a_11 a_12 a_13 f_2 h0 q2 w48 w63 h9) (cwV 4 hts (mm_gV mm_w352 mm_w353 mm_w354 mm_w28 mm_w355) rfl rfl rfl hd_X0_setTaken ⟨by rw [hRf]; exact Nat.le_of_ble_eq_true rfl, by rw [hRl]; exact Nat.le_of_ble_eq_true rfl⟩) (mm_preV hK hZ hS hA hP hD [3, 5] rfl rfl 3 rfl rfl rfl) rfl rfl hl.1 rfl (lv_room (Nat.le_of_ble_eq_true rfl)) dX7_takeRule_190 ⟨by rw [hRc]; exact Nat.le_of_ble_eq_true rfl, by rw [hRs]; exact Nat.le_of_ble_eq_true rfl⟩) hP hD hS hA (fun u : (Nat → Int32) => [(a_1, .inr (9, [.ref a_2, .int i_1])), (a_2, .inl (cy 0, 600, .inl f_0)), (a_0, .inr (7, [.ref a_1, .ref a_3, .int n70, .int n71, .int n72, .int n73, .int n74, .int n75])), (a_3, .inr (0, [.int i_8, .int i_9, .int i_10, .int i_11, .int i_12, .int i_13, .int i_14, .int i_15, .ref a_4, .ref a_5, .ref a_6, .ref a_7, .ref a_8, .ref a_9, .ref a_10, .ref a_11, .ref a_12, .ref a_13])), (a_6, .inl (cy 1, 3, .inl f_1)), (a_7, .inl (cy 1, 210, .inl u))]) [3, 5] [0, 1, 2, 4] (n := 6) (fun _ => rfl) (by decide +kernel) (by decide +kernel) rfl (fun _ => rfl) (wr := [(a_1, .inr (9, [.ref a_2, .int i_1])), (a_2, .inl (cy 0, 600, .inl f_0)), (a_0, .inr (7, [.ref a_1, .ref a_3, .int n70, .int n71, .int n72, .int n73, .int n74, .int n75])), (a_6, .inl (cy 1, 3, .inl f_1))]) rfl (fun _ => rfl) (fun _ => rfl) ?_
              clear hP hD hS
              clear H locs
              intro n82 H locs hw (hP : va_P G vwCl [(a_1, .inr (9, [.ref a_2, .int i_1])), (a_2, .inl (cy 0, 600, .inl f_0)), (a_0, .inr (7, [.ref a_1, .ref a_3, .int n70, .int n71, .int n72, .int n73, .int n74, .int n75])), (a_3, .inr (0, [.int i_8, .int i_9, .int i_10, .int i_11, .int i_12, .int i_13, .int i_14, .int i_15, .ref a_4, .ref a_5, .ref a_6, .ref a_7, .ref a_8, .ref a_9, .ref a_10, .ref a_11, .ref a_12, .ref a_13])), (a_6, .inl (cy 1, 3, .inl f_1)), (a_7, .inl (cy 1, 210, .inl n82))] H) (hD : va_D A [(a_1, .inr (9, [.ref a_2, .int i_1])), (a_2, .inl (cy 0, 600, .inl f_0)), (a_0, .inr (7, [.ref a_1, .ref a_3, .int n70, .int n71, .int n72, .int n73, .int n74, .int n75])), (a_3, .inr (0, [.int i_8, .int i_9, .int i_10, .int i_11, .int i_12, .int i_13, .int i_14, .int i_15, .ref a_4, .ref a_5, .ref a_6, .ref a_7, .ref a_8, .ref a_9, .ref a_10, .ref a_11, .ref a_12, .ref a_13])), (a_6, .inl (cy 1, 3, .inl f_1)), (a_7, .inl (cy 1, 210, .inl n82))]) hS
              have w83 := hw
              refine lv_aload_n hx hb dX7_takeRule_193 rfl (lv_at hl 4 rfl) ?_
              refine va_get (D := G) (ci := 7) (v := .ref a_3) (C := RX7) (T := TX7) (N := 8) hx hb hts (mm_i inlX7) hown hK.1 hP 2 rfl rfl 1 (by decide) (mm_h hts mm_w65) (fun _ h9 => h9) rfl dX7_takeRule_194 ?_
              refine lv_iload_n hx hb dX7_takeRule_197 rfl (lv_at hl 5 rfl) ?_
              refine lv_iload_n hx hb dX7_takeRule_198 rfl (lv_at hl 3 rfl) ?_
              refine lv_iload hx hb dX7_takeRule_199 (lv_at hl 1 rfl) ?_
              refine lv_iload hx hb dX7_takeRule_201 (lv_at hl 0 rfl) ?_
              refine mm_finv (va_runV (As := [.int i_0, .int v1, .int v58, .int v76]) (rest := []) ⟨hx, hb, hml, hown, hts⟩ (K108_X0_setTaken l G cy H.size a_3 i_0 v1 v58 v76 i_8 i_9 i_10 i_11 i_12 i_13 i_14 i_15 a_4 a_5 a_6 a_7 a_8 a_9 a_10 a_11 a_12 a_13 n82 h0 q2 w63 w81 w83) (cwV 4 hts (mm_gV mm_w352 mm_w353 mm_w354 mm_w28 mm_w355) rfl rfl rfl hd_X0_setTaken ⟨by rw [hRf]; exact Nat.le_of_ble_eq_true rfl, by rw [hRl]; exact Nat.le_of_ble_eq_true rfl⟩) (mm_preV hK hZ hS hA hP hD [3, 5] rfl rfl 3 rfl rfl rfl) rfl rfl hl.1 rfl (lv_room (Nat.le_of_ble_eq_true rfl)) dX7_takeRule_203 ⟨by rw [hRc]; exact Nat.le_of_ble_eq_true rfl, by rw [hRs]; exact Nat.le_of_ble_eq_true rfl⟩) hP hD hS hA (fun u : (Nat → Int32) => [(a_1, .inr (9, [.ref a_2, .int i_1])), (a_2, .inl (cy 0, 600, .inl f_0)), (a_0, .inr (7, [.ref a_1, .ref a_3, .int n70, .int n71, .int n72, .int n73, .int n74, .int n75])), (a_3, .inr (0, [.int i_8, .int i_9, .int i_10, .int i_11, .int i_12, .int i_13, .int i_14, .int i_15, .ref a_4, .ref a_5, .ref a_6, .ref a_7, .ref a_8, .ref a_9, .ref a_10, .ref a_11, .ref a_12, .ref a_13])), (a_6, .inl (cy 1, 3, .inl f_1)), (a_7, .inl (cy 1, 210, .inl u))]) [3, 5] [0, 1, 2, 4] (n := 6) (fun _ => rfl) (by decide +kernel) (by decide +kernel) rfl (fun _ => rfl) (wr := [(a_1, .inr (9, [.ref a_2, .int i_1])), (a_2, .inl (cy 0, 600, .inl f_0)), (a_0, .inr (7, [.ref a_1, .ref a_3, .int n70, .int n71, .int n72, .int n73, .int n74, .int n75])), (a_6, .inl (cy 1, 3, .inl f_1))]) rfl (fun _ => rfl) (fun _ => rfl) ?_
              clear hP hD hS
              clear H locs
              intro n84 H locs hw (hP : va_P G vwCl [(a_1, .inr (9, [.ref a_2, .int i_1])), (a_2, .inl (cy 0, 600, .inl f_0)), (a_0, .inr (7, [.ref a_1, .ref a_3, .int n70, .int n71, .int n72, .int n73, .int n74, .int n75])), (a_3, .inr (0, [.int i_8, .int i_9, .int i_10, .int i_11, .int i_12, .int i_13, .int i_14, .int i_15, .ref a_4, .ref a_5, .ref a_6, .ref a_7, .ref a_8, .ref a_9, .ref a_10, .ref a_11, .ref a_12, .ref a_13])), (a_6, .inl (cy 1, 3, .inl f_1)), (a_7, .inl (cy 1, 210, .inl n84))] H) (hD : va_D A [(a_1, .inr (9, [.ref a_2, .int i_1])), (a_2, .inl (cy 0, 600, .inl f_0)), (a_0, .inr (7, [.ref a_1, .ref a_3, .int n70, .int n71, .int n72, .int n73, .int n74, .int n75])), (a_3, .inr (0, [.int i_8, .int i_9, .int i_10, .int i_11, .int i_12, .int i_13, .int i_14, .int i_15, .ref a_4, .ref a_5, .ref a_6, .ref a_7, .ref a_8, .ref a_9, .ref a_10, .ref a_11, .ref a_12, .ref a_13])), (a_6, .inl (cy 1, 3, .inl f_1)), (a_7, .inl (cy 1, 210, .inl n84))]) hS
              have w85 := hw
              refine lv_aload_n hx hb dX7_takeRule_206 rfl (lv_at hl 4 rfl) ?_
              refine va_get (D := G) (ci := 7) (v := .ref a_3) (C := RX7) (T := TX7) (N := 8) hx hb hts (mm_i inlX7) hown hK.1 hP 2 rfl rfl 1 (by decide) (mm_h hts mm_w65) (fun _ h9 => h9) rfl dX7_takeRule_207 ?_
              refine lv_iload_n hx hb dX7_takeRule_210 rfl (lv_at hl 5 rfl) ?_
              refine lv_iload_n hx hb dX7_takeRule_211 rfl (lv_at hl 3 rfl) ?_
              refine lv_iload hx hb dX7_takeRule_212 (lv_at hl 0 rfl) ?_
              refine lv_iload_n hx hb dX7_takeRule_214 rfl (lv_at hl 2 rfl) ?_
              refine mm_finv (va_runV (As := [.int i_0, .int v1, .int v76, .int v43]) (rest := []) ⟨hx, hb, hml, hown, hts⟩ (K108_X0_setTaken l G cy H.size a_3 i_0 v1 v76 v43 i_8 i_9 i_10 i_11 i_12 i_13 i_14 i_15 a_4 a_5 a_6 a_7 a_8 a_9 a_10 a_11 a_12 a_13 n84 h0 q2 w81 w48 w85) (cwV 4 hts (mm_gV mm_w352 mm_w353 mm_w354 mm_w28 mm_w355) rfl rfl rfl hd_X0_setTaken ⟨by rw [hRf]; exact Nat.le_of_ble_eq_true rfl, by rw [hRl]; exact Nat.le_of_ble_eq_true rfl⟩) (mm_preV hK hZ hS hA hP hD [3, 5] rfl rfl 3 rfl rfl rfl) rfl rfl hl.1 rfl (lv_room (Nat.le_of_ble_eq_true rfl)) dX7_takeRule_215 ⟨by rw [hRc]; exact Nat.le_of_ble_eq_true rfl, by rw [hRs]; exact Nat.le_of_ble_eq_true rfl⟩) hP hD hS hA (fun u : (Nat → Int32) => [(a_1, .inr (9, [.ref a_2, .int i_1])), (a_2, .inl (cy 0, 600, .inl f_0)), (a_0, .inr (7, [.ref a_1, .ref a_3, .int n70, .int n71, .int n72, .int n73, .int n74, .int n75])), (a_3, .inr (0, [.int i_8, .int i_9, .int i_10, .int i_11, .int i_12, .int i_13, .int i_14, .int i_15, .ref a_4, .ref a_5, .ref a_6, .ref a_7, .ref a_8, .ref a_9, .ref a_10, .ref a_11, .ref a_12, .ref a_13])), (a_6, .inl (cy 1, 3, .inl f_1)), (a_7, .inl (cy 1, 210, .inl u))]) [3, 5] [0, 1, 2, 4] (n := 6) (fun _ => rfl) (by decide +kernel) (by decide +kernel) rfl (fun _ => rfl) (wr := [(a_1, .inr (9, [.ref a_2, .int i_1])), (a_2, .inl (cy 0, 600, .inl f_0)), (a_0, .inr (7, [.ref a_1, .ref a_3, .int n70, .int n71, .int n72, .int n73, .int n74, .int n75])), (a_6, .inl (cy 1, 3, .inl f_1))]) rfl (fun _ => rfl) (fun _ => rfl) ?_
              clear hP hD hS
              clear H locs
              intro n86 H locs hw (hP : va_P G vwCl [(a_1, .inr (9, [.ref a_2, .int i_1])), (a_2, .inl (cy 0, 600, .inl f_0)), (a_0, .inr (7, [.ref a_1, .ref a_3, .int n70, .int n71, .int n72, .int n73, .int n74, .int n75])), (a_3, .inr (0, [.int i_8, .int i_9, .int i_10, .int i_11, .int i_12, .int i_13, .int i_14, .int i_15, .ref a_4, .ref a_5, .ref a_6, .ref a_7, .ref a_8, .ref a_9, .ref a_10, .ref a_11, .ref a_12, .ref a_13])), (a_6, .inl (cy 1, 3, .inl f_1)), (a_7, .inl (cy 1, 210, .inl n86))] H) (hD : va_D A [(a_1, .inr (9, [.ref a_2, .int i_1])), (a_2, .inl (cy 0, 600, .inl f_0)), (a_0, .inr (7, [.ref a_1, .ref a_3, .int n70, .int n71, .int n72, .int n73, .int n74, .int n75])), (a_3, .inr (0, [.int i_8, .int i_9, .int i_10, .int i_11, .int i_12, .int i_13, .int i_14, .int i_15, .ref a_4, .ref a_5, .ref a_6, .ref a_7, .ref a_8, .ref a_9, .ref a_10, .ref a_11, .ref a_12, .ref a_13])), (a_6, .inl (cy 1, 3, .inl f_1)), (a_7, .inl (cy 1, 210, .inl n86))]) hS
              have w87 := hw
              refine lv_goto (tgt := 231) hx hb dX7_takeRule_218 (by decide) ?_
              refine lv_aload_n hx hb dX7_takeRule_231 rfl (lv_at hl 4 rfl) ?_
              refine va_get (D := G) (ci := 7) (v := .ref a_3) (C := RX7) (T := TX7) (N := 8) hx hb hts (mm_i inlX7) hown hK.1 hP 2 rfl rfl 1 (by decide) (mm_h hts mm_w65) (fun _ h9 => h9) rfl dX7_takeRule_232 ?_
              refine va_get (D := G) (ci := 0) (v := .ref a_6) (C := RX0) (T := TX0) (N := 18) hx hb hts (mm_i inlX0) hown hK.1 hP 3 rfl rfl 10 (by decide) (mm_h hts mm_w339) (fun _ h9 => h9) rfl dX7_takeRule_235 ?_
              refine lv_iload_n hx hb dX7_takeRule_238 rfl (lv_at hl 5 rfl) ?_
              refine lv_dup2_11 hx hb dX7_takeRule_239 rfl rfl ?_
              refine va_iald hx hb hK.1 hP 4 1 rfl rfl (mm_in h0 (by decide)) dX7_takeRule_240 ?_
              refine lv_topi (fun v88 ev88 => ?_)
              have rv88 : mm_rg v88 0 7 := mm_eqv ev88 (h8 _)
              have q89 : mm_rg v88 0 6 := mm_rcl_ld h10 ev88 rv88 trivial
              obtain rfl : v1 = v88 := ev1.trans ev88.symm
              refine lv_iconst (v := 1) hx hb dX7_takeRule_241 (by decide) ?_
              refine lv_iadd hx hb dX7_takeRule_242 ?_
              refine lv_topi (fun v90 ev90 => ?_)
              have rv90 : mm_rg v90 1 7 := mm_add ev90 q2 mm_k1 (by decide) (by decide)
              have tv90 := mm_addEc ev90 q2 mm_k1 (by decide) (k := 1) (by decide)
              refine va_iast hx hb hK.1 hP hD hS 4 1 rfl rfl (mm_in h0 (by decide)) dX7_takeRule_243 ?_
              clear hP hD hS
              clear H locs
              obtain ⟨g91, eg91⟩ : ∃ z : Nat → Int32, z = upd f_1 i_0.toNatClampNeg v90 := ⟨_, rfl⟩
              rw [← eg91]
              intro H locs (hP : va_P G vwCl [(a_1, .inr (9, [.ref a_2, .int i_1])), (a_2, .inl (cy 0, 600, .inl f_0)), (a_0, .inr (7, [.ref a_1, .ref a_3, .int n70, .int n71, .int n72, .int n73, .int n74, .int n75])), (a_3, .inr (0, [.int i_8, .int i_9, .int i_10, .int i_11, .int i_12, .int i_13, .int i_14, .int i_15, .ref a_4, .ref a_5, .ref a_6, .ref a_7, .ref a_8, .ref a_9, .ref a_10, .ref a_11, .ref a_12, .ref a_13])), (a_6, .inl (cy 1, 3, .inl g91)), (a_7, .inl (cy 1, 210, .inl n86))] H) (hD : va_D A [(a_1, .inr (9, [.ref a_2, .int i_1])), (a_2, .inl (cy 0, 600, .inl f_0)), (a_0, .inr (7, [.ref a_1, .ref a_3, .int n70, .int n71, .int n72, .int n73, .int n74, .int n75])), (a_3, .inr (0, [.int i_8, .int i_9, .int i_10, .int i_11, .int i_12, .int i_13, .int i_14, .int i_15, .ref a_4, .ref a_5, .ref a_6, .ref a_7, .ref a_8, .ref a_9, .ref a_10, .ref a_11, .ref a_12, .ref a_13])), (a_6, .inl (cy 1, 3, .inl g91)), (a_7, .inl (cy 1, 210, .inl n86))]) hS
              have rg91 : mm_ar g91 0 7 := by rw [eg91]; exact mm_ar_upd (mm_ar_wk h8 (by decide)) (mm_wk rv90 (by decide)) _
              subst hAe
              rw [hQ]
              exact W.vret hx hb hr (fun t ht hW => ⟨⟨(n70, n71, n72, n73, n74, n75, g91, n86), rfl, ⟨w77, w78, w79, w80, rg91, w87⟩, by rw [ht]; exact hP, hK.warm hW, hD⟩, hS.F ht⟩) hS.2.2 dX7_takeRule_244
        · have q92 := mm_neL (lo := 1) (mm_ne c6) mm_k0 mm_k0 (by decide) (by decide)
          exact mm_no q92 (by decide)
      · refine lv_if_eq (tgt := 111) hx hb dX7_takeRule_45 (by decide) (fun c93 => ?_) (fun c93 => ?_)
        · exact mm_eqN c93.symm mm_k0 mm_k1 (by decide)
        · refine lv_aload_n hx hb dX7_takeRule_48 rfl (lv_at hl 1 rfl) ?_
          refine mm_finv (va_runV (As := []) (rest := []) ⟨hx, hb, hml, hown, hts⟩ (K9_X7_nextToken l G cy H.size a_0 a_1 a_2 i_1 f_0 a_3 i_2 i_3 i_4 i_5 i_6 i_7 h1 h2 h4 h5 h6) (cwV 0 hts (mm_gV mm_w227 mm_w228 mm_w229 mm_w19 mm_w230) rfl rfl rfl hd_X7_nextToken ⟨by rw [hRf]; exact Nat.le_of_ble_eq_true rfl, by rw [hRl]; exact Nat.le_of_ble_eq_true rfl⟩) (mm_preV hK hZ hS hA hP hD [0, 1, 2] rfl rfl 2 rfl rfl rfl) rfl rfl hl.1 rfl (lv_room (Nat.le_of_ble_eq_true rfl)) dX7_takeRule_49 ⟨by rw [hRc]; exact Nat.le_of_ble_eq_true rfl, by rw [hRs]; exact Nat.le_of_ble_eq_true rfl⟩) hP hD hS hA (fun u : Int32 × Int32 × Int32 × Int32 => [(a_1, .inr (9, [.ref a_2, .int i_1])), (a_2, .inl (cy 0, 600, .inl f_0)), (a_0, .inr (7, [.ref a_1, .ref a_3, .int i_2, .int i_3, .int u.1, .int u.2.1, .int u.2.2.1, .int u.2.2.2])), (a_3, .inr (0, [.int i_8, .int i_9, .int i_10, .int i_11, .int i_12, .int i_13, .int i_14, .int i_15, .ref a_4, .ref a_5, .ref a_6, .ref a_7, .ref a_8, .ref a_9, .ref a_10, .ref a_11, .ref a_12, .ref a_13])), (a_6, .inl (cy 1, 3, .inl f_1)), (a_7, .inl (cy 1, 210, .inl f_2))]) [0, 1, 2] [3, 4, 5] (n := 6) (fun _ => rfl) (by decide +kernel) (by decide +kernel) rfl (fun _ => rfl) (wr := [(a_3, .inr (0, [.int i_8, .int i_9, .int i_10, .int i_11, .int i_12, .int i_13, .int i_14, .int i_15, .ref a_4, .ref a_5, .ref a_6, .ref a_7, .ref a_8, .ref a_9, .ref a_10, .ref a_11, .ref a_12, .ref a_13])), (a_6, .inl (cy 1, 3, .inl f_1)), (a_7, .inl (cy 1, 210, .inl f_2))]) rfl (fun _ => rfl) (fun _ => rfl) ?_
          clear hP hD hS
          clear H locs
          intro u
          obtain ⟨n94, n95, n96, n97⟩ := u
          intro H locs hw (hP : va_P G vwCl [(a_1, .inr (9, [.ref a_2, .int i_1])), (a_2, .inl (cy 0, 600, .inl f_0)), (a_0, .inr (7, [.ref a_1, .ref a_3, .int i_2, .int i_3, .int n94, .int n95, .int n96, .int n97])), (a_3, .inr (0, [.int i_8, .int i_9, .int i_10, .int i_11, .int i_12, .int i_13, .int i_14, .int i_15, .ref a_4, .ref a_5, .ref a_6, .ref a_7, .ref a_8, .ref a_9, .ref a_10, .ref a_11, .ref a_12, .ref a_13])), (a_6, .inl (cy 1, 3, .inl f_1)), (a_7, .inl (cy 1, 210, .inl f_2))] H) (hD : va_D A [(a_1, .inr (9, [.ref a_2, .int i_1])), (a_2, .inl (cy 0, 600, .inl f_0)), (a_0, .inr (7, [.ref a_1, .ref a_3, .int i_2, .int i_3, .int n94, .int n95, .int n96, .int n97])), (a_3, .inr (0, [.int i_8, .int i_9, .int i_10, .int i_11, .int i_12, .int i_13, .int i_14, .int i_15, .ref a_4, .ref a_5, .ref a_6, .ref a_7, .ref a_8, .ref a_9, .ref a_10, .ref a_11, .ref a_12, .ref a_13])), (a_6, .inl (cy 1, 3, .inl f_1)), (a_7, .inl (cy 1, 210, .inl f_2))]) hS
          obtain ⟨w98, w99, w100⟩ := hw
          refine lv_aload_n hx hb dX7_takeRule_52 rfl (lv_at hl 1 rfl) ?_
          refine lv_iconst (v := 0) hx hb dX7_takeRule_53 (by decide) ?_
          refine lv_aload_n hx hb dX7_takeRule_54 rfl (lv_at hl 1 rfl) ?_
          refine va_get (D := G) (ci := 7) (v := .ref a_3) (C := RX7) (T := TX7) (N := 8) hx hb hts (mm_i inlX7) hown hK.1 hP 2 rfl rfl 1 (by decide) (mm_h hts mm_w65) (fun _ h9 => h9) rfl dX7_takeRule_55 ?_
          refine va_get (D := G) (ci := 0) (v := .int i_12) (C := RX0) (T := TX0) (N := 18) hx hb hts (mm_i inlX0) hown hK.1 hP 3 rfl rfl 4 (by decide) (mm_h hts mm_w324) (fun _ h9 => h9) rfl dX7_takeRule_58 ?_
          refine mm_fini (va_runV (As := [.int 0, .int i_12]) (rest := []) ⟨hx, hb, hml, hown, hts⟩ (K103_X7_takeNumber l G cy H.size a_0 i_12 a_1 a_2 i_1 f_0 a_3 i_2 i_3 n94 n95 n96 n97 h7 h1 h2 h3 w98 w99 w100) (cwV 2 hts (mm_gV mm_w315 mm_w316 mm_w317 mm_w19 mm_w318) rfl rfl rfl hd_X7_takeNumber ⟨by rw [hRf]; exact Nat.le_of_ble_eq_true rfl, by rw [hRl]; exact Nat.le_of_ble_eq_true rfl⟩) (mm_preV hK hZ hS hA hP hD [0, 1, 2] rfl rfl 2 rfl rfl rfl) rfl rfl hl.1 rfl (lv_room (Nat.le_of_ble_eq_true rfl)) dX7_takeRule_61 ⟨by rw [hRc]; exact Nat.le_of_ble_eq_true rfl, by rw [hRs]; exact Nat.le_of_ble_eq_true rfl⟩) hP hD hS hA (fun u : Int32 × Int32 × Int32 × Int32 × Int32 × Int32 => [(a_1, .inr (9, [.ref a_2, .int i_1])), (a_2, .inl (cy 0, 600, .inl f_0)), (a_0, .inr (7, [.ref a_1, .ref a_3, .int u.1, .int u.2.1, .int u.2.2.1, .int u.2.2.2.1, .int u.2.2.2.2.1, .int u.2.2.2.2.2])), (a_3, .inr (0, [.int i_8, .int i_9, .int i_10, .int i_11, .int i_12, .int i_13, .int i_14, .int i_15, .ref a_4, .ref a_5, .ref a_6, .ref a_7, .ref a_8, .ref a_9, .ref a_10, .ref a_11, .ref a_12, .ref a_13])), (a_6, .inl (cy 1, 3, .inl f_1)), (a_7, .inl (cy 1, 210, .inl f_2))]) [0, 1, 2] [3, 4, 5] (n := 6) (fun _ => rfl) (by decide +kernel) (by decide +kernel) rfl (fun _ => rfl) (wr := [(a_3, .inr (0, [.int i_8, .int i_9, .int i_10, .int i_11, .int i_12, .int i_13, .int i_14, .int i_15, .ref a_4, .ref a_5, .ref a_6, .ref a_7, .ref a_8, .ref a_9, .ref a_10, .ref a_11, .ref a_12, .ref a_13])), (a_6, .inl (cy 1, 3, .inl f_1)), (a_7, .inl (cy 1, 210, .inl f_2))]) rfl (fun _ => rfl) (fun _ => rfl) ?_
          clear hP hD hS
          clear H locs
          intro v107 u
          obtain ⟨n101, n102, n103, n104, n105, n106⟩ := u
          intro H locs hw (hP : va_P G vwCl [(a_1, .inr (9, [.ref a_2, .int i_1])), (a_2, .inl (cy 0, 600, .inl f_0)), (a_0, .inr (7, [.ref a_1, .ref a_3, .int n101, .int n102, .int n103, .int n104, .int n105, .int n106])), (a_3, .inr (0, [.int i_8, .int i_9, .int i_10, .int i_11, .int i_12, .int i_13, .int i_14, .int i_15, .ref a_4, .ref a_5, .ref a_6, .ref a_7, .ref a_8, .ref a_9, .ref a_10, .ref a_11, .ref a_12, .ref a_13])), (a_6, .inl (cy 1, 3, .inl f_1)), (a_7, .inl (cy 1, 210, .inl f_2))] H) (hD : va_D A [(a_1, .inr (9, [.ref a_2, .int i_1])), (a_2, .inl (cy 0, 600, .inl f_0)), (a_0, .inr (7, [.ref a_1, .ref a_3, .int n101, .int n102, .int n103, .int n104, .int n105, .int n106])), (a_3, .inr (0, [.int i_8, .int i_9, .int i_10, .int i_11, .int i_12, .int i_13, .int i_14, .int i_15, .ref a_4, .ref a_5, .ref a_6, .ref a_7, .ref a_8, .ref a_9, .ref a_10, .ref a_11, .ref a_12, .ref a_13])), (a_6, .inl (cy 1, 3, .inl f_1)), (a_7, .inl (cy 1, 210, .inl f_2))]) hS
          obtain ⟨w108, w109, w110, w111, hw⟩ := hw
          have w112 := hw
          refine lv_istore_n (lv' := [(3, .int v107), (2, .int v1), (0, .ref a_0), (1, .int i_0)]) hx hb dX7_takeRule_64 rfl hl (by decide) rfl ?_
          clear hl
          clear ls
          intro ls hl
          refine lv_aload_n hx hb dX7_takeRule_65 rfl (lv_at hl 2 rfl) ?_
          refine lv_iload_n hx hb dX7_takeRule_66 rfl (lv_at hl 0 rfl) ?_
          refine mm_finv (va_runV (As := [.int v107]) (rest := []) ⟨hx, hb, hml, hown, hts⟩ (K171_X7_refuse l G cy H.size a_0 v107 a_1 a_3 n101 n102 n103 n104 n105 n106 w112 w108 w109 w110) (cwV 1 hts (mm_gV mm_w360 mm_w361 mm_w362 mm_w19 mm_w363) rfl rfl rfl hd_X7_refuse ⟨by rw [hRf]; exact Nat.le_of_ble_eq_true rfl, by rw [hRl]; exact Nat.le_of_ble_eq_true rfl⟩) (mm_preV hK hZ hS hA hP hD [2] rfl rfl 2 rfl rfl rfl) rfl rfl hl.1 rfl (lv_room (Nat.le_of_ble_eq_true rfl)) dX7_takeRule_67 ⟨by rw [hRc]; exact Nat.le_of_ble_eq_true rfl, by rw [hRs]; exact Nat.le_of_ble_eq_true rfl⟩) hP hD hS hA (fun u : Int32 × Int32 => [(a_1, .inr (9, [.ref a_2, .int i_1])), (a_2, .inl (cy 0, 600, .inl f_0)), (a_0, .inr (7, [.ref a_1, .ref a_3, .int u.1, .int u.2, .int n103, .int n104, .int n105, .int n106])), (a_3, .inr (0, [.int i_8, .int i_9, .int i_10, .int i_11, .int i_12, .int i_13, .int i_14, .int i_15, .ref a_4, .ref a_5, .ref a_6, .ref a_7, .ref a_8, .ref a_9, .ref a_10, .ref a_11, .ref a_12, .ref a_13])), (a_6, .inl (cy 1, 3, .inl f_1)), (a_7, .inl (cy 1, 210, .inl f_2))]) [2] [0, 1, 3, 4, 5] (n := 6) (fun _ => rfl) (by decide +kernel) (by decide +kernel) rfl (fun _ => rfl) (wr := [(a_1, .inr (9, [.ref a_2, .int i_1])), (a_2, .inl (cy 0, 600, .inl f_0)), (a_3, .inr (0, [.int i_8, .int i_9, .int i_10, .int i_11, .int i_12, .int i_13, .int i_14, .int i_15, .ref a_4, .ref a_5, .ref a_6, .ref a_7, .ref a_8, .ref a_9, .ref a_10, .ref a_11, .ref a_12, .ref a_13])), (a_6, .inl (cy 1, 3, .inl f_1)), (a_7, .inl (cy 1, 210, .inl f_2))]) rfl (fun _ => rfl) (fun _ => rfl) ?_
          clear hP hD hS
          clear H locs
          intro u
          obtain ⟨n113, n114⟩ := u
          intro H locs hw (hP : va_P G vwCl [(a_1, .inr (9, [.ref a_2, .int i_1])), (a_2, .inl (cy 0, 600, .inl f_0)), (a_0, .inr (7, [.ref a_1, .ref a_3, .int n113, .int n114, .int n103, .int n104, .int n105, .int n106])), (a_3, .inr (0, [.int i_8, .int i_9, .int i_10, .int i_11, .int i_12, .int i_13, .int i_14, .int i_15, .ref a_4, .ref a_5, .ref a_6, .ref a_7, .ref a_8, .ref a_9, .ref a_10, .ref a_11, .ref a_12, .ref a_13])), (a_6, .inl (cy 1, 3, .inl f_1)), (a_7, .inl (cy 1, 210, .inl f_2))] H) (hD : va_D A [(a_1, .inr (9, [.ref a_2, .int i_1])), (a_2, .inl (cy 0, 600, .inl f_0)), (a_0, .inr (7, [.ref a_1, .ref a_3, .int n113, .int n114, .int n103, .int n104, .int n105, .int n106])), (a_3, .inr (0, [.int i_8, .int i_9, .int i_10, .int i_11, .int i_12, .int i_13, .int i_14, .int i_15, .ref a_4, .ref a_5, .ref a_6, .ref a_7, .ref a_8, .ref a_9, .ref a_10, .ref a_11, .ref a_12, .ref a_13])), (a_6, .inl (cy 1, 3, .inl f_1)), (a_7, .inl (cy 1, 210, .inl f_2))]) hS
          have w115 := hw
          refine lv_aload_n hx hb dX7_takeRule_70 rfl (lv_at hl 2 rfl) ?_
          refine lv_iconst (v := 0) hx hb dX7_takeRule_71 (by decide) ?_
          refine lv_aload_n hx hb dX7_takeRule_72 rfl (lv_at hl 2 rfl) ?_
          refine va_get (D := G) (ci := 7) (v := .ref a_3) (C := RX7) (T := TX7) (N := 8) hx hb hts (mm_i inlX7) hown hK.1 hP 2 rfl rfl 1 (by decide) (mm_h hts mm_w65) (fun _ h9 => h9) rfl dX7_takeRule_73 ?_
          refine va_get (D := G) (ci := 0) (v := .int i_12) (C := RX0) (T := TX0) (N := 18) hx hb hts (mm_i inlX0) hown hK.1 hP 3 rfl rfl 4 (by decide) (mm_h hts mm_w324) (fun _ h9 => h9) rfl dX7_takeRule_76 ?_
          refine mm_fini (va_runV (As := [.int 0, .int i_12]) (rest := []) ⟨hx, hb, hml, hown, hts⟩ (K103_X7_takeNumber l G cy H.size a_0 i_12 a_1 a_2 i_1 f_0 a_3 n113 n114 n103 n104 n105 n106 h7 h1 h2 w115 w109 w110 w111) (cwV 2 hts (mm_gV mm_w315 mm_w316 mm_w317 mm_w19 mm_w318) rfl rfl rfl hd_X7_takeNumber ⟨by rw [hRf]; exact Nat.le_of_ble_eq_true rfl, by rw [hRl]; exact Nat.le_of_ble_eq_true rfl⟩) (mm_preV hK hZ hS hA hP hD [0, 1, 2] rfl rfl 2 rfl rfl rfl) rfl rfl hl.1 rfl (lv_room (Nat.le_of_ble_eq_true rfl)) dX7_takeRule_79 ⟨by rw [hRc]; exact Nat.le_of_ble_eq_true rfl, by rw [hRs]; exact Nat.le_of_ble_eq_true rfl⟩) hP hD hS hA (fun u : Int32 × Int32 × Int32 × Int32 × Int32 × Int32 => [(a_1, .inr (9, [.ref a_2, .int i_1])), (a_2, .inl (cy 0, 600, .inl f_0)), (a_0, .inr (7, [.ref a_1, .ref a_3, .int u.1, .int u.2.1, .int u.2.2.1, .int u.2.2.2.1, .int u.2.2.2.2.1, .int u.2.2.2.2.2])), (a_3, .inr (0, [.int i_8, .int i_9, .int i_10, .int i_11, .int i_12, .int i_13, .int i_14, .int i_15, .ref a_4, .ref a_5, .ref a_6, .ref a_7, .ref a_8, .ref a_9, .ref a_10, .ref a_11, .ref a_12, .ref a_13])), (a_6, .inl (cy 1, 3, .inl f_1)), (a_7, .inl (cy 1, 210, .inl f_2))]) [0, 1, 2] [3, 4, 5] (n := 6) (fun _ => rfl) (by decide +kernel) (by decide +kernel) rfl (fun _ => rfl) (wr := [(a_3, .inr (0, [.int i_8, .int i_9, .int i_10, .int i_11, .int i_12, .int i_13, .int i_14, .int i_15, .ref a_4, .ref a_5, .ref a_6, .ref a_7, .ref a_8, .ref a_9, .ref a_10, .ref a_11, .ref a_12, .ref a_13])), (a_6, .inl (cy 1, 3, .inl f_1)), (a_7, .inl (cy 1, 210, .inl f_2))]) rfl (fun _ => rfl) (fun _ => rfl) ?_
          clear hP hD hS
          clear H locs
          intro v122 u
          obtain ⟨n116, n117, n118, n119, n120, n121⟩ := u
          intro H locs hw (hP : va_P G vwCl [(a_1, .inr (9, [.ref a_2, .int i_1])), (a_2, .inl (cy 0, 600, .inl f_0)), (a_0, .inr (7, [.ref a_1, .ref a_3, .int n116, .int n117, .int n118, .int n119, .int n120, .int n121])), (a_3, .inr (0, [.int i_8, .int i_9, .int i_10, .int i_11, .int i_12, .int i_13, .int i_14, .int i_15, .ref a_4, .ref a_5, .ref a_6, .ref a_7, .ref a_8, .ref a_9, .ref a_10, .ref a_11, .ref a_12, .ref a_13])), (a_6, .inl (cy 1, 3, .inl f_1)), (a_7, .inl (cy 1, 210, .inl f_2))] H) (hD : va_D A [(a_1, .inr (9, [.ref a_2, .int i_1])), (a_2, .inl (cy 0, 600, .inl f_0)), (a_0, .inr (7, [.ref a_1, .ref a_3, .int n116, .int n117, .int n118, .int n119, .int n120, .int n121])), (a_3, .inr (0, [.int i_8, .int i_9, .int i_10, .int i_11, .int i_12, .int i_13, .int i_14, .int i_15, .ref a_4, .ref a_5, .ref a_6, .ref a_7, .ref a_8, .ref a_9, .ref a_10, .ref a_11, .ref a_12, .ref a_13])), (a_6, .inl (cy 1, 3, .inl f_1)), (a_7, .inl (cy 1, 210, .inl f_2))]) hS
          obtain ⟨w123, w124, w125, w126, hw⟩ := hw
          have w127 := hw
          refine lv_istore (lv' := [(4, .int v122), (3, .int v107), (2, .int v1), (0, .ref a_0), (1, .int i_0)]) hx hb dX7_takeRule_82 hl (by decide) rfl ?_
          clear hl
          clear ls
          intro ls hl
          refine lv_aload_n hx hb dX7_takeRule_84 rfl (lv_at hl 3 rfl) ?_
          refine va_get (D := G) (ci := 7) (v := .ref a_3) (C := RX7) (T := TX7) (N := 8) hx hb hts (mm_i inlX7) hown hK.1 hP 2 rfl rfl 1 (by decide) (mm_h hts mm_w65) (fun _ h9 => h9) rfl dX7_takeRule_85 ?_
          refine lv_iload_n hx hb dX7_takeRule_88 rfl (lv_at hl 4 rfl) ?_
          refine lv_iload_n hx hb dX7_takeRule_89 rfl (lv_at hl 2 rfl) ?_
          refine lv_iload_n hx hb dX7_takeRule_90 rfl (lv_at hl 1 rfl) ?_
          refine lv_iload hx hb dX7_takeRule_91 (lv_at hl 0 rfl) ?_
          refine mm_finv (va_runV (As := [.int i_0, .int v1, .int v107, .int v122]) (rest := []) ⟨hx, hb, hml, hown, hts⟩ (K108_X0_setTaken l G cy H.size a_3 i_0 v1 v107 v122 i_8 i_9 i_10 i_11 i_12 i_13 i_14 i_15 a_4 a_5 a_6 a_7 a_8 a_9 a_10 a_11 a_12 a_13 f_2 h0 q2 w112 w127 h9) (cwV 4 hts (mm_gV mm_w352 mm_w353 mm_w354 mm_w28 mm_w355) rfl rfl rfl hd_X0_setTaken ⟨by rw [hRf]; exact Nat.le_of_ble_eq_true rfl, by rw [hRl]; exact Nat.le_of_ble_eq_true rfl⟩) (mm_preV hK hZ hS hA hP hD [3, 5] rfl rfl 3 rfl rfl rfl) rfl rfl hl.1 rfl (lv_room (Nat.le_of_ble_eq_true rfl)) dX7_takeRule_93 ⟨by rw [hRc]; exact Nat.le_of_ble_eq_true rfl, by rw [hRs]; exact Nat.le_of_ble_eq_true rfl⟩) hP hD hS hA (fun u : (Nat → Int32) => [(a_1, .inr (9, [.ref a_2, .int i_1])), (a_2, .inl (cy 0, 600, .inl f_0)), (a_0, .inr (7, [.ref a_1, .ref a_3, .int n116, .int n117, .int n118, .int n119, .int n120, .int n121])), (a_3, .inr (0, [.int i_8, .int i_9, .int i_10, .int i_11, .int i_12, .int i_13, .int i_14, .int i_15, .ref a_4, .ref a_5, .ref a_6, .ref a_7, .ref a_8, .ref a_9, .ref a_10, .ref a_11, .ref a_12, .ref a_13])), (a_6, .inl (cy 1, 3, .inl f_1)), (a_7, .inl (cy 1, 210, .inl u))]) [3, 5] [0, 1, 2, 4] (n := 6) (fun _ => rfl) (by decide +kernel) (by decide +kernel) rfl (fun _ => rfl) (wr := [(a_1, .inr (9, [.ref a_2, .int i_1])), (a_2, .inl (cy 0, 600, .inl f_0)), (a_0, .inr (7, [.ref a_1, .ref a_3, .int n116, .int n117, .int n118, .int n119, .int n120, .int n121])), (a_6, .inl (cy 1, 3, .inl f_1))]) rfl (fun _ => rfl) (fun _ => rfl) ?_
          clear hP hD hS
          clear H locs
          intro n128 H locs hw (hP : va_P G vwCl [(a_1, .inr (9, [.ref a_2, .int i_1])), (a_2, .inl (cy 0, 600, .inl f_0)), (a_0, .inr (7, [.ref a_1, .ref a_3, .int n116, .int n117, .int n118, .int n119, .int n120, .int n121])), (a_3, .inr (0, [.int i_8, .int i_9, .int i_10, .int i_11, .int i_12, .int i_13, .int i_14, .int i_15, .ref a_4, .ref a_5, .ref a_6, .ref a_7, .ref a_8, .ref a_9, .ref a_10, .ref a_11, .ref a_12, .ref a_13])), (a_6, .inl (cy 1, 3, .inl f_1)), (a_7, .inl (cy 1, 210, .inl n128))] H) (hD : va_D A [(a_1, .inr (9, [.ref a_2, .int i_1])), (a_2, .inl (cy 0, 600, .inl f_0)), (a_0, .inr (7, [.ref a_1, .ref a_3, .int n116, .int n117, .int n118, .int n119, .int n120, .int n121])), (a_3, .inr (0, [.int i_8, .int i_9, .int i_10, .int i_11, .int i_12, .int i_13, .int i_14, .int i_15, .ref a_4, .ref a_5, .ref a_6, .ref a_7, .ref a_8, .ref a_9, .ref a_10, .ref a_11, .ref a_12, .ref a_13])), (a_6, .inl (cy 1, 3, .inl f_1)), (a_7, .inl (cy 1, 210, .inl n128))]) hS
          have w129 := hw
          refine lv_aload_n hx hb dX7_takeRule_96 rfl (lv_at hl 3 rfl) ?_
          refine va_get (D := G) (ci := 7) (v := .ref a_3) (C := RX7) (T := TX7) (N := 8) hx hb hts (mm_i inlX7) hown hK.1 hP 2 rfl rfl 1 (by decide) (mm_h hts mm_w65) (fun _ h9 => h9) rfl dX7_takeRule_97 ?_
          refine lv_iload_n hx hb dX7_takeRule_100 rfl (lv_at hl 4 rfl) ?_
          refine lv_iload_n hx hb dX7_takeRule_101 rfl (lv_at hl 2 rfl) ?_
          refine lv_iload hx hb dX7_takeRule_102 (lv_at hl 0 rfl) ?_
          refine lv_iload_n hx hb dX7_takeRule_104 rfl (lv_at hl 1 rfl) ?_
          refine mm_finv (va_runV (As := [.int i_0, .int v1, .int v122, .int v107]) (rest := []) ⟨hx, hb, hml, hown, hts⟩ (K108_X0_setTaken l G cy H.size a_3 i_0 v1 v122 v107 i_8 i_9 i_10 i_11 i_12 i_13 i_14 i_15 a_4 a_5 a_6 a_7 a_8 a_9 a_10 a_11 a_12 a_13 n128 h0 q2 w127 w112 w129) (cwV 4 hts (mm_gV mm_w352 mm_w353 mm_w354 mm_w28 mm_w355) rfl rfl rfl hd_X0_setTaken ⟨by rw [hRf]; exact Nat.le_of_ble_eq_true rfl, by rw [hRl]; exact Nat.le_of_ble_eq_true rfl⟩) (mm_preV hK hZ hS hA hP hD [3, 5] rfl rfl 3 rfl rfl rfl) rfl rfl hl.1 rfl (lv_room (Nat.le_of_ble_eq_true rfl)) dX7_takeRule_105 ⟨by rw [hRc]; exact Nat.le_of_ble_eq_true rfl, by rw [hRs]; exact Nat.le_of_ble_eq_true rfl⟩) hP hD hS hA (fun u : (Nat → Int32) => [(a_1, .inr (9, [.ref a_2, .int i_1])), (a_2, .inl (cy 0, 600, .inl f_0)), (a_0, .inr (7, [.ref a_1, .ref a_3, .int n116, .int n117, .int n118, .int n119, .int n120, .int n121])), (a_3, .inr (0, [.int i_8, .int i_9, .int i_10, .int i_11, .int i_12, .int i_13, .int i_14, .int i_15, .ref a_4, .ref a_5, .ref a_6, .ref a_7, .ref a_8, .ref a_9, .ref a_10, .ref a_11, .ref a_12, .ref a_13])), (a_6, .inl (cy 1, 3, .inl f_1)), (a_7, .inl (cy 1, 210, .inl u))]) [3, 5] [0, 1, 2, 4] (n := 6) (fun _ => rfl) (by decide +kernel) (by decide +kernel) rfl (fun _ => rfl) (wr := [(a_1, .inr (9, [.ref a_2, .int i_1])), (a_2, .inl (cy 0, 600, .inl f_0)), (a_0, .inr (7, [.ref a_1, .ref a_3, .int n116, .int n117, .int n118, .int n119, .int n120, .int n121])), (a_6, .inl (cy 1, 3, .inl f_1))]) rfl (fun _ => rfl) (fun _ => rfl) ?_
          clear hP hD hS
          clear H locs
          intro n130 H locs hw (hP : va_P G vwCl [(a_1, .inr (9, [.ref a_2, .int i_1])), (a_2, .inl (cy 0, 600, .inl f_0)), (a_0, .inr (7, [.ref a_1, .ref a_3, .int n116, .int n117, .int n118, .int n119, .int n120, .int n121])), (a_3, .inr (0, [.int i_8, .int i_9, .int i_10, .int i_11, .int i_12, .int i_13, .int i_14, .int i_15, .ref a_4, .ref a_5, .ref a_6, .ref a_7, .ref a_8, .ref a_9, .ref a_10, .ref a_11, .ref a_12, .ref a_13])), (a_6, .inl (cy 1, 3, .inl f_1)), (a_7, .inl (cy 1, 210, .inl n130))] H) (hD : va_D A [(a_1, .inr (9, [.ref a_2, .int i_1])), (a_2, .inl (cy 0, 600, .inl f_0)), (a_0, .inr (7, [.ref a_1, .ref a_3, .int n116, .int n117, .int n118, .int n119, .int n120, .int n121])), (a_3, .inr (0, [.int i_8, .int i_9, .int i_10, .int i_11, .int i_12, .int i_13, .int i_14, .int i_15, .ref a_4, .ref a_5, .ref a_6, .ref a_7, .ref a_8, .ref a_9, .ref a_10, .ref a_11, .ref a_12, .ref a_13])), (a_6, .inl (cy 1, 3, .inl f_1)), (a_7, .inl (cy 1, 210, .inl n130))]) hS
          have w131 := hw
          refine lv_goto (tgt := 231) hx hb dX7_takeRule_108 (by decide) ?_
          refine lv_aload_n hx hb dX7_takeRule_231 rfl (lv_at hl 3 rfl) ?_
          refine va_get (D := G) (ci := 7) (v := .ref a_3) (C := RX7) (T := TX7) (N := 8) hx hb hts (mm_i inlX7) hown hK.1 hP 2 rfl rfl 1 (by decide) (mm_h hts mm_w65) (fun _ h9 => h9) rfl dX7_takeRule_232 ?_
          refine va_get (D := G) (ci := 0) (v := .ref a_6) (C := RX0) (T := TX0) (N := 18) hx hb hts (mm_i inlX0) hown hK.1 hP 3 rfl rfl 10 (by decide) (mm_h hts mm_w339) (fun _ h9 => h9) rfl dX7_takeRule_235 ?_
          refine lv_iload_n hx hb dX7_takeRule_238 rfl (lv_at hl 4 rfl) ?_
          refine lv_dup2_11 hx hb dX7_takeRule_239 rfl rfl ?_
          refine va_iald hx hb hK.1 hP 4 1 rfl rfl (mm_in h0 (by decide)) dX7_takeRule_240 ?_
          refine lv_topi (fun v132 ev132 => ?_)
          have rv132 : mm_rg v132 0 7 := mm_eqv ev132 (h8 _)
          have q133 : mm_rg v132 0 6 := mm_rcl_ld h10 ev132 rv132 trivial
          obtain rfl : v1 = v132 := ev1.trans ev132.symm
          refine lv_iconst (v := 1) hx hb dX7_takeRule_241 (by decide) ?_
          refine lv_iadd hx hb dX7_takeRule_242 ?_
          refine lv_topi (fun v134 ev134 => ?_)
          have rv134 : mm_rg v134 1 7 := mm_add ev134 q2 mm_k1 (by decide) (by decide)
          have tv134 := mm_addEc ev134 q2 mm_k1 (by decide) (k := 1) (by decide)
          refine va_iast hx hb hK.1 hP hD hS 4 1 rfl rfl (mm_in h0 (by decide)) dX7_takeRule_243 ?_
          clear hP hD hS
          clear H locs
          obtain ⟨g135, eg135⟩ : ∃ z : Nat → Int32, z = upd f_1 i_0.toNatClampNeg v134 := ⟨_, rfl⟩
          rw [← eg135]
          intro H locs (hP : va_P G vwCl [(a_1, .inr (9, [.ref a_2, .int i_1])), (a_2, .inl (cy 0, 600, .inl f_0)), (a_0, .inr (7, [.ref a_1, .ref a_3, .int n116, .int n117, .int n118, .int n119, .int n120, .int n121])), (a_3, .inr (0, [.int i_8, .int i_9, .int i_10, .int i_11, .int i_12, .int i_13, .int i_14, .int i_15, .ref a_4, .ref a_5, .ref a_6, .ref a_7, .ref a_8, .ref a_9, .ref a_10, .ref a_11, .ref a_12, .ref a_13])), (a_6, .inl (cy 1, 3, .inl g135)), (a_7, .inl (cy 1, 210, .inl n130))] H) (hD : va_D A [(a_1, .inr (9, [.ref a_2, .int i_1])), (a_2, .inl (cy 0, 600, .inl f_0)), (a_0, .inr (7, [.ref a_1, .ref a_3, .int n116, .int n117, .int n118, .int n119, .int n120, .int n121])), (a_3, .inr (0, [.int i_8, .int i_9, .int i_10, .int i_11, .int i_12, .int i_13, .int i_14, .int i_15, .ref a_4, .ref a_5, .ref a_6, .ref a_7, .ref a_8, .ref a_9, .ref a_10, .ref a_11, .ref a_12, .ref a_13])), (a_6, .inl (cy 1, 3, .inl g135)), (a_7, .inl (cy 1, 210, .inl n130))]) hS
          have rg135 : mm_ar g135 0 7 := by rw [eg135]; exact mm_ar_upd (mm_ar_wk h8 (by decide)) (mm_wk rv134 (by decide)) _
          subst hAe
          rw [hQ]
          exact W.vret hx hb hr (fun t ht hW => ⟨⟨(n116, n117, n118, n119, n120, n121, g135, n130), rfl, ⟨w123, w124, w125, w126, rg135, w131⟩, by rw [ht]; exact hP, hK.warm hW, hD⟩, hS.F ht⟩) hS.2.2 dX7_takeRule_244
    · have q136 := mm_neL (lo := 1) (mm_ne c4) mm_k0 mm_k0 (by decide) (by decide)
      exact mm_no q136 (by decide)
  · refine lv_if_eq (tgt := 39) hx hb dX7_takeRule_16 (by decide) (fun c137 => ?_) (fun c137 => ?_)
    · exact mm_eqN c137.symm mm_k0 mm_k1 (by decide)
    · refine lv_aload_n hx hb dX7_takeRule_19 rfl (lv_at hl 1 rfl) ?_
      refine mm_finv (va_runV (As := []) (rest := []) ⟨hx, hb, hml, hown, hts⟩ (K9_X7_nextToken l G cy H.size a_0 a_1 a_2 i_1 f_0 a_3 i_2 i_3 i_4 i_5 i_6 i_7 h1 h2 h4 h5 h6) (cwV 0 hts (mm_gV mm_w227 mm_w228 mm_w229 mm_w19 mm_w230) rfl rfl rfl hd_X7_nextToken ⟨by rw [hRf]; exact Nat.le_of_ble_eq_true rfl, by rw [hRl]; exact Nat.le_of_ble_eq_true rfl⟩) (mm_preV hK hZ hS hA hP hD [0, 1, 2] rfl rfl 2 rfl rfl rfl) rfl rfl hl.1 rfl (lv_room (Nat.le_of_ble_eq_true rfl)) dX7_takeRule_20 ⟨by rw [hRc]; exact Nat.le_of_ble_eq_true rfl, by rw [hRs]; exact Nat.le_of_ble_eq_true rfl⟩) hP hD hS hA (fun u : Int32 × Int32 × Int32 × Int32 => [(a_1, .inr (9, [.ref a_2, .int i_1])), (a_2, .inl (cy 0, 600, .inl f_0)), (a_0, .inr (7, [.ref a_1, .ref a_3, .int i_2, .int i_3, .int u.1, .int u.2.1, .int u.2.2.1, .int u.2.2.2])), (a_3, .inr (0, [.int i_8, .int i_9, .int i_10, .int i_11, .int i_12, .int i_13, .int i_14, .int i_15, .ref a_4, .ref a_5, .ref a_6, .ref a_7, .ref a_8, .ref a_9, .ref a_10, .ref a_11, .ref a_12, .ref a_13])), (a_6, .inl (cy 1, 3, .inl f_1)), (a_7, .inl (cy 1, 210, .inl f_2))]) [0, 1, 2] [3, 4, 5] (n := 6) (fun _ => rfl) (by decide +kernel) (by decide +kernel) rfl (fun _ => rfl) (wr := [(a_3, .inr (0, [.int i_8, .int i_9, .int i_10, .int i_11, .int i_12, .int i_13, .int i_14, .int i_15, .ref a_4, .ref a_5, .ref a_6, .ref a_7, .ref a_8, .ref a_9, .ref a_10, .ref a_11, .ref a_12, .ref a_13])), (a_6, .inl (cy 1, 3, .inl f_1)), (a_7, .inl (cy 1, 210, .inl f_2))]) rfl (fun _ => rfl) (fun _ => rfl) ?_
      clear hP hD hS
      clear H locs
      intro u
      obtain ⟨n138, n139, n140, n141⟩ := u
      intro H locs hw (hP : va_P G vwCl [(a_1, .inr (9, [.ref a_2, .int i_1])), (a_2, .inl (cy 0, 600, .inl f_0)), (a_0, .inr (7, [.ref a_1, .ref a_3, .int i_2, .int i_3, .int n138, .int n139, .int n140, .int n141])), (a_3, .inr (0, [.int i_8, .int i_9, .int i_10, .int i_11, .int i_12, .int i_13, .int i_14, .int i_15, .ref a_4, .ref a_5, .ref a_6, .ref a_7, .ref a_8, .ref a_9, .ref a_10, .ref a_11, .ref a_12, .ref a_13])), (a_6, .inl (cy 1, 3, .inl f_1)), (a_7, .inl (cy 1, 210, .inl f_2))] H) (hD : va_D A [(a_1, .inr (9, [.ref a_2, .int i_1])), (a_2, .inl (cy 0, 600, .inl f_0)), (a_0, .inr (7, [.ref a_1, .ref a_3, .int i_2, .int i_3, .int n138, .int n139, .int n140, .int n141])), (a_3, .inr (0, [.int i_8, .int i_9, .int i_10, .int i_11, .int i_12, .int i_13, .int i_14, .int i_15, .ref a_4, .ref a_5, .ref a_6, .ref a_7, .ref a_8, .ref a_9, .ref a_10, .ref a_11, .ref a_12, .ref a_13])), (a_6, .inl (cy 1, 3, .inl f_1)), (a_7, .inl (cy 1, 210, .inl f_2))]) hS
      obtain ⟨w142, w143, w144⟩ := hw
      refine lv_aload_n hx hb dX7_takeRule_23 rfl (lv_at hl 1 rfl) ?_
      refine lv_iload_n hx hb dX7_takeRule_24 rfl (lv_at hl 2 rfl) ?_
      refine lv_iload_n hx hb dX7_takeRule_25 rfl (lv_at hl 0 rfl) ?_
      refine lv_aload_n hx hb dX7_takeRule_26 rfl (lv_at hl 1 rfl) ?_
      refine lv_iconst (v := 1) hx hb dX7_takeRule_27 (by decide) ?_
      refine lv_bipush (v := 9) hx hb dX7_takeRule_28 (by decide) ?_
      refine mm_fini (va_runV (As := [.int 1, .int 9]) (rest := [.int v1, .int i_0, .ref a_0]) ⟨hx, hb, hml, hown, hts⟩ (K172_X7_takeNumber l G cy H.size a_0 a_1 a_2 i_1 f_0 a_3 i_2 i_3 n138 n139 n140 n141 h1 h2 h3 w142 w143 w144) (cwV 2 hts (mm_gV mm_w315 mm_w316 mm_w317 mm_w19 mm_w318) rfl rfl rfl hd_X7_takeNumber ⟨by rw [hRf]; exact Nat.le_of_ble_eq_true rfl, by rw [hRl]; exact Nat.le_of_ble_eq_true rfl⟩) (mm_preV hK hZ hS hA hP hD [0, 1, 2] rfl rfl 2 rfl rfl rfl) rfl rfl hl.1 rfl (lv_room (Nat.le_of_ble_eq_true rfl)) dX7_takeRule_30 ⟨by rw [hRc]; exact Nat.le_of_ble_eq_true rfl, by rw [hRs]; exact Nat.le_of_ble_eq_true rfl⟩) hP hD hS hA (fun u : Int32 × Int32 × Int32 × Int32 × Int32 × Int32 => [(a_1, .inr (9, [.ref a_2, .int i_1])), (a_2, .inl (cy 0, 600, .inl f_0)), (a_0, .inr (7, [.ref a_1, .ref a_3, .int u.1, .int u.2.1, .int u.2.2.1, .int u.2.2.2.1, .int u.2.2.2.2.1, .int u.2.2.2.2.2])), (a_3, .inr (0, [.int i_8, .int i_9, .int i_10, .int i_11, .int i_12, .int i_13, .int i_14, .int i_15, .ref a_4, .ref a_5, .ref a_6, .ref a_7, .ref a_8, .ref a_9, .ref a_10, .ref a_11, .ref a_12, .ref a_13])), (a_6, .inl (cy 1, 3, .inl f_1)), (a_7, .inl (cy 1, 210, .inl f_2))]) [0, 1, 2] [3, 4, 5] (n := 6) (fun _ => rfl) (by decide +kernel) (by decide +kernel) rfl (fun _ => rfl) (wr := [(a_3, .inr (0, [.int i_8, .int i_9, .int i_10, .int i_11, .int i_12, .int i_13, .int i_14, .int i_15, .ref a_4, .ref a_5, .ref a_6, .ref a_7, .ref a_8, .ref a_9, .ref a_10, .ref a_11, .ref a_12, .ref a_13])), (a_6, .inl (cy 1, 3, .inl f_1)), (a_7, .inl (cy 1, 210, .inl f_2))]) rfl (fun _ => rfl) (fun _ => rfl) ?_
      clear hP hD hS
      clear H locs
      intro v151 u
      obtain ⟨n145, n146, n147, n148, n149, n150⟩ := u
      intro H locs hw (hP : va_P G vwCl [(a_1, .inr (9, [.ref a_2, .int i_1])), (a_2, .inl (cy 0, 600, .inl f_0)), (a_0, .inr (7, [.ref a_1, .ref a_3, .int n145, .int n146, .int n147, .int n148, .int n149, .int n150])), (a_3, .inr (0, [.int i_8, .int i_9, .int i_10, .int i_11, .int i_12, .int i_13, .int i_14, .int i_15, .ref a_4, .ref a_5, .ref a_6, .ref a_7, .ref a_8, .ref a_9, .ref a_10, .ref a_11, .ref a_12, .ref a_13])), (a_6, .inl (cy 1, 3, .inl f_1)), (a_7, .inl (cy 1, 210, .inl f_2))] H) (hD : va_D A [(a_1, .inr (9, [.ref a_2, .int i_1])), (a_2, .inl (cy 0, 600, .inl f_0)), (a_0, .inr (7, [.ref a_1, .ref a_3, .int n145, .int n146, .int n147, .int n148, .int n149, .int n150])), (a_3, .inr (0, [.int i_8, .int i_9, .int i_10, .int i_11, .int i_12, .int i_13, .int i_14, .int i_15, .ref a_4, .ref a_5, .ref a_6, .ref a_7, .ref a_8, .ref a_9, .ref a_10, .ref a_11, .ref a_12, .ref a_13])), (a_6, .inl (cy 1, 3, .inl f_1)), (a_7, .inl (cy 1, 210, .inl f_2))]) hS
      obtain ⟨w152, w153, w154, w155, hw⟩ := hw
      have w156 := hw
      refine mm_finv (va_runV (As := [.int i_0, .int v1, .int v151]) (rest := []) ⟨hx, hb, hml, hown, hts⟩ (K173_X7_shiftAll l G cy H.size a_0 i_0 v1 v151 a_1 a_3 n145 n146 n147 n148 n149 n150 i_8 i_9 i_10 i_11 i_12 i_13 i_14 i_15 a_4 a_5 a_6 a_7 a_8 a_9 a_10 a_11 a_12 a_13 f_2 h0 q2 w156 h7 h9) (cwV 3 hts (mm_gV mm_w340 mm_w341 mm_w342 mm_w19 mm_w343) rfl rfl rfl hd_X7_shiftAll ⟨by rw [hRf]; exact Nat.le_of_ble_eq_true rfl, by rw [hRl]; exact Nat.le_of_ble_eq_true rfl⟩) (mm_preV hK hZ hS hA hP hD [2, 3, 5] rfl rfl 2 rfl rfl rfl) rfl rfl hl.1 rfl (lv_room (Nat.le_of_ble_eq_true rfl)) dX7_takeRule_33 ⟨by rw [hRc]; exact Nat.le_of_ble_eq_true rfl, by rw [hRs]; exact Nat.le_of_ble_eq_true rfl⟩) hP hD hS hA (fun u : (Nat → Int32) => [(a_1, .inr (9, [.ref a_2, .int i_1])), (a_2, .inl (cy 0, 600, .inl f_0)), (a_0, .inr (7, [.ref a_1, .ref a_3, .int n145, .int n146, .int n147, .int n148, .int n149, .int n150])), (a_3, .inr (0, [.int i_8, .int i_9, .int i_10, .int i_11, .int i_12, .int i_13, .int i_14, .int i_15, .ref a_4, .ref a_5, .ref a_6, .ref a_7, .ref a_8, .ref a_9, .ref a_10, .ref a_11, .ref a_12, .ref a_13])), (a_6, .inl (cy 1, 3, .inl f_1)), (a_7, .inl (cy 1, 210, .inl u))]) [2, 3, 5] [0, 1, 4] (n := 6) (fun _ => rfl) (by decide +kernel) (by decide +kernel) rfl (fun _ => rfl) (wr := [(a_1, .inr (9, [.ref a_2, .int i_1])), (a_2, .inl (cy 0, 600, .inl f_0)), (a_6, .inl (cy 1, 3, .inl f_1))]) rfl (fun _ => rfl) (fun _ => rfl) ?_
      clear hP hD hS
      clear H locs
      intro n157 H locs hw (hP : va_P G vwCl [(a_1, .inr (9, [.ref a_2, .int i_1])), (a_2, .inl (cy 0, 600, .inl f_0)), (a_0, .inr (7, [.ref a_1, .ref a_3, .int n145, .int n146, .int n147, .int n148, .int n149, .int n150])), (a_3, .inr (0, [.int i_8, .int i_9, .int i_10, .int i_11, .int i_12, .int i_13, .int i_14, .int i_15, .ref a_4, .ref a_5, .ref a_6, .ref a_7, .ref a_8, .ref a_9, .ref a_10, .ref a_11, .ref a_12, .ref a_13])), (a_6, .inl (cy 1, 3, .inl f_1)), (a_7, .inl (cy 1, 210, .inl n157))] H) (hD : va_D A [(a_1, .inr (9, [.ref a_2, .int i_1])), (a_2, .inl (cy 0, 600, .inl f_0)), (a_0, .inr (7, [.ref a_1, .ref a_3, .int n145, .int n146, .int n147, .int n148, .int n149, .int n150])), (a_3, .inr (0, [.int i_8, .int i_9, .int i_10, .int i_11, .int i_12, .int i_13, .int i_14, .int i_15, .ref a_4, .ref a_5, .ref a_6, .ref a_7, .ref a_8, .ref a_9, .ref a_10, .ref a_11, .ref a_12, .ref a_13])), (a_6, .inl (cy 1, 3, .inl f_1)), (a_7, .inl (cy 1, 210, .inl n157))]) hS
      have w158 := hw
      refine lv_goto (tgt := 231) hx hb dX7_takeRule_36 (by decide) ?_
      refine lv_aload_n hx hb dX7_takeRule_231 rfl (lv_at hl 1 rfl) ?_
      refine va_get (D := G) (ci := 7) (v := .ref a_3) (C := RX7) (T := TX7) (N := 8) hx hb hts (mm_i inlX7) hown hK.1 hP 2 rfl rfl 1 (by decide) (mm_h hts mm_w65) (fun _ h9 => h9) rfl dX7_takeRule_232 ?_
      refine va_get (D := G) (ci := 0) (v := .ref a_6) (C := RX0) (T := TX0) (N := 18) hx hb hts (mm_i inlX0) hown hK.1 hP 3 rfl rfl 10 (by decide) (mm_h hts mm_w339) (fun _ h9 => h9) rfl dX7_takeRule_235 ?_
      refine lv_iload_n hx hb dX7_takeRule_238 rfl (lv_at hl 2 rfl) ?_
      refine lv_dup2_11 hx hb dX7_takeRule_239 rfl rfl ?_
      refine va_iald hx hb hK.1 hP 4 1 rfl rfl (mm_in h0 (by decide)) dX7_takeRule_240 ?_
      refine lv_topi (fun v159 ev159 => ?_)
      have rv159 : mm_rg v159 0 7 := mm_eqv ev159 (h8 _)
      have q160 : mm_rg v159 0 6 := mm_rcl_ld h10 ev159 rv159 trivial
      obtain rfl : v1 = v159 := ev1.trans ev159.symm
      refine lv_iconst (v := 1) hx hb dX7_takeRule_241 (by decide) ?_
      refine lv_iadd hx hb dX7_takeRule_242 ?_
      refine lv_topi (fun v161 ev161 => ?_)
      have rv161 : mm_rg v161 1 7 := mm_add ev161 q2 mm_k1 (by decide) (by decide)
      have tv161 := mm_addEc ev161 q2 mm_k1 (by decide) (k := 1) (by decide)
      refine va_iast hx hb hK.1 hP hD hS 4 1 rfl rfl (mm_in h0 (by decide)) dX7_takeRule_243 ?_
      clear hP hD hS
      clear H locs
      obtain ⟨g162, eg162⟩ : ∃ z : Nat → Int32, z = upd f_1 i_0.toNatClampNeg v161 := ⟨_, rfl⟩
      rw [← eg162]
      intro H locs (hP : va_P G vwCl [(a_1, .inr (9, [.ref a_2, .int i_1])), (a_2, .inl (cy 0, 600, .inl f_0)), (a_0, .inr (7, [.ref a_1, .ref a_3, .int n145, .int n146, .int n147, .int n148, .int n149, .int n150])), (a_3, .inr (0, [.int i_8, .int i_9, .int i_10, .int i_11, .int i_12, .int i_13, .int i_14, .int i_15, .ref a_4, .ref a_5, .ref a_6, .ref a_7, .ref a_8, .ref a_9, .ref a_10, .ref a_11, .ref a_12, .ref a_13])), (a_6, .inl (cy 1, 3, .inl g162)), (a_7, .inl (cy 1, 210, .inl n157))] H) (hD : va_D A [(a_1, .inr (9, [.ref a_2, .int i_1])), (a_2, .inl (cy 0, 600, .inl f_0)), (a_0, .inr (7, [.ref a_1, .ref a_3, .int n145, .int n146, .int n147, .int n148, .int n149, .int n150])), (a_3, .inr (0, [.int i_8, .int i_9, .int i_10, .int i_11, .int i_12, .int i_13, .int i_14, .int i_15, .ref a_4, .ref a_5, .ref a_6, .ref a_7, .ref a_8, .ref a_9, .ref a_10, .ref a_11, .ref a_12, .ref a_13])), (a_6, .inl (cy 1, 3, .inl g162)), (a_7, .inl (cy 1, 210, .inl n157))]) hS
      have rg162 : mm_ar g162 0 7 := by rw [eg162]; exact mm_ar_upd (mm_ar_wk h8 (by decide)) (mm_wk rv161 (by decide)) _
      subst hAe
      rw [hQ]
      exact W.vret hx hb hr (fun t ht hW => ⟨⟨(n145, n146, n147, n148, n149, n150, g162, n157), rfl, ⟨w152, w153, w154, w155, rg162, w158⟩, by rw [ht]; exact hP, hK.warm hW, hD⟩, hS.F ht⟩) hS.2.2 dX7_takeRule_244

