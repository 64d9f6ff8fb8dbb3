theorem dX12_greedy_0 : decode cX12_greedy 0 = .ok (.aload_n 0, 1) := by decide +kernel
theorem dX12_greedy_1 : decode cX12_greedy 1 = .ok (.iconst 0, 1) := by decide +kernel
theorem dX12_greedy_2 : decode cX12_greedy 2 = .ok (.putfield 77, 3) := by decide +kernel
theorem dX12_greedy_5 : decode cX12_greedy 5 = .ok (.aload_n 0, 1) := by decide +kernel
theorem dX12_greedy_6 : decode cX12_greedy 6 = .ok (.iload_n 1, 1) := by decide +kernel
theorem dX12_greedy_7 : decode cX12_greedy 7 = .ok (.iload_n 2, 1) := by decide +kernel
theorem dX12_greedy_8 : decode cX12_greedy 8 = .ok (.invokevirtual 323, 3) := by decide +kernel
theorem dX12_greedy_11 : decode cX12_greedy 11 = .ok (.ifCond .ne 7, 3) := by decide +kernel
theorem dX12_greedy_14 : decode cX12_greedy 14 = .ok (.ldc_w 426, 3) := by decide +kernel
theorem dX12_greedy_17 : decode cX12_greedy 17 = .ok (.ireturn, 1) := by decide +kernel
theorem dX12_greedy_18 : decode cX12_greedy 18 = .ok (.aload_n 0, 1) := by decide +kernel
theorem dX12_greedy_19 : decode cX12_greedy 19 = .ok (.invokevirtual 326, 3) := by decide +kernel
theorem dX12_greedy_22 : decode cX12_greedy 22 = .ok (.iconst 1, 1) := by decide +kernel
theorem dX12_greedy_23 : decode cX12_greedy 23 = .ok (.aload_n 0, 1) := by decide +kernel
theorem dX12_greedy_24 : decode cX12_greedy 24 = .ok (.invokevirtual 260, 3) := by decide +kernel
theorem dX12_greedy_27 : decode cX12_greedy 27 = .ok (.ishl, 1) := by decide +kernel
theorem dX12_greedy_28 : decode cX12_greedy 28 = .ok (.iconst 1, 1) := by decide +kernel
theorem dX12_greedy_29 : decode cX12_greedy 29 = .ok (.isub, 1) := by decide +kernel
theorem dX12_greedy_30 : decode cX12_greedy 30 = .ok (.istore_n 3, 1) := by decide +kernel
theorem dX12_greedy_31 : decode cX12_greedy 31 = .ok (.iconst 0, 1) := by decide +kernel
theorem dX12_greedy_32 : decode cX12_greedy 32 = .ok (.istore 4, 2) := by decide +kernel
theorem dX12_greedy_34 : decode cX12_greedy 34 = .ok (.iconst 1, 1) := by decide +kernel
theorem dX12_greedy_35 : decode cX12_greedy 35 = .ok (.istore 5, 2) := by decide +kernel
theorem dX12_greedy_37 : decode cX12_greedy 37 = .ok (.iconst 0, 1) := by decide +kernel
theorem dX12_greedy_38 : decode cX12_greedy 38 = .ok (.istore 6, 2) := by decide +kernel
theorem dX12_greedy_40 : decode cX12_greedy 40 = .ok (.iload_n 3, 1) := by decide +kernel
theorem dX12_greedy_41 : decode cX12_greedy 41 = .ok (.ifCond .eq 107, 3) := by decide +kernel
theorem dX12_greedy_44 : decode cX12_greedy 44 = .ok (.iconst (-1), 1) := by decide +kernel
theorem dX12_greedy_45 : decode cX12_greedy 45 = .ok (.istore 7, 2) := by decide +kernel
theorem dX12_greedy_47 : decode cX12_greedy 47 = .ok (.iconst 0, 1) := by decide +kernel
theorem dX12_greedy_48 : decode cX12_greedy 48 = .ok (.istore 8, 2) := by decide +kernel
theorem dX12_greedy_50 : decode cX12_greedy 50 = .ok (.iload 8, 2) := by decide +kernel
theorem dX12_greedy_52 : decode cX12_greedy 52 = .ok (.aload_n 0, 1) := by decide +kernel
theorem dX12_greedy_53 : decode cX12_greedy 53 = .ok (.invokevirtual 260, 3) := by decide +kernel
theorem dX12_greedy_56 : decode cX12_greedy 56 = .ok (.if_icmp .ge 53, 3) := by decide +kernel
theorem dX12_greedy_59 : decode cX12_greedy 59 = .ok (.iload_n 3, 1) := by decide +kernel
theorem dX12_greedy_60 : decode cX12_greedy 60 = .ok (.iload 8, 2) := by decide +kernel
theorem dX12_greedy_62 : decode cX12_greedy 62 = .ok (.invokestatic 420, 3) := by decide +kernel
theorem dX12_greedy_65 : decode cX12_greedy 65 = .ok (.ifCond .eq 38, 3) := by decide +kernel
theorem dX12_greedy_68 : decode cX12_greedy 68 = .ok (.iload 7, 2) := by decide +kernel
theorem dX12_greedy_70 : decode cX12_greedy 70 = .ok (.iconst (-1), 1) := by decide +kernel
theorem dX12_greedy_71 : decode cX12_greedy 71 = .ok (.if_icmp .eq 28, 3) := by decide +kernel
theorem dX12_greedy_74 : decode cX12_greedy 74 = .ok (.aload_n 0, 1) := by decide +kernel
theorem dX12_greedy_75 : decode cX12_greedy 75 = .ok (.iload_n 1, 1) := by decide +kernel
theorem dX12_greedy_76 : decode cX12_greedy 76 = .ok (.iload_n 2, 1) := by decide +kernel
theorem dX12_greedy_77 : decode cX12_greedy 77 = .ok (.iload 6, 2) := by decide +kernel
theorem dX12_greedy_79 : decode cX12_greedy 79 = .ok (.iadd, 1) := by decide +kernel
theorem dX12_greedy_80 : decode cX12_greedy 80 = .ok (.iload 8, 2) := by decide +kernel
theorem dX12_greedy_82 : decode cX12_greedy 82 = .ok (.invokevirtual 338, 3) := by decide +kernel
theorem dX12_greedy_85 : decode cX12_greedy 85 = .ok (.aload_n 0, 1) := by decide +kernel
theorem dX12_greedy_86 : decode cX12_greedy 86 = .ok (.iload_n 1, 1) := by decide +kernel
theorem dX12_greedy_87 : decode cX12_greedy 87 = .ok (.iload_n 2, 1) := by decide +kernel
theorem dX12_greedy_88 : decode cX12_greedy 88 = .ok (.iload 6, 2) := by decide +kernel
theorem dX12_greedy_90 : decode cX12_greedy 90 = .ok (.iadd, 1) := by decide +kernel
theorem dX12_greedy_91 : decode cX12_greedy 91 = .ok (.iload 7, 2) := by decide +kernel
theorem dX12_greedy_93 : decode cX12_greedy 93 = .ok (.invokevirtual 338, 3) := by decide +kernel
theorem dX12_greedy_96 : decode cX12_greedy 96 = .ok (.if_icmp .le 7, 3) := by decide +kernel
theorem dX12_greedy_99 : decode cX12_greedy 99 = .ok (.iload 8, 2) := by decide +kernel
theorem dX12_greedy_101 : decode cX12_greedy 101 = .ok (.istore 7, 2) := by decide +kernel
theorem dX12_greedy_103 : decode cX12_greedy 103 = .ok (.iinc 8 1, 3) := by decide +kernel
theorem dX12_greedy_106 : decode cX12_greedy 106 = .ok (.goto (-56), 3) := by decide +kernel
theorem dX12_greedy_109 : decode cX12_greedy 109 = .ok (.iload 4, 2) := by decide +kernel
theorem dX12_greedy_111 : decode cX12_greedy 111 = .ok (.iload 5, 2) := by decide +kernel
theorem dX12_greedy_113 : decode cX12_greedy 113 = .ok (.aload_n 0, 1) := by decide +kernel
theorem dX12_greedy_114 : decode cX12_greedy 114 = .ok (.iload_n 1, 1) := by decide +kernel
theorem dX12_greedy_115 : decode cX12_greedy 115 = .ok (.iload_n 2, 1) := by decide +kernel
theorem dX12_greedy_116 : decode cX12_greedy 116 = .ok (.iload 6, 2) := by decide +kernel
theorem dX12_greedy_118 : decode cX12_greedy 118 = .ok (.iadd, 1) := by decide +kernel
theorem dX12_greedy_119 : decode cX12_greedy 119 = .ok (.iload 7, 2) := by decide +kernel
theorem dX12_greedy_121 : decode cX12_greedy 121 = .ok (.invokevirtual 338, 3) := by decide +kernel
theorem dX12_greedy_124 : decode cX12_greedy 124 = .ok (.imul, 1) := by decide +kernel
theorem dX12_greedy_125 : decode cX12_greedy 125 = .ok (.iadd, 1) := by decide +kernel
theorem dX12_greedy_126 : decode cX12_greedy 126 = .ok (.istore 4, 2) := by decide +kernel
theorem dX12_greedy_128 : decode cX12_greedy 128 = .ok (.iload 5, 2) := by decide +kernel
theorem dX12_greedy_130 : decode cX12_greedy 130 = .ok (.ineg, 1) := by decide +kernel
theorem dX12_greedy_131 : decode cX12_greedy 131 = .ok (.istore 5, 2) := by decide +kernel
theorem dX12_greedy_133 : decode cX12_greedy 133 = .ok (.iload_n 3, 1) := by decide +kernel
theorem dX12_greedy_134 : decode cX12_greedy 134 = .ok (.iconst 1, 1) := by decide +kernel
theorem dX12_greedy_135 : decode cX12_greedy 135 = .ok (.iload 7, 2) := by decide +kernel
theorem dX12_greedy_137 : decode cX12_greedy 137 = .ok (.ishl, 1) := by decide +kernel
theorem dX12_greedy_138 : decode cX12_greedy 138 = .ok (.iconst (-1), 1) := by decide +kernel
theorem dX12_greedy_139 : decode cX12_greedy 139 = .ok (.ixor, 1) := by decide +kernel
theorem dX12_greedy_140 : decode cX12_greedy 140 = .ok (.iand, 1) := by decide +kernel
theorem dX12_greedy_141 : decode cX12_greedy 141 = .ok (.istore_n 3, 1) := by decide +kernel
theorem dX12_greedy_142 : decode cX12_greedy 142 = .ok (.iinc 6 1, 3) := by decide +kernel
theorem dX12_greedy_145 : decode cX12_greedy 145 = .ok (.goto (-105), 3) := by decide +kernel
theorem dX12_greedy_148 : decode cX12_greedy 148 = .ok (.iload 4, 2) := by decide +kernel
theorem dX12_greedy_150 : decode cX12_greedy 150 = .ok (.ireturn, 1) := by decide +kernel
theorem dX12_heirs_0 : decode cX12_heirs 0 = .ok (.aload_n 0, 1) := by decide +kernel
theorem dX12_heirs_1 : decode cX12_heirs 1 = .ok (.iconst 0, 1) := by decide +kernel
theorem dX12_heirs_2 : decode cX12_heirs 2 = .ok (.putfield 77, 3) := by decide +kernel
theorem dX12_heirs_5 : decode cX12_heirs 5 = .ok (.aload_n 0, 1) := by decide +kernel
theorem dX12_heirs_6 : decode cX12_heirs 6 = .ok (.iload_n 1, 1) := by decide +kernel
theorem dX12_heirs_7 : decode cX12_heirs 7 = .ok (.iload_n 2, 1) := by decide +kernel
theorem dX12_heirs_8 : decode cX12_heirs 8 = .ok (.invokevirtual 323, 3) := by decide +kernel
theorem dX12_heirs_11 : decode cX12_heirs 11 = .ok (.ifCond .ne 7, 3) := by decide +kernel
theorem dX12_heirs_14 : decode cX12_heirs 14 = .ok (.ldc_w 426, 3) := by decide +kernel
theorem dX12_heirs_17 : decode cX12_heirs 17 = .ok (.ireturn, 1) := by decide +kernel
theorem dX12_heirs_18 : decode cX12_heirs 18 = .ok (.aload_n 0, 1) := by decide +kernel
theorem dX12_heirs_19 : decode cX12_heirs 19 = .ok (.invokevirtual 326, 3) := by decide +kernel
theorem dX12_heirs_22 : decode cX12_heirs 22 = .ok (.aload_n 0, 1) := by decide +kernel
theorem dX12_heirs_23 : decode cX12_heirs 23 = .ok (.iload_n 1, 1) := by decide +kernel
theorem dX12_heirs_24 : decode cX12_heirs 24 = .ok (.iload_n 2, 1) := by decide +kernel
theorem dX12_heirs_25 : decode cX12_heirs 25 = .ok (.iconst 1, 1) := by decide +kernel
theorem dX12_heirs_26 : decode cX12_heirs 26 = .ok (.aload_n 0, 1) := by decide +kernel
theorem dX12_heirs_27 : decode cX12_heirs 27 = .ok (.invokevirtual 260, 3) := by decide +kernel
theorem dX12_heirs_30 : decode cX12_heirs 30 = .ok (.ishl, 1) := by decide +kernel
theorem dX12_heirs_31 : decode cX12_heirs 31 = .ok (.iconst 1, 1) := by decide +kernel
theorem dX12_heirs_32 : decode cX12_heirs 32 = .ok (.isub, 1) := by decide +kernel
theorem dX12_heirs_33 : decode cX12_heirs 33 = .ok (.invokevirtual 423, 3) := by decide +kernel
theorem dX12_heirs_36 : decode cX12_heirs 36 = .ok (.ireturn, 1) := by decide +kernel
theorem dX12_isSent_0 : decode cX12_isSent 0 = .ok (.aload_n 0, 1) := by decide +kernel
theorem dX12_isSent_1 : decode cX12_isSent 1 = .ok (.iload_n 1, 1) := by decide +kernel
theorem dX12_isSent_2 : decode cX12_isSent 2 = .ok (.iload_n 2, 1) := by decide +kernel
theorem dX12_isSent_3 : decode cX12_isSent 3 = .ok (.invokevirtual 323, 3) := by decide +kernel
theorem dX12_isSent_6 : decode cX12_isSent 6 = .ok (.ifCond .eq 29, 3) := by decide +kernel
theorem dX12_isSent_9 : decode cX12_isSent 9 = .ok (.aload_n 0, 1) := by decide +kernel
theorem dX12_isSent_10 : decode cX12_isSent 10 = .ok (.iload_n 3, 1) := by decide +kernel
theorem dX12_isSent_11 : decode cX12_isSent 11 = .ok (.i2l, 1) := by decide +kernel
theorem dX12_isSent_12 : decode cX12_isSent 12 = .ok (.invokevirtual 317, 3) := by decide +kernel
theorem dX12_isSent_15 : decode cX12_isSent 15 = .ok (.ifCond .eq 20, 3) := by decide +kernel
theorem dX12_isSent_18 : decode cX12_isSent 18 = .ok (.iload 4, 2) := by decide +kernel
theorem dX12_isSent_20 : decode cX12_isSent 20 = .ok (.i2l, 1) := by decide +kernel
theorem dX12_isSent_21 : decode cX12_isSent 21 = .ok (.lconst 0, 1) := by decide +kernel
theorem dX12_isSent_22 : decode cX12_isSent 22 = .ok (.ldc2_w 410, 3) := by decide +kernel
theorem dX12_isSent_25 : decode cX12_isSent 25 = .ok (.invokestatic 82, 3) := by decide +kernel
theorem dX12_isSent_28 : decode cX12_isSent 28 = .ok (.ifCond .eq 7, 3) := by decide +kernel
theorem dX12_isSent_31 : decode cX12_isSent 31 = .ok (.iconst 1, 1) := by decide +kernel
theorem dX12_isSent_32 : decode cX12_isSent 32 = .ok (.goto 4, 3) := by decide +kernel
theorem dX12_isSent_35 : decode cX12_isSent 35 = .ok (.iconst 0, 1) := by decide +kernel
theorem dX12_isSent_36 : decode cX12_isSent 36 = .ok (.ireturn, 1) := by decide +kernel
theorem dX12_power_0 : decode cX12_power 0 = .ok (.iload_n 2, 1) := by decide +kernel
theorem dX12_power_1 : decode cX12_power 1 = .ok (.ifCond .ne 7, 3) := by decide +kernel
theorem dX12_power_4 : decode cX12_power 4 = .ok (.lconst 1, 1) := by decide +kernel
theorem dX12_power_5 : decode cX12_power 5 = .ok (.goto 12, 3) := by decide +kernel
theorem dX12_power_8 : decode cX12_power 8 = .ok (.lload_n 0, 1) := by decide +kernel
theorem dX12_power_9 : decode cX12_power 9 = .ok (.lload_n 0, 1) := by decide +kernel
theorem dX12_power_10 : decode cX12_power 10 = .ok (.iload_n 2, 1) := by decide +kernel
theorem dX12_power_11 : decode cX12_power 11 = .ok (.iconst 1, 1) := by decide +kernel
theorem dX12_power_12 : decode cX12_power 12 = .ok (.isub, 1) := by decide +kernel
theorem dX12_power_13 : decode cX12_power 13 = .ok (.invokestatic 427, 3) := by decide +kernel
theorem dX12_power_16 : decode cX12_power 16 = .ok (.lmul, 1) := by decide +kernel
theorem dX12_power_17 : decode cX12_power 17 = .ok (.lreturn, 1) := by decide +kernel
theorem dX12_sizeOf_0 : decode cX12_sizeOf 0 = .ok (.iconst 0, 1) := by decide +kernel
theorem dX12_sizeOf_1 : decode cX12_sizeOf 1 = .ok (.istore_n 1, 1) := by decide +kernel
theorem dX12_sizeOf_2 : decode cX12_sizeOf 2 = .ok (.iload_n 0, 1) := by decide +kernel
theorem dX12_sizeOf_3 : decode cX12_sizeOf 3 = .ok (.istore_n 2, 1) := by decide +kernel
theorem dX12_sizeOf_4 : decode cX12_sizeOf 4 = .ok (.iload_n 2, 1) := by decide +kernel
theorem dX12_sizeOf_5 : decode cX12_sizeOf 5 = .ok (.ifCond .eq 15, 3) := by decide +kernel
theorem dX12_sizeOf_8 : decode cX12_sizeOf 8 = .ok (.iinc 1 1, 3) := by decide +kernel
theorem dX12_sizeOf_11 : decode cX12_sizeOf 11 = .ok (.iload_n 2, 1) := by decide +kernel
theorem dX12_sizeOf_12 : decode cX12_sizeOf 12 = .ok (.iload_n 2, 1) := by decide +kernel
theorem dX12_sizeOf_13 : decode cX12_sizeOf 13 = .ok (.iconst 1, 1) := by decide +kernel
theorem dX12_sizeOf_14 : decode cX12_sizeOf 14 = .ok (.isub, 1) := by decide +kernel
theorem dX12_sizeOf_15 : decode cX12_sizeOf 15 = .ok (.iand, 1) := by decide +kernel
theorem dX12_sizeOf_16 : decode cX12_sizeOf 16 = .ok (.istore_n 2, 1) := by decide +kernel
theorem dX12_sizeOf_17 : decode cX12_sizeOf 17 = .ok (.goto (-13), 3) := by decide +kernel
theorem dX12_sizeOf_20 : decode cX12_sizeOf 20 = .ok (.iload_n 1, 1) := by decide +kernel
theorem dX12_sizeOf_21 : decode cX12_sizeOf 21 = .ok (.ireturn, 1) := by decide +kernel
theorem dX12_takes__0 : decode cX12_takes_ 0 = .ok (.aload_n 0, 1) := by decide +kernel
theorem dX12_takes__1 : decode cX12_takes_ 1 = .ok (.iconst 0, 1) := by decide +kernel
theorem dX12_takes__2 : decode cX12_takes_ 2 = .ok (.putfield 77, 3) := by decide +kernel
theorem dX12_takes__5 : decode cX12_takes_ 5 = .ok (.aload_n 0, 1) := by decide +kernel
theorem dX12_takes__6 : decode cX12_takes_ 6 = .ok (.iload_n 1, 1) := by decide +kernel
theorem dX12_takes__7 : decode cX12_takes_ 7 = .ok (.iload_n 2, 1) := by decide +kernel
theorem dX12_takes__8 : decode cX12_takes_ 8 = .ok (.invokevirtual 323, 3) := by decide +kernel
theorem dX12_takes__11 : decode cX12_takes_ 11 = .ok (.ifCond .ne 6, 3) := by decide +kernel
theorem dX12_takes__14 : decode cX12_takes_ 14 = .ok (.bipush (-2), 2) := by decide +kernel
theorem dX12_takes__16 : decode cX12_takes_ 16 = .ok (.ireturn, 1) := by decide +kernel
theorem dX12_takes__17 : decode cX12_takes_ 17 = .ok (.aload_n 0, 1) := by decide +kernel
theorem dX12_takes__18 : decode cX12_takes_ 18 = .ok (.invokevirtual 326, 3) := by decide +kernel
theorem dX12_takes__21 : decode cX12_takes_ 21 = .ok (.iconst 1, 1) := by decide +kernel
theorem dX12_takes__22 : decode cX12_takes_ 22 = .ok (.aload_n 0, 1) := by decide +kernel
theorem dX12_takes__23 : decode cX12_takes_ 23 = .ok (.invokevirtual 260, 3) := by decide +kernel
theorem dX12_takes__26 : decode cX12_takes_ 26 = .ok (.ishl, 1) := by decide +kernel
theorem dX12_takes__27 : decode cX12_takes_ 27 = .ok (.iconst 1, 1) := by decide +kernel
theorem dX12_takes__28 : decode cX12_takes_ 28 = .ok (.isub, 1) := by decide +kernel
theorem dX12_takes__29 : decode cX12_takes_ 29 = .ok (.istore_n 3, 1) := by decide +kernel
theorem dX12_takes__30 : decode cX12_takes_ 30 = .ok (.aload_n 0, 1) := by decide +kernel
theorem dX12_takes__31 : decode cX12_takes_ 31 = .ok (.iload_n 1, 1) := by decide +kernel
theorem dX12_takes__32 : decode cX12_takes_ 32 = .ok (.iload_n 2, 1) := by decide +kernel
theorem dX12_takes__33 : decode cX12_takes_ 33 = .ok (.iload_n 3, 1) := by decide +kernel
theorem dX12_takes__34 : decode cX12_takes_ 34 = .ok (.invokevirtual 423, 3) := by decide +kernel
theorem dX12_takes__37 : decode cX12_takes_ 37 = .ok (.istore 4, 2) := by decide +kernel
theorem dX12_takes__39 : decode cX12_takes_ 39 = .ok (.iconst 0, 1) := by decide +kernel
theorem dX12_takes__40 : decode cX12_takes_ 40 = .ok (.istore 5, 2) := by decide +kernel
theorem dX12_takes__42 : decode cX12_takes_ 42 = .ok (.iload 5, 2) := by decide +kernel
theorem dX12_takes__44 : decode cX12_takes_ 44 = .ok (.aload_n 0, 1) := by decide +kernel
theorem dX12_takes__45 : decode cX12_takes_ 45 = .ok (.invokevirtual 260, 3) := by decide +kernel
theorem dX12_takes__48 : decode cX12_takes_ 48 = .ok (.if_icmp .ge 42, 3) := by decide +kernel
theorem dX12_takes__51 : decode cX12_takes_ 51 = .ok (.aload_n 0, 1) := by decide +kernel
theorem dX12_takes__52 : decode cX12_takes_ 52 = .ok (.iload_n 1, 1) := by decide +kernel
theorem dX12_takes__53 : decode cX12_takes_ 53 = .ok (.iload_n 2, 1) := by decide +kernel
theorem dX12_takes__54 : decode cX12_takes_ 54 = .ok (.iload 5, 2) := by decide +kernel
theorem dX12_takes__56 : decode cX12_takes_ 56 = .ok (.invokevirtual 338, 3) := by decide +kernel
theorem dX12_takes__59 : decode cX12_takes_ 59 = .ok (.aload_n 0, 1) := by decide +kernel
theorem dX12_takes__60 : decode cX12_takes_ 60 = .ok (.iload_n 1, 1) := by decide +kernel
theorem dX12_takes__61 : decode cX12_takes_ 61 = .ok (.iload_n 2, 1) := by decide +kernel
theorem dX12_takes__62 : decode cX12_takes_ 62 = .ok (.iconst 1, 1) := by decide +kernel
theorem dX12_takes__63 : decode cX12_takes_ 63 = .ok (.iadd, 1) := by decide +kernel
theorem dX12_takes__64 : decode cX12_takes_ 64 = .ok (.iload_n 3, 1) := by decide +kernel
theorem dX12_takes__65 : decode cX12_takes_ 65 = .ok (.iconst 1, 1) := by decide +kernel
theorem dX12_takes__66 : decode cX12_takes_ 66 = .ok (.iload 5, 2) := by decide +kernel
theorem dX12_takes__68 : decode cX12_takes_ 68 = .ok (.ishl, 1) := by decide +kernel
theorem dX12_takes__69 : decode cX12_takes_ 69 = .ok (.iconst (-1), 1) := by decide +kernel
theorem dX12_takes__70 : decode cX12_takes_ 70 = .ok (.ixor, 1) := by decide +kernel
theorem dX12_takes__71 : decode cX12_takes_ 71 = .ok (.iand, 1) := by decide +kernel
theorem dX12_takes__72 : decode cX12_takes_ 72 = .ok (.invokevirtual 423, 3) := by decide +kernel
theorem dX12_takes__75 : decode cX12_takes_ 75 = .ok (.isub, 1) := by decide +kernel
theorem dX12_takes__76 : decode cX12_takes_ 76 = .ok (.iload 4, 2) := by decide +kernel
theorem dX12_takes__78 : decode cX12_takes_ 78 = .ok (.if_icmp .ne 6, 3) := by decide +kernel
theorem dX12_takes__81 : decode cX12_takes_ 81 = .ok (.iload 5, 2) := by decide +kernel
theorem dX12_takes__83 : decode cX12_takes_ 83 = .ok (.ireturn, 1) := by decide +kernel
theorem dX12_takes__84 : decode cX12_takes_ 84 = .ok (.iinc 5 1, 3) := by decide +kernel
theorem dX12_takes__87 : decode cX12_takes_ 87 = .ok (.goto (-45), 3) := by decide +kernel
theorem dX12_takes__90 : decode cX12_takes_ 90 = .ok (.iconst (-1), 1) := by decide +kernel
theorem dX12_takes__91 : decode cX12_takes_ 91 = .ok (.ireturn, 1) := by decide +kernel
theorem dX12_weightOf_0 : decode cX12_weightOf 0 = .ok (.aload_n 0, 1) := by decide +kernel
theorem dX12_weightOf_1 : decode cX12_weightOf 1 = .ok (.invokevirtual 326, 3) := by decide +kernel
theorem dX12_weightOf_4 : decode cX12_weightOf 4 = .ok (.lconst 0, 1) := by decide +kernel
theorem dX12_weightOf_5 : decode cX12_weightOf 5 = .ok (.lstore 6, 2) := by decide +kernel
theorem dX12_weightOf_7 : decode cX12_weightOf 7 = .ok (.iconst 0, 1) := by decide +kernel
theorem dX12_weightOf_8 : decode cX12_weightOf 8 = .ok (.istore 8, 2) := by decide +kernel
theorem dX12_weightOf_10 : decode cX12_weightOf 10 = .ok (.iload 8, 2) := by decide +kernel
theorem dX12_weightOf_12 : decode cX12_weightOf 12 = .ok (.iconst 1, 1) := by decide +kernel
theorem dX12_weightOf_13 : decode cX12_weightOf 13 = .ok (.iload 4, 2) := by decide +kernel
theorem dX12_weightOf_15 : decode cX12_weightOf 15 = .ok (.ishl, 1) := by decide +kernel
theorem dX12_weightOf_16 : decode cX12_weightOf 16 = .ok (.if_icmp .ge 95, 3) := by decide +kernel
theorem dX12_weightOf_19 : decode cX12_weightOf 19 = .ok (.iload 8, 2) := by decide +kernel
theorem dX12_weightOf_21 : decode cX12_weightOf 21 = .ok (.invokestatic 430, 3) := by decide +kernel
theorem dX12_weightOf_24 : decode cX12_weightOf 24 = .ok (.istore 9, 2) := by decide +kernel
theorem dX12_weightOf_26 : decode cX12_weightOf 26 = .ok (.aload_n 0, 1) := by decide +kernel
theorem dX12_weightOf_27 : decode cX12_weightOf 27 = .ok (.getfield 34, 3) := by decide +kernel
theorem dX12_weightOf_30 : decode cX12_weightOf 30 = .ok (.iconst 0, 1) := by decide +kernel
theorem dX12_weightOf_31 : decode cX12_weightOf 31 = .ok (.iaload, 1) := by decide +kernel
theorem dX12_weightOf_32 : decode cX12_weightOf 32 = .ok (.i2l, 1) := by decide +kernel
theorem dX12_weightOf_33 : decode cX12_weightOf 33 = .ok (.iload 9, 2) := by decide +kernel
theorem dX12_weightOf_35 : decode cX12_weightOf 35 = .ok (.invokestatic 427, 3) := by decide +kernel
theorem dX12_weightOf_38 : decode cX12_weightOf 38 = .ok (.ldc2_w 433, 3) := by decide +kernel
theorem dX12_weightOf_41 : decode cX12_weightOf 41 = .ok (.aload_n 0, 1) := by decide +kernel
theorem dX12_weightOf_42 : decode cX12_weightOf 42 = .ok (.getfield 34, 3) := by decide +kernel
theorem dX12_weightOf_45 : decode cX12_weightOf 45 = .ok (.iconst 0, 1) := by decide +kernel
theorem dX12_weightOf_46 : decode cX12_weightOf 46 = .ok (.iaload, 1) := by decide +kernel
theorem dX12_weightOf_47 : decode cX12_weightOf 47 = .ok (.i2l, 1) := by decide +kernel
theorem dX12_weightOf_48 : decode cX12_weightOf 48 = .ok (.lsub, 1) := by decide +kernel
theorem dX12_weightOf_49 : decode cX12_weightOf 49 = .ok (.iload 4, 2) := by decide +kernel
theorem dX12_weightOf_51 : decode cX12_weightOf 51 = .ok (.iload 9, 2) := by decide +kernel
theorem dX12_weightOf_53 : decode cX12_weightOf 53 = .ok (.isub, 1) := by decide +kernel
theorem dX12_weightOf_54 : decode cX12_weightOf 54 = .ok (.invokestatic 427, 3) := by decide +kernel
theorem dX12_weightOf_57 : decode cX12_weightOf 57 = .ok (.lmul, 1) := by decide +kernel
theorem dX12_weightOf_58 : decode cX12_weightOf 58 = .ok (.lstore 10, 2) := by decide +kernel
theorem dX12_weightOf_60 : decode cX12_weightOf 60 = .ok (.aload_n 0, 1) := by decide +kernel
theorem dX12_weightOf_61 : decode cX12_weightOf 61 = .ok (.iload_n 1, 1) := by decide +kernel
theorem dX12_weightOf_62 : decode cX12_weightOf 62 = .ok (.iload_n 2, 1) := by decide +kernel
theorem dX12_weightOf_63 : decode cX12_weightOf 63 = .ok (.iload 9, 2) := by decide +kernel
theorem dX12_weightOf_65 : decode cX12_weightOf 65 = .ok (.iadd, 1) := by decide +kernel
theorem dX12_weightOf_66 : decode cX12_weightOf 66 = .ok (.iload_n 3, 1) := by decide +kernel
theorem dX12_weightOf_67 : decode cX12_weightOf 67 = .ok (.invokevirtual 338, 3) := by decide +kernel
theorem dX12_weightOf_70 : decode cX12_weightOf 70 = .ok (.istore 12, 2) := by decide +kernel
theorem dX12_weightOf_72 : decode cX12_weightOf 72 = .ok (.lload 6, 2) := by decide +kernel
theorem dX12_weightOf_74 : decode cX12_weightOf 74 = .ok (.lload 10, 2) := by decide +kernel
theorem dX12_weightOf_76 : decode cX12_weightOf 76 = .ok (.iload 5, 2) := by decide +kernel
theorem dX12_weightOf_78 : decode cX12_weightOf 78 = .ok (.ifCond .eq 8, 3) := by decide +kernel
theorem dX12_weightOf_86 : decode cX12_weightOf 86 = .ok (.iload 12, 2) := by decide +kernel
theorem dX12_weightOf_88 : decode cX12_weightOf 88 = .ok (.aload_n 0, 1) := by decide +kernel
theorem dX12_weightOf_89 : decode cX12_weightOf 89 = .ok (.invokevirtual 308, 3) := by decide +kernel
theorem dX12_weightOf_92 : decode cX12_weightOf 92 = .ok (.if_icmp .le 7, 3) := by decide +kernel
theorem dX12_weightOf_95 : decode cX12_weightOf 95 = .ok (.iconst 1, 1) := by decide +kernel
theorem dX12_weightOf_96 : decode cX12_weightOf 96 = .ok (.goto 4, 3) := by decide +kernel
theorem dX12_weightOf_99 : decode cX12_weightOf 99 = .ok (.iconst 0, 1) := by decide +kernel
theorem dX12_weightOf_100 : decode cX12_weightOf 100 = .ok (.i2l, 1) := by decide +kernel
theorem dX12_weightOf_101 : decode cX12_weightOf 101 = .ok (.lmul, 1) := by decide +kernel
theorem dX12_weightOf_102 : decode cX12_weightOf 102 = .ok (.ladd, 1) := by decide +kernel
theorem dX12_weightOf_103 : decode cX12_weightOf 103 = .ok (.lstore 6, 2) := by decide +kernel
theorem dX12_weightOf_105 : decode cX12_weightOf 105 = .ok (.iinc 8 1, 3) := by decide +kernel
theorem dX12_weightOf_108 : decode cX12_weightOf 108 = .ok (.goto (-98), 3) := by decide +kernel
theorem dX12_weightOf_111 : decode cX12_weightOf 111 = .ok (.lload 6, 2) := by decide +kernel
theorem dX12_weightOf_113 : decode cX12_weightOf 113 = .ok (.lreturn, 1) := by decide +kernel
theorem mm_km100000 : mm_rg (-100000) (-100000) (-100000) := ⟨by decide, by decide⟩
theorem hs_X12_power : yX12_power.cls ≠ "java/lang/invoke/MethodHandle" ∧ yX12_power.cls ≠ "java/lang/invoke/VarHandle" ∧ (parseMethodDescriptor yX12_power.desc).map (fun d => d.parameters.length) = some 2 := by decide +kernel
theorem hs_X12_sizeOf : yX12_sizeOf.cls ≠ "java/lang/invoke/MethodHandle" ∧ yX12_sizeOf.cls ≠ "java/lang/invoke/VarHandle" ∧ (parseMethodDescriptor yX12_sizeOf.desc).map (fun d => d.parameters.length) = some 1 := by decide +kernel
set_option maxHeartbeats 4000000 in
set_option maxRecDepth 100000 in
theorem M235_X12_heirsOf (l : Launch) (G : va_G) (cy : Nat → ClassId) (sz : Nat) (a_0 : Nat) (i_0 : Int32) (i_1 : Int32) (i_2 : Int32) (i_3 : Int32) (a_1 : Nat) (a_2 : Nat) (a_3 : Nat) (a_4 : Nat) (a_5 : Nat) (i_4 : Int32) (i_5 : Int32) (i_6 : Int32) (i_7 : Int32) (i_8 : Int32) (j_0 : Int64) (i_9 : Int32) (i_10 : Int32) (i_11 : Int32) (i_12 : Int32) (a_6 : Nat) (a_7 : Nat) (a_8 : Nat) (a_9 : Nat) (a_10 : Nat) (a_11 : Nat) (a_12 : Nat) (a_13 : Nat) (a_14 : Nat) (a_15 : Nat) (a_16 : Nat) (a_17 : Nat) (a_18 : Nat) (i_13 : Int32) (i_14 : Int32) (i_15 : Int32) (i_16 : Int32) (i_17 : Int32) (i_18 : Int32) (a_19 : Nat) (i_19 : Int32) (a_20 : Nat) (i_20 : Int32) (i_21 : Int32) (i_22 : Int32) (i_23 : Int32) (i_24 : Int32) (i_25 : Int32) (i_26 : Int32) (i_27 : Int32) (i_28 : Int32) (i_29 : Int32) (i_30 : Int32) (i_31 : Int32) (i_32 : Int32) (i_33 : Int32) (i_34 : Int32) (i_35 : Int32) (i_36 : Int32) (i_37 : Int32) (i_38 : Int32) (i_39 : Int32) (i_40 : Int32) (i_41 : Int32) (i_42 : Int32) (i_43 : Int32) (i_44 : Int32) (i_45 : Int32) (i_46 : Int32) (i_47 : Int32) (i_48 : Int32) (i_49 : Int32) (f_0 : Nat → Int32) (f_1 : Nat → Int32) (f_2 : Nat → Int32) (f_3 : Nat → Int32) (f_4 : Nat → Int32) (f_5 : Nat → Int32) (f_6 : Nat → Int32) (h0 : mm_rg i_0 0 2) (h1 : mm_rg i_1 0 1000000005) (h2 : mm_rg i_2 0 63) (h3 : mm_rg i_13 0 8) (h4 : mm_rg i_20 0 10) (h5 : mm_rg i_21 0 99) (h6 : mm_rg i_22 0 9) (h7 : mm_rg i_23 0 3) (h8 : mm_rg i_24 0 6) (h9 : mm_rg i_25 0 30) (h10 : mm_rg i_26 0 10) (h11 : mm_rg i_27 0 99) (h12 : mm_rg i_28 0 9) (h13 : mm_rg i_29 0 3) (h14 : mm_rg i_30 0 6) (h15 : mm_rg i_31 0 30) (h16 : mm_rg i_32 0 10) (h17 : mm_rg i_33 0 99) (h18 : mm_rg i_34 0 9) (h19 : mm_rg i_35 0 3) (h20 : mm_rg i_36 0 6) (h21 : mm_rg i_37 0 30) (h22 : mm_rg i_38 0 10) (h23 : mm_rg i_39 0 99) (h24 : mm_rg i_40 0 9) (h25 : mm_rg i_41 0 3) (h26 : mm_rg i_42 0 6) (h27 : mm_rg i_43 0 30) (h28 : mm_rg i_44 0 10) (h29 : mm_rg i_45 0 99) (h30 : mm_rg i_46 0 9) (h31 : mm_rg i_47 0 3) (h32 : mm_rg i_48 0 6) (h33 : mm_rg i_49 0 30) (h34 : mm_ar f_0 0 99) (h35 : mm_ar f_1 0 8) (h36 : mm_ar f_2 0 9) (h37 : mm_ar f_3 (-1) 99) (h38 : mm_ar f_4 0 9) (h39 : mm_ar f_5 0 210) (h40 : mm_ar f_6 0 9) (h41 : mm_txs f_1 f_2 0 i_22 i_24) (h42 : mm_acs f_3 0 i_22 i_23 i_25) (h43 : mm_txs f_1 f_2 1 i_28 i_30) (h44 : mm_acs f_3 1 i_28 i_29 i_31) (h45 : mm_txs f_1 f_2 2 i_34 i_36) (h46 : mm_acs f_3 2 i_34 i_35 i_37) (h47 : mm_txs f_1 f_2 3 i_40 i_42) (h48 : mm_acs f_3 3 i_40 i_41 i_43) (h49 : mm_f1 f_5 i_0) (h50 : mm_pc 2 i_2)  : mm_CI l yX12_heirsOf (mm_ws yX12_heirsOf cX12_heirsOf 7 (some .int)) ({ frames := 4, cells := 0, slots := 0, locals := 99 } : Room) G cy sz [(a_0, .inr (12, [.int i_3, .ref a_1, .ref a_2, .ref a_3, .ref a_4, .ref a_5, .int i_4, .int i_5, .int i_6, .int i_7, .int i_8, .long j_0, .int i_9, .int i_10, .int i_11, .int i_12, .ref a_6, .ref a_7, .ref a_8, .ref a_9, .ref a_10, .ref a_11, .ref a_12, .ref a_13, .ref a_14, .ref a_15, .ref a_16, .ref a_17, .ref a_18, .int i_13, .int i_14, .int i_15, .int i_16, .int i_17, .int i_18, .ref a_19, .int i_19, .ref a_20])), (a_7, .inl (cy 1, 30, .inl (mm_g [i_20, i_21, i_22, i_23, i_24, i_25, i_26, i_27, i_28, i_29, i_30, i_31, i_32, i_33, i_34, i_35, i_36, i_37, i_38, i_39, i_40, i_41, i_42, i_43, i_44, i_45, i_46, i_47, i_48, i_49]))), (a_8, .inl (cy 1, 90, .inl f_0)), (a_11, .inl (cy 1, 30, .inl f_1)), (a_12, .inl (cy 1, 240, .inl f_2)), (a_13, .inl (cy 1, 450, .inl f_3)), (a_15, .inl (cy 1, 7200, .inl f_4)), (a_16, .inl (cy 1, 3, .inl f_5)), (a_18, .inl (cy 1, 8, .inl f_6))] [.ref a_0, .int i_0, .int i_1, .int i_2] (fun u : Int32 × Int32 × Int32 × (Nat → Int32) => [(a_0, .inr (12, [.int i_3, .ref a_1, .ref a_2, .ref a_3, .ref a_4, .ref a_5, .int i_4, .int i_5, .int i_6, .int i_7, .int i_8, .long j_0, .int i_9, .int i_10, .int i_11, .int i_12, .ref a_6, .ref a_7, .ref a_8, .ref a_9, .ref a_10, .ref a_11, .ref a_12, .ref a_13, .ref a_14, .ref a_15, .ref a_16, .ref a_17, .ref a_18, .int u.1, .int u.2.1, .int u.2.2.1, .int i_16, .int i_17, .int i_18, .ref a_19, .int i_19, .ref a_20])), (a_7, .inl (cy 1, 30, .inl (mm_g [i_20, i_21, i_22, i_23, i_24, i_25, i_26, i_27, i_28, i_29, i_30, i_31, i_32, i_33, i_34, i_35, i_36, i_37, i_38, i_39, i_40, i_41, i_42, i_43, i_44, i_45, i_46, i_47, i_48, i_49]))), (a_8, .inl (cy 1, 90, .inl f_0)), (a_11, .inl (cy 1, 30, .inl f_1)), (a_12, .inl (cy 1, 240, .inl f_2)), (a_13, .inl (cy 1, 450, .inl f_3)), (a_15, .inl (cy 1, 7200, .inl f_4)), (a_16, .inl (cy 1, 3, .inl f_5)), (a_18, .inl (cy 1, 8, .inl u.2.2.2))]) (fun (r : Int32) (u : Int32 × Int32 × Int32 × (Nat → Int32)) => mm_rg u.1 0 8 ∧ mm_ar u.2.2.2 0 9 ∧ mm_rg r (-1000000) 1009999) 0 0 := by
  refine mm_begin (lv := [(0, .ref a_0), (1, .int i_0), (2, .int i_1), (3, .int i_2)]) (by decide) (Nat.le_of_ble_eq_true rfl) rfl ?_
  intro p e s m below meth c A ls R args Q H locs hRe hQ hAe hx hb hr hlocks hml hown hnm hts hsz hA hS hP hK hD hZ hl
  have hRf : R.frames = 4 := by rw [hRe]
  have hRl : R.locals = 99 := by rw [hRe]
  have hRc : R.cells = 0 := by rw [hRe]
  have hRs : R.slots = 0 := by rw [hRe]
  refine lv_iload_n hx hb dX12_heirsOf_0 rfl (lv_at hl 3 rfl) ?_
  refine lv_if_ne (tgt := 8) hx hb dX12_heirsOf_1 (by decide) (fun c1 => ?_) (fun c1 => ?_)
  · have q2 := mm_neL (lo := 1) (mm_ne c1) h2 mm_k0 (by decide) (by decide)
    refine lv_ldcw (v := (-1000000)) hx hb hown (mm_h hts mm_w1460) dX12_heirsOf_8 ?_
    refine lv_istore (lv' := [(4, .int (-1000000)), (0, .ref a_0), (1, .int i_0), (2, .int i_1), (3, .int i_2)]) hx hb dX12_heirsOf_11 hl (by decide) rfl ?_
    clear hl
    clear ls
    intro ls hl
    refine lv_iconst (v := 0) hx hb dX12_heirsOf_13 (by decide) ?_
    refine lv_istore (lv' := [(5, .int 0), (4, .int (-1000000)), (0, .ref a_0), (1, .int i_0), (2, .int i_1), (3, .int i_2)]) hx hb dX12_heirsOf_14 hl (by decide) rfl ?_
    clear hl
    clear ls
    intro ls hl
    have L16_319 : ∀ (n : Nat) (x16_5_314 : Int32) (x16_4_315 : Int32) (y16_0_29_316 : Int32) (y16_0_30_317 : Int32) (y16_0_31_318 : Int32) (z16_8_319 : Nat → Int32), mm_rg x16_5_314 0 6 → mm_rg x16_4_315 (-1000000) 1009999 → mm_rg y16_0_29_316 0 8 → mm_ar z16_8_319 0 9 → (6 - x16_5_314.toInt).toNat < n → ∀ (H : Heap) (locs : List Loc), va_P G vwCl [(a_0, .inr (12, [.int i_3, .ref a_1, .ref a_2, .ref a_3, .ref a_4, .ref a_5, .int i_4, .int i_5, .int i_6, .int i_7, .int i_8, .long j_0, .int i_9, .int i_10, .int i_11, .int i_12, .ref a_6, .ref a_7, .ref a_8, .ref a_9, .ref a_10, .ref a_11, .ref a_12, .ref a_13, .ref a_14, .ref a_15, .ref a_16, .ref a_17, .ref a_18, .int y16_0_29_316, .int y16_0_30_317, .int y16_0_31_318, .int i_16, .int i_17, .int i_18, .ref a_19, .int i_19, .ref a_20])), (a_7, .inl (cy 1, 30, .inl (mm_g [i_20, i_21, i_22, i_23, i_24, i_25, i_26, i_27, i_28, i_29, i_30, i_31, i_32, i_33, i_34, i_35, i_36, i_37, i_38, i_39, i_40, i_41, i_42, i_43, i_44, i_45, i_46, i_47, i_48, i_49]))), (a_8, .inl (cy 1, 90, .inl f_0)), (a_11, .inl (cy 1, 30, .inl f_1)), (a_12, .inl (cy 1, 240, .inl f_2)), (a_13, .inl (cy 1, 450, .inl f_3)), (a_15, .inl (cy 1, 7200, .inl f_4)), (a_16, .inl (cy 1, 3, .inl f_5)), (a_18, .inl (cy 1, 8, .inl z16_8_319))] H → va_D A [(a_0, .inr (12, [.int i_3, .ref a_1, .ref a_2, .ref a_3, .ref a_4, .ref a_5, .int i_4, .int i_5, .int i_6, .int i_7, .int i_8, .long j_0, .int i_9, .int i_10, .int i_11, .int i_12, .ref a_6, .ref a_7, .ref a_8, .ref a_9, .ref a_10, .ref a_11, .ref a_12, .ref a_13, .ref a_14, .ref a_15, .ref a_16, .ref a_17, .ref a_18, .int y16_0_29_316, .int y16_0_30_317, .int y16_0_31_318, .int i_16, .int i_17, .int i_18, .ref a_19, .int i_19, .ref a_20])), (a_7, .inl (cy 1, 30, .inl (mm_g [i_20, i_21, i_22, i_23, i_24, i_25, i_26, i_27, i_28, i_29, i_30, i_31, i_32, i_33, i_34, i_35, i_36, i_37, i_38, i_39, i_40, i_41, i_42, i_43, i_44, i_45, i_46, i_47, i_48, i_49]))), (a_8, .inl (cy 1, 90, .inl f_0)), (a_11, .inl (cy 1, 30, .inl f_1)), (a_12, .inl (cy 1, 240, .inl f_2)), (a_13, .inl (cy 1, 450, .inl f_3)), (a_15, .inl (cy 1, 7200, .inl f_4)), (a_16, .inl (cy 1, 3, .inl f_5)), (a_18, .inl (cy 1, 8, .inl z16_8_319))] → va_S A s.heap H locs → ∀ (ls : Array Slot), lv_has ls 7 [(5, .int x16_5_314), (4, .int x16_4_315), (0, .ref a_0), (1, .int i_0), (2, .int i_1), (3, .int i_2)] → W p l e R s m args below meth c H locs 0 0 Q (F0 m 16 ls []) := by
      intro n
      induction n with
      | zero => intro x16_5_314 x16_4_315 y16_0_29_316 y16_0_30_317 y16_0_31_318 z16_8_319 rx16_5_314 rx16_4_315 ry16_0_29_316 rz16_8_319 hm; exact absurd hm (Nat.not_lt_zero _)
      | succ n ih16 =>
        intro x16_5_314 x16_4_315 y16_0_29_316 y16_0_30_317 y16_0_31_318 z16_8_319 rx16_5_314 rx16_4_315 ry16_0_29_316 rz16_8_319 hm16 H locs hP hD hS ls hl
        refine lv_iload hx hb dX12_heirsOf_16 (lv_at hl 0 rfl) ?_
        refine lv_aload_n hx hb dX12_heirsOf_18 rfl (lv_at hl 2 rfl) ?_
        refine mm_finir (va_runV (As := []) (rest := [.int x16_5_314]) ⟨hx, hb, hml, hown, hts⟩ (M95_X12_texts l G cy H.size a_0 i_3 a_1 a_2 a_3 a_4 a_5 i_4 i_5 i_6 i_7 i_8 j_0 i_9 i_10 i_11 i_12 a_6 a_7 a_8 a_9 a_10 a_11 a_12 a_13 a_14 a_15 a_16 a_17 a_18 y16_0_29_316 y16_0_30_317 y16_0_31_318 i_16 i_17 i_18 a_19 i_19 a_20 i_20 i_21 i_22 i_23 i_24 i_25 i_26 i_27 i_28 i_29 i_30 i_31 i_32 i_33 i_34 i_35 i_36 i_37 i_38 i_39 i_40 i_41 i_42 i_43 i_44 i_45 i_46 i_47 i_48 i_49 h4 h5 h6 h7 h8 h9 h10 h11 h12 h13 h14 h15 h16 h17 h18 h19 h20 h21 h22 h23 h24 h25 h26 h27 h28 h29 h30 h31 h32 h33) (cwV 0 hts (mm_gV mm_w617 mm_w618 mm_w619 mm_w5 mm_w620) rfl rfl rfl hd_X12_texts ⟨by rw [hRf]; exact Nat.le_of_ble_eq_true rfl, by rw [hRl]; exact Nat.le_of_ble_eq_true rfl⟩) (mm_preV hK hZ hS hA hP hD [0, 1] rfl rfl 0 rfl rfl rfl) rfl rfl hl.1 rfl (lv_room (Nat.le_of_ble_eq_true rfl)) dX12_heirsOf_19 ⟨by rw [hRc]; exact Nat.le_of_ble_eq_true rfl, by rw [hRs]; exact Nat.le_of_ble_eq_true rfl⟩) hP hD hS hA [0, 1] rfl (fun _ => rfl) ?_
        clear hP hD hS
        clear H locs
        intro v321 _u H locs hw hP hD hS
        subst hw
        refine lv_icmp_ge (tgt := 86) hx hb dX12_heirsOf_22 (by decide) (fun c322 => ?_) (fun c322 => ?_)
        · refine lv_iload hx hb dX12_heirsOf_86 (lv_at hl 1 rfl) ?_
          subst hAe
          rw [hQ]
          exact W.iret (v := x16_4_315) hx hb hr (fun t ht hW => ⟨⟨x16_4_315, (y16_0_29_316, y16_0_30_317, y16_0_31_318, z16_8_319), rfl, ⟨ry16_0_29_316, rz16_8_319, rx16_4_315⟩, by rw [ht]; exact hP, hK.warm hW, hD⟩, hS.F ht⟩) hS.2.2 dX12_heirsOf_88
        · have q323 := mm_ltL (h := 5) (mm_nle c322) rx16_5_314 h8 (by decide)
          have q324 := mm_ltR (lo := 1) (mm_nle c322) rx16_5_314 h8 (by decide)
          refine lv_iload_n hx hb dX12_heirsOf_25 rfl (lv_at hl 5 rfl) ?_
          refine lv_iload hx hb dX12_heirsOf_26 (lv_at hl 0 rfl) ?_
          refine mm_finir (va_runS (As := [.int i_2, .int x16_5_314]) (rest := []) ⟨hx, hb, hml, hown, hts⟩ (M232_X12_isBit l G cy H.size i_2 x16_5_314 (mm_wk q2 (by decide)) q323) (va_cwS 2 hts (mm_gS mm_w1461 mm_w1462 mm_w5 mm_w1463) rfl rfl rfl hs_X12_isBit ⟨by rw [hRf]; exact Nat.le_of_ble_eq_true rfl, by rw [hRl]; exact Nat.le_of_ble_eq_true rfl⟩) (mm_preS hK hZ hS hA hP hD [] rfl rfl) rfl rfl hl.1 rfl (lv_room (Nat.le_of_ble_eq_true rfl)) dX12_heirsOf_28 ⟨by rw [hRc]; exact Nat.le_of_ble_eq_true rfl, by rw [hRs]; exact Nat.le_of_ble_eq_true rfl⟩) hP hD hS hA [] rfl (fun _ => rfl) ?_
          clear hP hD hS
          clear H locs
          intro v325 _u H locs hw hP hD hS
          rcases hw with ⟨rfl, w326⟩ | ⟨rfl, w327⟩
          · refine lv_if_ne (tgt := 37) hx hb dX12_heirsOf_31 (by decide) (fun c328 => ?_) (fun c328 => ?_)
            · have q329 := mm_neL (lo := 1) (mm_ne c328) mm_k0 mm_k0 (by decide) (by decide)
              exact mm_no q329 (by decide)
            · refine lv_goto (tgt := 80) hx hb dX12_heirsOf_34 (by decide) ?_
              obtain ⟨v330, ev330⟩ : ∃ y : Int32, y = x16_5_314 + 1 := ⟨_, rfl⟩
              refine lv_iinc (v := v330) (lv' := [(5, .int v330), (4, .int x16_4_315), (0, .ref a_0), (1, .int i_0), (2, .int i_1), (3, .int i_2)]) hx hb dX12_heirsOf_80 hl (k := 0) rfl (by rw [ev330]; rfl) (by decide) rfl ?_
              clear hl
              clear ls
              intro ls hl
              have rv330 : mm_rg v330 1 6 := mm_add ev330 q323 mm_k1 (by decide) (by decide)
              have tv330 := mm_addEc ev330 q323 mm_k1 (by decide) (k := 1) (by decide)
              refine lv_goto (tgt := 16) hx hb dX12_heirsOf_83 (by decide) ?_
              exact ih16 v330 x16_4_315 y16_0_29_316 y16_0_30_317 y16_0_31_318 z16_8_319 (mm_wk rv330 (by decide)) rx16_4_315 ry16_0_29_316 rz16_8_319 (mm_mu hm16 tv330 (by decide) (rv330).2 (by decide)) H locs hP hD hS ls (lv_sub hl [0, 1, 2, 3, 4, 5] rfl)
          · refine lv_if_ne (tgt := 37) hx hb dX12_heirsOf_31 (by decide) (fun c331 => ?_) (fun c331 => ?_)
            · refine lv_aload_n hx hb dX12_heirsOf_37 rfl (lv_at hl 2 rfl) ?_
              refine lv_iload_n hx hb dX12_heirsOf_38 rfl (lv_at hl 3 rfl) ?_
              refine lv_iload_n hx hb dX12_heirsOf_39 rfl (lv_at hl 4 rfl) ?_
              refine lv_iload hx hb dX12_heirsOf_40 (lv_at hl 0 rfl) ?_
              refine mm_fini (va_runV (As := [.int i_0, .int i_1, .int x16_5_314]) (rest := []) ⟨hx, hb, hml, hown, hts⟩ (M141_X12_reads l G cy H.size a_0 i_0 i_1 x16_5_314 i_3 a_1 a_2 a_3 a_4 a_5 i_4 i_5 i_6 i_7 i_8 j_0 i_9 i_10 i_11 i_12 a_6 a_7 a_8 a_9 a_10 a_11 a_12 a_13 a_14 a_15 a_16 a_17 a_18 y16_0_29_316 y16_0_30_317 y16_0_31_318 i_16 i_17 i_18 a_19 i_19 a_20 i_20 i_21 i_22 i_23 i_24 i_25 i_26 i_27 i_28 i_29 i_30 i_31 i_32 i_33 i_34 i_35 i_36 i_37 i_38 i_39 i_40 i_41 i_42 i_43 i_44 i_45 i_46 i_47 i_48 i_49 f_0 f_1 f_2 f_3 f_4 f_5 z16_8_319 h0 (mm_wk h1 (by decide)) q323 ry16_0_29_316 h4 h5 h6 h7 (mm_wk q324 (by decide)) h9 h10 h11 h12 h13 h14 h15 h16 h17 h18 h19 h20 h21 h22 h23 h24 h25 h26 h27 h28 h29 h30 h31 h32 h33 h34 h35 h36 h37 h38 h39 rz16_8_319 h41 h42 h43 h44 h45 h46 h47 h48 h49) (cwV 3 hts (mm_gV mm_w852 mm_w853 mm_w854 mm_w5 mm_w855) rfl rfl rfl hd_X12_reads ⟨by rw [hRf]; exact Nat.le_of_ble_eq_true rfl, by rw [hRl]; exact Nat.le_of_ble_eq_true rfl⟩) (mm_preV hK hZ hS hA hP hD [0, 1, 2, 3, 4, 5, 6, 7, 8] rfl rfl 0 rfl rfl rfl) rfl rfl hl.1 rfl (lv_room (Nat.le_of_ble_eq_true rfl)) dX12_heirsOf_42 ⟨by rw [hRc]; exact Nat.le_of_ble_eq_true rfl, by rw [hRs]; exact Nat.le_of_ble_eq_true rfl⟩) hP hD hS hA (fun u : Int32 × Int32 × Int32 × (Nat → Int32) => [(a_0, .inr (12, [.int i_3, .ref a_1, .ref a_2, .ref a_3, .ref a_4, .ref a_5, .int i_4, .int i_5, .int i_6, .int i_7, .int i_8, .long j_0, .int i_9, .int i_10, .int i_11, .int i_12, .ref a_6, .ref a_7, .ref a_8, .ref a_9, .ref a_10, .ref a_11, .ref a_12, .ref a_13, .ref a_14, .ref a_15, .ref a_16, .ref a_17, .ref a_18, .int u.1, .int u.2.1, .int u.2.2.1, .int i_16, .int i_17, .int i_18, .ref a_19, .int i_19, .ref a_20])), (a_7, .inl (cy 1, 30, .inl (mm_g [i_20, i_21, i_22, i_23, i_24, i_25, i_26, i_27, i_28, i_29, i_30, i_31, i_32, i_33, i_34, i_35, i_36, i_37, i_38, i_39, i_40, i_41, i_42, i_43, i_44, i_45, i_46, i_47, i_48, i_49]))), (a_8, .inl (cy 1, 90, .inl f_0)), (a_11, .inl (cy 1, 30, .inl f_1)), (a_12, .inl (cy 1, 240, .inl f_2)), (a_13, .inl (cy 1, 450, .inl f_3)), (a_15, .inl (cy 1, 7200, .inl f_4)), (a_16, .inl (cy 1, 3, .inl f_5)), (a_18, .inl (cy 1, 8, .inl u.2.2.2))]) [0, 1, 2, 3, 4, 5, 6, 7, 8] [] (n := 9) (fun _ => rfl) (by decide +kernel) (by decide +kernel) rfl (fun _ => rfl) (wr := []) rfl (fun _ => rfl) (fun _ => @rfl _ ([a_0, a_7, a_8, a_11, a_12, a_13, a_15, a_16, a_18] : List Nat)) ?_
              clear hP hD hS
              clear H locs
              intro v336 u
              obtain ⟨n332, n333, n334, n335⟩ := u
              intro H locs hw (hP : va_P G vwCl [(a_0, .inr (12, [.int i_3, .ref a_1, .ref a_2, .ref a_3, .ref a_4, .ref a_5, .int i_4, .int i_5, .int i_6, .int i_7, .int i_8, .long j_0, .int i_9, .int i_10, .int i_11, .int i_12, .ref a_6, .ref a_7, .ref a_8, .ref a_9, .ref a_10, .ref a_11, .ref a_12, .ref a_13, .ref a_14, .ref a_15, .ref a_16, .ref a_17, .ref a_18, .int n332, .int n333, .int n334, .int i_16, .int i_17, .int i_18, .ref a_19, .int i_19, .ref a_20])), (a_7, .inl (cy 1, 30, .inl (mm_g [i_20, i_21, i_22, i_23, i_24, i_25, i_26, i_27, i_28, i_29, i_30, i_31, i_32, i_33, i_34, i_35, i_36, i_37, i_38, i_39, i_40, i_41, i_42, i_43, i_44, i_45, i_46, i_47, i_48, i_49]))), (a_8, .inl (cy 1, 90, .inl f_0)), (a_11, .inl (cy 1, 30, .inl f_1)), (a_12, .inl (cy 1, 240, .inl f_2)), (a_13, .inl (cy 1, 450, .inl f_3)), (a_15, .inl (cy 1, 7200, .inl f_4)), (a_16, .inl (cy 1, 3, .inl f_5)), (a_18, .inl (cy 1, 8, .inl n335))] H) (hD : va_D A [(a_0, .inr (12, [.int i_3, .ref a_1, .ref a_2, .ref a_3, .ref a_4, .ref a_5, .int i_4, .int i_5, .int i_6, .int i_7, .int i_8, .long j_0, .int i_9, .int i_10, .int i_11, .int i_12, .ref a_6, .ref a_7, .ref a_8, .ref a_9, .ref a_10, .ref a_11, .ref a_12, .ref a_13, .ref a_14, .ref a_15, .ref a_16, .ref a_17, .ref a_18, .int n332, .int n333, .int n334, .int i_16, .int i_17, .int i_18, .ref a_19, .int i_19, .ref a_20])), (a_7, .inl (cy 1, 30, .inl (mm_g [i_20, i_21, i_22, i_23, i_24, i_25, i_26, i_27, i_28, i_29, i_30, i_31, i_32, i_33, i_34, i_35, i_36, i_37, i_38, i_39, i_40, i_41, i_42, i_43, i_44, i_45, i_46, i_47, i_48, i_49]))), (a_8, .inl (cy 1, 90, .inl f_0)), (a_11, .inl (cy 1, 30, .inl f_1)), (a_12, .inl (cy 1, 240, .inl f_2)), (a_13, .inl (cy 1, 450, .inl f_3)), (a_15, .inl (cy 1, 7200, .inl f_4)), (a_16, .inl (cy 1, 3, .inl f_5)), (a_18, .inl (cy 1, 8, .inl n335))]) hS
              obtain ⟨w337, w338, hw⟩ := hw
              obtain ⟨w339, w340⟩ := hw
              replace w340 : mm_rd f_4 f_5 f_0 f_1 f_2 f_3 i_0 i_1 x16_5_314 i_21 i_22 i_25 v336 := w340
              refine lv_aload_n hx hb dX12_heirsOf_45 rfl (lv_at hl 2 rfl) ?_
              refine lv_iload_n hx hb dX12_heirsOf_46 rfl (lv_at hl 3 rfl) ?_
              refine lv_iload_n hx hb dX12_heirsOf_47 rfl (lv_at hl 4 rfl) ?_
              refine lv_iconst (v := 1) hx hb dX12_heirsOf_48 (by decide) ?_
              refine lv_iadd hx hb dX12_heirsOf_49 ?_
              refine lv_topi (fun v341 ev341 => ?_)
              have rv341 : mm_rg v341 1 1000000006 := mm_add ev341 h1 mm_k1 (by decide) (by decide)
              have tv341 := mm_addEc ev341 h1 mm_k1 (by decide) (k := 1) (by decide)
              refine lv_iload_n hx hb dX12_heirsOf_50 rfl (lv_at hl 5 rfl) ?_
              refine lv_iconst (v := 1) hx hb dX12_heirsOf_51 (by decide) ?_
              refine lv_iload hx hb dX12_heirsOf_52 (lv_at hl 0 rfl) ?_
              refine lv_ishl hx hb dX12_heirsOf_54 ?_
              refine lv_topi (fun v342 ev342 => ?_)
              have rv342 : mm_rg v342 1 32 := mm_shl1 ev342 q323 (by decide)
              refine lv_iconst (v := (-1)) hx hb dX12_heirsOf_55 (by decide) ?_
              refine lv_ixor hx hb dX12_heirsOf_56 ?_
              refine lv_topi (fun v343 ev343 => ?_)
              refine lv_iand hx hb dX12_heirsOf_57 ?_
              refine lv_topi (fun v344 ev344 => ?_)
              have rv344 : mm_rg v344 0 63 := mm_andL ev344 q2 (by decide)
              refine mm_fini (va_runV (As := [.int i_0, .int v341, .int v344]) (rest := [.int v336]) ⟨hx, hb, hml, hown, hts⟩ (M234_X12_heirsOf l G cy H.size a_0 i_0 v341 v344 i_3 a_1 a_2 a_3 a_4 a_5 i_4 i_5 i_6 i_7 i_8 j_0 i_9 i_10 i_11 i_12 a_6 a_7 a_8 a_9 a_10 a_11 a_12 a_13 a_14 a_15 a_16 a_17 a_18 n332 n333 n334 i_16 i_17 i_18 a_19 i_19 a_20 i_20 i_21 i_22 i_23 i_24 i_25 i_26 i_27 i_28 i_29 i_30 i_31 i_32 i_33 i_34 i_35 i_36 i_37 i_38 i_39 i_40 i_41 i_42 i_43 i_44 i_45 i_46 i_47 i_48 i_49 f_0 f_1 f_2 f_3 f_4 f_5 n335 h0 (mm_wk rv341 (by decide)) rv344 w337 h4 h5 h6 h7 (mm_wk q324 (by decide)) h9 h10 h11 h12 h13 h14 h15 h16 h17 h18 h19 h20 h21 h22 h23 h24 h25 h26 h27 h28 h29 h30 h31 h32 h33 h34 h35 h36 h37 h38 h39 w338 h41 h42 h43 h44 h45 h46 h47 h48 h49 (mm_pc_cut h50 w327 ev342 ev343 ev344 q2 q323 (by decide))) (cwV 3 hts (mm_gV mm_w1456 mm_w1457 mm_w1458 mm_w5 mm_w1459) rfl rfl rfl hd_X12_heirsOf ⟨by rw [hRf]; exact Nat.le_of_ble_eq_true rfl, by rw [hRl]; exact Nat.le_of_ble_eq_true rfl⟩) (mm_preV hK hZ hS hA hP hD [0, 1, 2, 3, 4, 5, 6, 7, 8] rfl rfl 0 rfl rfl rfl) rfl rfl hl.1 rfl (lv_room (Nat.le_of_ble_eq_true rfl)) dX12_heirsOf_58 ⟨by rw [hRc]; exact Nat.le_of_ble_eq_true rfl, by rw [hRs]; exact Nat.le_of_ble_eq_true rfl⟩) hP hD hS hA (fun u : Int32 × Int32 × Int32 × (Nat → Int32) => [(a_0, .inr (12, [.int i_3, .ref a_1, .ref a_2, .ref a_3, .ref a_4, .ref a_5, .int i_4, .int i_5, .int i_6, .int i_7, .int i_8, .long j_0, .int i_9, .int i_10, .int i_11, .int i_12, .ref a_6, .ref a_7, .ref a_8, .ref a_9, .ref a_10, .ref a_11, .ref a_12, .ref a_13, .ref a_14, .ref a_15, .ref a_16, .ref a_17, .ref a_18, .int u.1, .int u.2.1, .int u.2.2.1, .int i_16, .int i_17, .int i_18, .ref a_19, .int i_19, .ref a_20])), (a_7, .inl (cy 1, 30, .inl (mm_g [i_20, i_21, i_22, i_23, i_24, i_25, i_26, i_27, i_28, i_29, i_30, i_31, i_32, i_33, i_34, i_35, i_36, i_37, i_38, i_39, i_40, i_41, i_42, i_43, i_44, i_45, i_46, i_47, i_48, i_49]))), (a_8, .inl (cy 1, 90, .inl f_0)), (a_11, .inl (cy 1, 30, .inl f_1)), (a_12, .inl (cy 1, 240, .inl f_2)), (a_13, .inl (cy 1, 450, .inl f_3)), (a_15, .inl (cy 1, 7200, .inl f_4)), (a_16, .inl (cy 1, 3, .inl f_5)), (a_18, .inl (cy 1, 8, .inl u.2.2.2))]) [0, 1, 2, 3, 4, 5, 6, 7, 8] [] (n := 9) (fun _ => rfl) (by decide +kernel) (by decide +kernel) rfl (fun _ => rfl) (wr := []) rfl (fun _ => rfl) (fun _ => @rfl _ ([a_0, a_7, a_8, a_11, a_12, a_13, a_15, a_16, a_18] : List Nat)) ?_
              clear hP hD hS
              clear H locs
              intro v349 u
              obtain ⟨n345, n346, n347, n348⟩ := u
              intro H locs hw (hP : va_P G vwCl [(a_0, .inr (12, [.int i_3, .ref a_1, .ref a_2, .ref a_3, .ref a_4, .ref a_5, .int i_4, .int i_5, .int i_6, .int i_7, .int i_8, .long j_0, .int i_9, .int i_10, .int i_11, .int i_12, .ref a_6, .ref a_7, .ref a_8, .ref a_9, .ref a_10, .ref a_11, .ref a_12, .ref a_13, .ref a_14, .ref a_15, .ref a_16, .ref a_17, .ref a_18, .int n345, .int n346, .int n347, .int i_16, .int i_17, .int i_18, .ref a_19, .int i_19, .ref a_20])), (a_7, .inl (cy 1, 30, .inl (mm_g [i_20, i_21, i_22, i_23, i_24, i_25, i_26, i_27, i_28, i_29, i_30, i_31, i_32, i_33, i_34, i_35, i_36, i_37, i_38, i_39, i_40, i_41, i_42, i_43, i_44, i_45, i_46, i_47, i_48, i_49]))), (a_8, .inl (cy 1, 90, .inl f_0)), (a_11, .inl (cy 1, 30, .inl f_1)), (a_12, .inl (cy 1, 240, .inl f_2)), (a_13, .inl (cy 1, 450, .inl f_3)), (a_15, .inl (cy 1, 7200, .inl f_4)), (a_16, .inl (cy 1, 3, .inl f_5)), (a_18, .inl (cy 1, 8, .inl n348))] H) (hD : va_D A [(a_0, .inr (12, [.int i_3, .ref a_1, .ref a_2, .ref a_3, .ref a_4, .ref a_5, .int i_4, .int i_5, .int i_6, .int i_7, .int i_8, .long j_0, .int i_9, .int i_10, .int i_11, .int i_12, .ref a_6, .ref a_7, .ref a_8, .ref a_9, .ref a_10, .ref a_11, .ref a_12, .ref a_13, .ref a_14, .ref a_15, .ref a_16, .ref a_17, .ref a_18, .int n345, .int n346, .int n347, .int i_16, .int i_17, .int i_18, .ref a_19, .int i_19, .ref a_20])), (a_7, .inl (cy 1, 30, .inl (mm_g [i_20, i_21, i_22, i_23, i_24, i_25, i_26, i_27, i_28, i_29, i_30, i_31, i_32, i_33, i_34, i_35, i_36, i_37, i_38, i_39, i_40, i_41, i_42, i_43, i_44, i_45, i_46, i_47, i_48, i_49]))), (a_8, .inl (cy 1, 90, .inl f_0)), (a_11, .inl (cy 1, 30, .inl f_1)), (a_12, .inl (cy 1, 240, .inl f_2)), (a_13, .inl (cy 1, 450, .inl f_3)), (a_15, .inl (cy 1, 7200, .inl f_4)), (a_16, .inl (cy 1, 3, .inl f_5)), (a_18, .inl (cy 1, 8, .inl n348))]) hS
              obtain ⟨w350, w351, hw⟩ := hw
              have w352 := hw
              refine lv_isub hx hb dX12_heirsOf_61 ?_
              refine lv_topi (fun v353 ev353 => ?_)
              have rv353 : mm_rg v353 (-1009999) 1009999 := mm_sub ev353 w339 w352 (by decide) (by decide)
              have tv353 := mm_subE ev353 w339 w352 (by decide)
              refine lv_istore (lv' := [(6, .int v353), (5, .int x16_5_314), (4, .int x16_4_315), (0, .ref a_0), (1, .int i_0), (2, .int i_1), (3, .int i_2)]) hx hb dX12_heirsOf_62 hl (by decide) rfl ?_
              clear hl
              clear ls
              intro ls hl
              refine lv_iload hx hb dX12_heirsOf_64 (lv_at hl 0 rfl) ?_
              refine lv_iload hx hb dX12_heirsOf_66 (lv_at hl 2 rfl) ?_
              refine lv_icmp_le (tgt := 76) hx hb dX12_heirsOf_68 (by decide) (fun c354 => ?_) (fun c354 => ?_)
              · refine lv_iload hx hb dX12_heirsOf_76 (lv_at hl 2 rfl) ?_
                refine lv_istore (lv' := [(4, .int x16_4_315), (6, .int v353), (5, .int x16_5_314), (0, .ref a_0), (1, .int i_0), (2, .int i_1), (3, .int i_2)]) hx hb dX12_heirsOf_78 hl (by decide) rfl ?_
                clear hl
                clear ls
                intro ls hl
                obtain ⟨v355, ev355⟩ : ∃ y : Int32, y = x16_5_314 + 1 := ⟨_, rfl⟩
                refine lv_iinc (v := v355) (lv' := [(5, .int v355), (4, .int x16_4_315), (6, .int v353), (0, .ref a_0), (1, .int i_0), (2, .int i_1), (3, .int i_2)]) hx hb dX12_heirsOf_80 hl (k := 2) rfl (by rw [ev355]; rfl) (by decide) rfl ?_
                clear hl
                clear ls
                intro ls hl
                have rv355 : mm_rg v355 1 6 := mm_add ev355 q323 mm_k1 (by decide) (by decide)
                have tv355 := mm_addEc ev355 q323 mm_k1 (by decide) (k := 1) (by decide)
                refine lv_goto (tgt := 16) hx hb dX12_heirsOf_83 (by decide) ?_
                exact ih16 v355 x16_4_315 n345 n346 n347 n348 (mm_wk rv355 (by decide)) rx16_4_315 w350 w351 (mm_mu hm16 tv355 (by decide) (rv355).2 (by decide)) H locs hP hD hS ls (lv_sub hl [0, 1, 3, 4, 5, 6] rfl)
              · have q356 := mm_ltL (h := 1009998) (mm_nle c354) rx16_4_315 rv353 (by decide)
                have q357 := mm_ltR (lo := (-999999)) (mm_nle c354) rx16_4_315 rv353 (by decide)
                have q358 : mm_rg v349 (-1000000) 1009998 := mm_unsubY tv353 q357 w339 w352 (by decide)
                refine lv_iload hx hb dX12_heirsOf_71 (lv_at hl 0 rfl) ?_
                refine lv_goto (tgt := 78) hx hb dX12_heirsOf_73 (by decide) ?_
                refine lv_istore (lv' := [(4, .int v353), (6, .int v353), (5, .int x16_5_314), (0, .ref a_0), (1, .int i_0), (2, .int i_1), (3, .int i_2)]) hx hb dX12_heirsOf_78 hl (by decide) rfl ?_
                clear hl
                clear ls
                intro ls hl
                obtain ⟨v359, ev359⟩ : ∃ y : Int32, y = x16_5_314 + 1 := ⟨_, rfl⟩
                refine lv_iinc (v := v359) (lv' := [(5, .int v359), (4, .int v353), (6, .int v353), (0, .ref a_0), (1, .int i_0), (2, .int i_1), (3, .int i_2)]) hx hb dX12_heirsOf_80 hl (k := 2) rfl (by rw [ev359]; rfl) (by decide) rfl ?_
                clear hl
                clear ls
                intro ls hl
                have rv359 : mm_rg v359 1 6 := mm_add ev359 q323 mm_k1 (by decide) (by decide)
                have tv359 := mm_addEc ev359 q323 mm_k1 (by decide) (k := 1) (by decide)
                refine lv_goto (tgt := 16) hx hb dX12_heirsOf_83 (by decide) ?_
                exact ih16 v359 v353 n345 n346 n347 n348 (mm_wk rv359 (by decide)) (mm_wk q357 (by decide)) w350 w351 (mm_mu hm16 tv359 (by decide) (rv359).2 (by decide)) H locs hP hD hS ls (lv_sub hl [0, 1, 3, 4, 5, 6] rfl)
            · exact mm_eqN c331.symm mm_k0 mm_k1 (by decide)
    exact L16_319 _ 0 (-1000000) i_13 i_14 i_15 f_6 (mm_wk mm_k0 (by decide)) (mm_wk mm_km1000000 (by decide)) h3 h40 (Nat.lt_succ_self _) H locs hP hD hS ls (lv_sub hl [0, 1, 2, 3, 4, 5] rfl)
  · have q360 := mm_eqI (lo := 0) (hi := 0) c1 h2 mm_k0 (by decide)
    refine lv_iconst (v := 0) hx hb dX12_heirsOf_4 (by decide) ?_
    refine lv_goto (tgt := 11) hx hb dX12_heirsOf_5 (by decide) ?_
    refine lv_istore (lv' := [(4, .int 0), (0, .ref a_0), (1, .int i_0), (2, .int i_1), (3, .int i_2)]) hx hb dX12_heirsOf_11 hl (by decide) rfl ?_
    clear hl
    clear ls
    intro ls hl
    refine lv_iconst (v := 0) hx hb dX12_heirsOf_13 (by decide) ?_
    refine lv_istore (lv' := [(5, .int 0), (4, .int 0), (0, .ref a_0), (1, .int i_0), (2, .int i_1), (3, .int i_2)]) hx hb dX12_heirsOf_14 hl (by decide) rfl ?_
    clear hl
    clear ls
    intro ls hl
    have L16_440 : ∀ (n : Nat) (x16_5_440 : Int32), mm_rg x16_5_440 0 6 → (6 - x16_5_440.toInt).toNat < n → ∀ (H : Heap) (locs : List Loc), va_P G vwCl [(a_0, .inr (12, [.int i_3, .ref a_1, .ref a_2, .ref a_3, .ref a_4, .ref a_5, .int i_4, .int i_5, .int i_6, .int i_7, .int i_8, .long j_0, .int i_9, .int i_10, .int i_11, .int i_12, .ref a_6, .ref a_7, .ref a_8, .ref a_9, .ref a_10, .ref a_11, .ref a_12, .ref a_13, .ref a_14, .ref a_15, .ref a_16, .ref a_17, .ref a_18, .int i_13, .int i_14, .int i_15, .int i_16, .int i_17, .int i_18, .ref a_19, .int i_19, .ref a_20])), (a_7, .inl (cy 1, 30, .inl (mm_g [i_20, i_21, i_22, i_23, i_24, i_25, i_26, i_27, i_28, i_29, i_30, i_31, i_32, i_33, i_34, i_35, i_36, i_37, i_38, i_39, i_40, i_41, i_42, i_43, i_44, i_45, i_46, i_47, i_48, i_49]))), (a_8, .inl (cy 1, 90, .inl f_0)), (a_11, .inl (cy 1, 30, .inl f_1)), (a_12, .inl (cy 1, 240, .inl f_2)), (a_13, .inl (cy 1, 450, .inl f_3)), (a_15, .inl (cy 1, 7200, .inl f_4)), (a_16, .inl (cy 1, 3, .inl f_5)), (a_18, .inl (cy 1, 8, .inl f_6))] H → va_D A [(a_0, .inr (12, [.int i_3, .ref a_1, .ref a_2, .ref a_3, .ref a_4, .ref a_5, .int i_4, .int i_5, .int i_6, .int i_7, .int i_8, .long j_0, .int i_9, .int i_10, .int i_11, .int i_12, .ref a_6, .ref a_7, .ref a_8, .ref a_9, .ref a_10, .ref a_11, .ref a_12, .ref a_13, .ref a_14, .ref a_15, .ref a_16, .ref a_17, .ref a_18, .int i_13, .int i_14, .int i_15, .int i_16, .int i_17, .int i_18, .ref a_19, .int i_19, .ref a_20])), (a_7, .inl (cy 1, 30, .inl (mm_g [i_20, i_21, i_22, i_23, i_24, i_25, i_26, i_27, i_28, i_29, i_30, i_31, i_32, i_33, i_34, i_35, i_36, i_37, i_38, i_39, i_40, i_41, i_42, i_43, i_44, i_45, i_46, i_47, i_48, i_49]))), (a_8, .inl (cy 1, 90, .inl f_0)), (a_11, .inl (cy 1, 30, .inl f_1)), (a_12, .inl (cy 1, 240, .inl f_2)), (a_13, .inl (cy 1, 450, .inl f_3)), (a_15, .inl (cy 1, 7200, .inl f_4)), (a_16, .inl (cy 1, 3, .inl f_5)), (a_18, .inl (cy 1, 8, .inl f_6))] → va_S A s.heap H locs → ∀ (ls : Array Slot), lv_has ls 7 [(5, .int x16_5_440), (4, .int 0), (0, .ref a_0), (1, .int i_0), (2, .int i_1), (3, .int i_2)] → W p l e R s m args below meth c H locs 0 0 Q (F0 m 16 ls []) := by
      intro n
      induction n with
      | zero => intro x16_5_440 rx16_5_440 hm; exact absurd hm (Nat.not_lt_zero _)
      | succ n ih16 =>
        intro x16_5_440 rx16_5_440 hm16 H locs hP hD hS ls hl
        refine lv_iload hx hb dX12_heirsOf_16 (lv_at hl 0 rfl) ?_
        refine lv_aload_n hx hb dX12_heirsOf_18 rfl (lv_at hl 2 rfl) ?_
        refine mm_finir (va_runV (As := []) (rest := [.int x16_5_440]) ⟨hx, hb, hml, hown, hts⟩ (M95_X12_texts l G cy H.size a_0 i_3 a_1 a_2 a_3 a_4 a_5 i_4 i_5 i_6 i_7 i_8 j_0 i_9 i_10 i_11 i_12 a_6 a_7 a_8 a_9 a_10 a_11 a_12 a_13 a_14 a_15 a_16 a_17 a_18 i_13 i_14 i_15 i_16 i_17 i_18 a_19 i_19 a_20 i_20 i_21 i_22 i_23 i_24 i_25 i_26 i_27 i_28 i_29 i_30 i_31 i_32 i_33 i_34 i_35 i_36 i_37 i_38 i_39 i_40 i_41 i_42 i_43 i_44 i_45 i_46 i_47 i_48 i_49 h4 h5 h6 h7 h8 h9 h10 h11 h12 h13 h14 h15 h16 h17 h18 h19 h20 h21 h22 h23 h24 h25 h26 h27 h28 h29 h30 h31 h32 h33) (cwV 0 hts (mm_gV mm_w617 mm_w618 mm_w619 mm_w5 mm_w620) rfl rfl rfl hd_X12_texts ⟨by rw [hRf]; exact Nat.le_of_ble_eq_true rfl, by rw [hRl]; exact Nat.le_of_ble_eq_true rfl⟩) (mm_preV hK hZ hS hA hP hD [0, 1] rfl rfl 0 rfl rfl rfl) rfl rfl hl.1 rfl (lv_room (Nat.le_of_ble_eq_true rfl)) dX12_heirsOf_19 ⟨by rw [hRc]; exact Nat.le_of_ble_eq_true rfl, by rw [hRs]; exact Nat.le_of_ble_eq_true rfl⟩) hP hD hS hA [0, 1] rfl (fun _ => rfl) ?_
        clear hP hD hS
        clear H locs
        intro v442 _u H locs hw hP hD hS
        subst hw
        refine lv_icmp_ge (tgt := 86) hx hb dX12_heirsOf_22 (by decide) (fun c443 => ?_) (fun c443 => ?_)
        · refine lv_iload hx hb dX12_heirsOf_86 (lv_at hl 1 rfl) ?_
          subst hAe
          rw [hQ]
          exact W.iret (v := 0) hx hb hr (fun t ht hW => ⟨⟨0, (i_13, i_14, i_15, f_6), rfl, ⟨h3, h40, (mm_wk mm_k0 (by decide))⟩, by rw [ht]; exact hP, hK.warm hW, hD⟩, hS.F ht⟩) hS.2.2 dX12_heirsOf_88
        · have q444 := mm_ltL (h := 5) (mm_nle c443) rx16_5_440 h8 (by decide)
          have q445 := mm_ltR (lo := 1) (mm_nle c443) rx16_5_440 h8 (by decide)
          refine lv_iload_n hx hb dX12_heirsOf_25 rfl (lv_at hl 5 rfl) ?_
          refine lv_iload hx hb dX12_heirsOf_26 (lv_at hl 0 rfl) ?_
          refine mm_finir (va_runS (As := [.int i_2, .int x16_5_440]) (rest := []) ⟨hx, hb, hml, hown, hts⟩ (M232_X12_isBit l G cy H.size i_2 x16_5_440 (mm_wk q360 (by decide)) q444) (va_cwS 2 hts (mm_gS mm_w1461 mm_w1462 mm_w5 mm_w1463) rfl rfl rfl hs_X12_isBit ⟨by rw [hRf]; exact Nat.le_of_ble_eq_true rfl, by rw [hRl]; exact Nat.le_of_ble_eq_true rfl⟩) (mm_preS hK hZ hS hA hP hD [] rfl rfl) rfl rfl hl.1 rfl (lv_room (Nat.le_of_ble_eq_true rfl)) dX12_heirsOf_28 ⟨by rw [hRc]; exact Nat.le_of_ble_eq_true rfl, by rw [hRs]; exact Nat.le_of_ble_eq_true rfl⟩) hP hD hS hA [] rfl (fun _ => rfl) ?_
          clear hP hD hS
          clear H locs
          intro v446 _u H locs hw hP hD hS
          rcases hw with ⟨rfl, w447⟩ | ⟨rfl, w448⟩
          · refine lv_if_ne (tgt := 37) hx hb dX12_heirsOf_31 (by decide) (fun c449 => ?_) (fun c449 => ?_)
            · have q450 := mm_neL (lo := 1) (mm_ne c449) mm_k0 mm_k0 (by decide) (by decide)
              exact mm_no q450 (by decide)
            · refine lv_goto (tgt := 80) hx hb dX12_heirsOf_34 (by decide) ?_
              obtain ⟨v451, ev451⟩ : ∃ y : Int32, y = x16_5_440 + 1 := ⟨_, rfl⟩
              refine lv_iinc (v := v451) (lv' := [(5, .int v451), (4, .int 0), (0, .ref a_0), (1, .int i_0), (2, .int i_1), (3, .int i_2)]) hx hb dX12_heirsOf_80 hl (k := 0) rfl (by rw [ev451]; rfl) (by decide) rfl ?_
              clear hl
              clear ls
              intro ls hl
              have rv451 : mm_rg v451 1 6 := mm_add ev451 q444 mm_k1 (by decide) (by decide)
              have tv451 := mm_addEc ev451 q444 mm_k1 (by decide) (k := 1) (by decide)
              refine lv_goto (tgt := 16) hx hb dX12_heirsOf_83 (by decide) ?_
              exact ih16 v451 (mm_wk rv451 (by decide)) (mm_mu hm16 tv451 (by decide) (rv451).2 (by decide)) H locs hP hD hS ls (lv_sub hl [0, 1, 2, 3, 4, 5] rfl)
          · exact mm_bit_no w448 q360 (by decide)
    exact L16_440 _ 0 (mm_wk mm_k0 (by decide)) (Nat.lt_succ_self _) H locs hP hD hS ls (lv_sub hl [0, 1, 2, 3, 4, 5] rfl)

set_option maxHeartbeats 4000000 in
set_option maxRecDepth 100000 in
theorem M236_X12_heirsOf (l : Launch) (G : va_G) (cy : Nat → ClassId) (sz : Nat) (a_0 : Nat) (i_0 : Int32) (i_1 : Int32) (i_2 : Int32) (i_3 : Int32) (a_1 : Nat) (a_2 : Nat) (a_3 : Nat) (a_4 : Nat) (a_5 : Nat) (i_4 : Int32) (i_5 : Int32) (i_6 : Int32) (i_7 : Int32) (i_8 : Int32) (j_0 : Int64) (i_9 : Int32) (i_10 : Int32) (i_11 : Int32) (i_12 : Int32) (a_6 : Nat) (a_7 : Nat) (a_8 : Nat) (a_9 : Nat) (a_10 : Nat) (a_11 : Nat) (a_12 : Nat) (a_13 : Nat) (a_14 : Nat) (a_15 : Nat) (a_16 : Nat) (a_17 : Nat) (a_18 : Nat) (i_13 : Int32) (i_14 : Int32) (i_15 : Int32) (i_16 : Int32) (i_17 : Int32) (i_18 : Int32) (a_19 : Nat) (i_19 : Int32) (a_20 : Nat) (i_20 : Int32) (i_21 : Int32) (i_22 : Int32) (i_23 : Int32) (i_24 : Int32) (i_25 : Int32) (i_26 : Int32) (i_27 : Int32) (i_28 : Int32) (i_29 : Int32) (i_30 : Int32) (i_31 : Int32) (i_32 : Int32) (i_33 : Int32) (i_34 : Int32) (i_35 : Int32) (i_36 : Int32) (i_37 : Int32) (i_38 : Int32) (i_39 : Int32) (i_40 : Int32) (i_41 : Int32) (i_42 : Int32) (i_43 : Int32) (i_44 : Int32) (i_45 : Int32) (i_46 : Int32) (i_47 : Int32) (i_48 : Int32) (i_49 : Int32) (f_0 : Nat → Int32) (f_1 : Nat → Int32) (f_2 : Nat → Int32) (f_3 : Nat → Int32) (f_4 : Nat → Int32) (f_5 : Nat → Int32) (f_6 : Nat → Int32) (h0 : mm_rg i_0 0 2) (h1 : mm_rg i_1 0 1000000004) (h2 : mm_rg i_2 0 63) (h3 : mm_rg i_13 0 8) (h4 : mm_rg i_20 0 10) (h5 : mm_rg i_21 0 99) (h6 : mm_rg i_22 0 9) (h7 : mm_rg i_23 0 3) (h8 : mm_rg i_24 0 6) (h9 : mm_rg i_25 0 30) (h10 : mm_rg i_26 0 10) (h11 : mm_rg i_27 0 99) (h12 : mm_rg i_28 0 9) (h13 : mm_rg i_29 0 3) (h14 : mm_rg i_30 0 6) (h15 : mm_rg i_31 0 30) (h16 : mm_rg i_32 0 10) (h17 : mm_rg i_33 0 99) (h18 : mm_rg i_34 0 9) (h19 : mm_rg i_35 0 3) (h20 : mm_rg i_36 0 6) (h21 : mm_rg i_37 0 30) (h22 : mm_rg i_38 0 10) (h23 : mm_rg i_39 0 99) (h24 : mm_rg i_40 0 9) (h25 : mm_rg i_41 0 3) (h26 : mm_rg i_42 0 6) (h27 : mm_rg i_43 0 30) (h28 : mm_rg i_44 0 10) (h29 : mm_rg i_45 0 99) (h30 : mm_rg i_46 0 9) (h31 : mm_rg i_47 0 3) (h32 : mm_rg i_48 0 6) (h33 : mm_rg i_49 0 30) (h34 : mm_ar f_0 0 99) (h35 : mm_ar f_1 0 8) (h36 : mm_ar f_2 0 9) (h37 : mm_ar f_3 (-1) 99) (h38 : mm_ar f_4 0 9) (h39 : mm_ar f_5 0 210) (h40 : mm_ar f_6 0 9) (h41 : mm_txs f_1 f_2 0 i_22 i_24) (h42 : mm_acs f_3 0 i_22 i_23 i_25) (h43 : mm_txs f_1 f_2 1 i_28 i_30) (h44 : mm_acs f_3 1 i_28 i_29 i_31) (h45 : mm_txs f_1 f_2 2 i_34 i_36) (h46 : mm_acs f_3 2 i_34 i_35 i_37) (h47 : mm_txs f_1 f_2 3 i_40 i_42) (h48 : mm_acs f_3 3 i_40 i_41 i_43) (h49 : mm_f1 f_5 i_0) (h50 : mm_pc 3 i_2)  : mm_CI l yX12_heirsOf (mm_ws yX12_heirsOf cX12_heirsOf 7 (some .int)) ({ frames := 5, cells := 0, slots := 0, locals := 125 } : Room) G cy sz [(a_0, .inr (12, [.int i_3, .ref a_1, .ref a_2, .ref a_3, .ref a_4, .ref a_5, .int i_4, .int i_5, .int i_6, .int i_7, .int i_8, .long j_0, .int i_9, .int i_10, .int i_11, .int i_12, .ref a_6, .ref a_7, .ref a_8, .ref a_9, .ref a_10, .ref a_11, .ref a_12, .ref a_13, .ref a_14, .ref a_15, .ref a_16, .ref a_17, .ref a_18, .int i_13, .int i_14, .int i_15, .int i_16, .int i_17, .int i_18, .ref a_19, .int i_19, .ref a_20])), (a_7, .inl (cy 1, 30, .inl (mm_g [i_20, i_21, i_22, i_23, i_24, i_25, i_26, i_27, i_28, i_29, i_30, i_31, i_32, i_33, i_34, i_35, i_36, i_37, i_38, i_39, i_40, i_41, i_42, i_43, i_44, i_45, i_46, i_47, i_48, i_49]))), (a_8, .inl (cy 1, 90, .inl f_0)), (a_11, .inl (cy 1, 30, .inl f_1)), (a_12, .inl (cy 1, 240, .inl f_2)), (a_13, .inl (cy 1, 450, .inl f_3)), (a_15, .inl (cy 1, 7200, .inl f_4)), (a_16, .inl (cy 1, 3, .inl f_5)), (a_18, .inl (cy 1, 8, .inl f_6))] [.ref a_0, .int i_0, .int i_1, .int i_2] (fun u : Int32 × Int32 × Int32 × (Nat → Int32) => [(a_0, .inr (12, [.int i_3, .ref a_1, .ref a_2, .ref a_3, .ref a_4, .ref a_5, .int i_4, .int i_5, .int i_6, .int i_7, .int i_8, .long j_0, .int i_9, .int i_10, .int i_11, .int i_12, .ref a_6, .ref a_7, .ref a_8, .ref a_9, .ref a_10, .ref a_11, .ref a_12, .ref a_13, .ref a_14, .ref a_15, .ref a_16, .ref a_17, .ref a_18, .int u.1, .int u.2.1, .int u.2.2.1, .int i_16, .int i_17, .int i_18, .ref a_19, .int i_19, .ref a_20])), (a_7, .inl (cy 1, 30, .inl (mm_g [i_20, i_21, i_22, i_23, i_24, i_25, i_26, i_27, i_28, i_29, i_30, i_31, i_32, i_33, i_34, i_35, i_36, i_37, i_38, i_39, i_40, i_41, i_42, i_43, i_44, i_45, i_46, i_47, i_48, i_49]))), (a_8, .inl (cy 1, 90, .inl f_0)), (a_11, .inl (cy 1, 30, .inl f_1)), (a_12, .inl (cy 1, 240, .inl f_2)), (a_13, .inl (cy 1, 450, .inl f_3)), (a_15, .inl (cy 1, 7200, .inl f_4)), (a_16, .inl (cy 1, 3, .inl f_5)), (a_18, .inl (cy 1, 8, .inl u.2.2.2))]) (fun (r : Int32) (u : Int32 × Int32 × Int32 × (Nat → Int32)) => mm_rg u.1 0 8 ∧ mm_ar u.2.2.2 0 9 ∧ mm_rg r (-1000000) 1009999) 0 0 := by
  refine mm_begin (lv := [(0, .ref a_0), (1, .int i_0), (2, .int i_1), (3, .int i_2)]) (by decide) (Nat.le_of_ble_eq_true rfl) rfl ?_
  intro p e s m below meth c A ls R args Q H locs hRe hQ hAe hx hb hr hlocks hml hown hnm hts hsz hA hS hP hK hD hZ hl
  have hRf : R.frames = 5 := by rw [hRe]
  have hRl : R.locals = 125 := by rw [hRe]
  have hRc : R.cells = 0 := by rw [hRe]
  have hRs : R.slots = 0 := by rw [hRe]
  refine lv_iload_n hx hb dX12_heirsOf_0 rfl (lv_at hl 3 rfl) ?_
  refine lv_if_ne (tgt := 8) hx hb dX12_heirsOf_1 (by decide) (fun c1 => ?_) (fun c1 => ?_)
  · have q2 := mm_neL (lo := 1) (mm_ne c1) h2 mm_k0 (by decide) (by decide)
    refine lv_ldcw (v := (-1000000)) hx hb hown (mm_h hts mm_w1460) dX12_heirsOf_8 ?_
    refine lv_istore (lv' := [(4, .int (-1000000)), (0, .ref a_0), (1, .int i_0), (2, .int i_1), (3, .int i_2)]) hx hb dX12_heirsOf_11 hl (by decide) rfl ?_
    clear hl
    clear ls
    intro ls hl
    refine lv_iconst (v := 0) hx hb dX12_heirsOf_13 (by decide) ?_
    refine lv_istore (lv' := [(5, .int 0), (4, .int (-1000000)), (0, .ref a_0), (1, .int i_0), (2, .int i_1), (3, .int i_2)]) hx hb dX12_heirsOf_14 hl (by decide) rfl ?_
    clear hl
    clear ls
    intro ls hl
    have L16_319 : ∀ (n : Nat) (x16_5_314 : Int32) (x16_4_315 : Int32) (y16_0_29_316 : Int32) (y16_0_30_317 : Int32) (y16_0_31_318 : Int32) (z16_8_319 : Nat → Int32), mm_rg x16_5_314 0 6 → mm_rg x16_4_315 (-1000000) 1009999 → mm_rg y16_0_29_316 0 8 → mm_ar z16_8_319 0 9 → (6 - x16_5_314.toInt).toNat < n → ∀ (H : Heap) (locs : List Loc), va_P G vwCl [(a_0, .inr (12, [.int i_3, .ref a_1, .ref a_2, .ref a_3, .ref a_4, .ref a_5, .int i_4, .int i_5, .int i_6, .int i_7, .int i_8, .long j_0, .int i_9, .int i_10, .int i_11, .int i_12, .ref a_6, .ref a_7, .ref a_8, .ref a_9, .ref a_10, .ref a_11, .ref a_12, .ref a_13, .ref a_14, .ref a_15, .ref a_16, .ref a_17, .ref a_18, .int y16_0_29_316, .int y16_0_30_317, .int y16_0_31_318, .int i_16, .int i_17, .int i_18, .ref a_19, .int i_19, .ref a_20])), (a_7, .inl (cy 1, 30, .inl (mm_g [i_20, i_21, i_22, i_23, i_24, i_25, i_26, i_27, i_28, i_29, i_30, i_31, i_32, i_33, i_34, i_35, i_36, i_37, i_38, i_39, i_40, i_41, i_42, i_43, i_44, i_45, i_46, i_47, i_48, i_49]))), (a_8, .inl (cy 1, 90, .inl f_0)), (a_11, .inl (cy 1, 30, .inl f_1)), (a_12, .inl (cy 1, 240, .inl f_2)), (a_13, .inl (cy 1, 450, .inl f_3)), (a_15, .inl (cy 1, 7200, .inl f_4)), (a_16, .inl (cy 1, 3, .inl f_5)), (a_18, .inl (cy 1, 8, .inl z16_8_319))] H → va_D A [(a_0, .inr (12, [.int i_3, .ref a_1, .ref a_2, .ref a_3, .ref a_4, .ref a_5, .int i_4, .int i_5, .int i_6, .int i_7, .int i_8, .long j_0, .int i_9, .int i_10, .int i_11, .int i_12, .ref a_6, .ref a_7, .ref a_8, .ref a_9, .ref a_10, .ref a_11, .ref a_12, .ref a_13, .ref a_14, .ref a_15, .ref a_16, .ref a_17, .ref a_18, .int y16_0_29_316, .int y16_0_30_317, .int y16_0_31_318, .int i_16, .int i_17, .int i_18, .ref a_19, .int i_19, .ref a_20])), (a_7, .inl (cy 1, 30, .inl (mm_g [i_20, i_21, i_22, i_23, i_24, i_25, i_26, i_27, i_28, i_29, i_30, i_31, i_32, i_33, i_34, i_35, i_36, i_37, i_38, i_39, i_40, i_41, i_42, i_43, i_44, i_45, i_46, i_47, i_48, i_49]))), (a_8, .inl (cy 1, 90, .inl f_0)), (a_11, .inl (cy 1, 30, .inl f_1)), (a_12, .inl (cy 1, 240, .inl f_2)), (a_13, .inl (cy 1, 450, .inl f_3)), (a_15, .inl (cy 1, 7200, .inl f_4)), (a_16, .inl (cy 1, 3, .inl f_5)), (a_18, .inl (cy 1, 8, .inl z16_8_319))] → va_S A s.heap H locs → ∀ (ls : Array Slot), lv_has ls 7 [(5, .int x16_5_314), (4, .int x16_4_315), (0, .ref a_0), (1, .int i_0), (2, .int i_1), (3, .int i_2)] → W p l e R s m args below meth c H locs 0 0 Q (F0 m 16 ls []) := by
      intro n
      induction n with
      | zero => intro x16_5_314 x16_4_315 y16_0_29_316 y16_0_30_317 y16_0_31_318 z16_8_319 rx16_5_314 rx16_4_315 ry16_0_29_316 rz16_8_319 hm; exact absurd hm (Nat.not_lt_zero _)
      | succ n ih16 =>
        intro x16_5_314 x16_4_315 y16_0_29_316 y16_0_30_317 y16_0_31_318 z16_8_319 rx16_5_314 rx16_4_315 ry16_0_29_316 rz16_8_319 hm16 H locs hP hD hS ls hl
        refine lv_iload hx hb dX12_heirsOf_16 (lv_at hl 0 rfl) ?_
        refine lv_aload_n hx hb dX12_heirsOf_18 rfl (lv_at hl 2 rfl) ?_
        refine mm_finir (va_runV (As := []) (rest := [.int x16_5_314]) ⟨hx, hb, hml, hown, hts⟩ (M95_X12_texts l G cy H.size a_0 i_3 a_1 a_2 a_3 a_4 a_5 i_4 i_5 i_6 i_7 i_8 j_0 i_9 i_10 i_11 i_12 a_6 a_7 a_8 a_9 a_10 a_11 a_12 a_13 a_14 a_15 a_16 a_17 a_18 y16_0_29_316 y16_0_30_317 y16_0_31_318 i_16 i_17 i_18 a_19 i_19 a_20 i_20 i_21 i_22 i_23 i_24 i_25 i_26 i_27 i_28 i_29 i_30 i_31 i_32 i_33 i_34 i_35 i_36 i_37 i_38 i_39 i_40 i_41 i_42 i_43 i_44 i_45 i_46 i_47 i_48 i_49 h4 h5 h6 h7 h8 h9 h10 h11 h12 h13 h14 h15 h16 h17 h18 h19 h20 h21 h22 h23 h24 h25 h26 h27 h28 h29 h30 h31 h32 h33) (cwV 0 hts (mm_gV mm_w617 mm_w618 mm_w619 mm_w5 mm_w620) rfl rfl rfl hd_X12_texts ⟨by rw [hRf]; exact Nat.le_of_ble_eq_true rfl, by rw [hRl]; exact Nat.le_of_ble_eq_true rfl⟩) (mm_preV hK hZ hS hA hP hD [0, 1] rfl rfl 0 rfl rfl rfl) rfl rfl hl.1 rfl (lv_room (Nat.le_of_ble_eq_true rfl)) dX12_heirsOf_19 ⟨by rw [hRc]; exact Nat.le_of_ble_eq_true rfl, by rw [hRs]; exact Nat.le_of_ble_eq_true rfl⟩) hP hD hS hA [0, 1] rfl (fun _ => rfl) ?_
        clear hP hD hS
        clear H locs
        intro v321 _u H locs hw hP hD hS
        subst hw
        refine lv_icmp_ge (tgt := 86) hx hb dX12_heirsOf_22 (by decide) (fun c322 => ?_) (fun c322 => ?_)
        · refine lv_iload hx hb dX12_heirsOf_86 (lv_at hl 1 rfl) ?_
          subst hAe
          rw [hQ]
          exact W.iret (v := x16_4_315) hx hb hr (fun t ht hW => ⟨⟨x16_4_315, (y16_0_29_316, y16_0_30_317, y16_0_31_318, z16_8_319), rfl, ⟨ry16_0_29_316, rz16_8_319, rx16_4_315⟩, by rw [ht]; exact hP, hK.warm hW, hD⟩, hS.F ht⟩) hS.2.2 dX12_heirsOf_88
        · have q323 := mm_ltL (h := 5) (mm_nle c322) rx16_5_314 h8 (by decide)
          have q324 := mm_ltR (lo := 1) (mm_nle c322) rx16_5_314 h8 (by decide)
          refine lv_iload_n hx hb dX12_heirsOf_25 rfl (lv_at hl 5 rfl) ?_
          refine lv_iload hx hb dX12_heirsOf_26 (lv_at hl 0 rfl) ?_
          refine mm_finir (va_runS (As := [.int i_2, .int x16_5_314]) (rest := []) ⟨hx, hb, hml, hown, hts⟩ (M232_X12_isBit l G cy H.size i_2 x16_5_314 (mm_wk q2 (by decide)) q323) (va_cwS 2 hts (mm_gS mm_w1461 mm_w1462 mm_w5 mm_w1463) rfl rfl rfl hs_X12_isBit ⟨by rw [hRf]; exact Nat.le_of_ble_eq_true rfl, by rw [hRl]; exact Nat.le_of_ble_eq_true rfl⟩) (mm_preS hK hZ hS hA hP hD [] rfl rfl) rfl rfl hl.1 rfl (lv_room (Nat.le_of_ble_eq_true rfl)) dX12_heirsOf_28 ⟨by rw [hRc]; exact Nat.le_of_ble_eq_true rfl, by rw [hRs]; exact Nat.le_of_ble_eq_true rfl⟩) hP hD hS hA [] rfl (fun _ => rfl) ?_
          clear hP hD hS
          clear H locs
          intro v325 _u H locs hw hP hD hS
          rcases hw with ⟨rfl, w326⟩ | ⟨rfl, w327⟩
          · refine lv_if_ne (tgt := 37) hx hb dX12_heirsOf_31 (by decide) (fun c328 => ?_) (fun c328 => ?_)
            · have q329 := mm_neL (lo := 1) (mm_ne c328) mm_k0 mm_k0 (by decide) (by decide)
              exact mm_no q329 (by decide)
            · refine lv_goto (tgt := 80) hx hb dX12_heirsOf_34 (by decide) ?_
              obtain ⟨v330, ev330⟩ : ∃ y : Int32, y = x16_5_314 + 1 := ⟨_, rfl⟩
              refine lv_iinc (v := v330) (lv' := [(5, .int v330), (4, .int x16_4_315), (0, .ref a_0), (1, .int i_0), (2, .int i_1), (3, .int i_2)]) hx hb dX12_heirsOf_80 hl (k := 0) rfl (by rw [ev330]; rfl) (by decide) rfl ?_
              clear hl
              clear ls
              intro ls hl
              have rv330 : mm_rg v330 1 6 := mm_add ev330 q323 mm_k1 (by decide) (by decide)
              have tv330 := mm_addEc ev330 q323 mm_k1 (by decide) (k := 1) (by decide)
              refine lv_goto (tgt := 16) hx hb dX12_heirsOf_83 (by decide) ?_
              exact ih16 v330 x16_4_315 y16_0_29_316 y16_0_30_317 y16_0_31_318 z16_8_319 (mm_wk rv330 (by decide)) rx16_4_315 ry16_0_29_316 rz16_8_319 (mm_mu hm16 tv330 (by decide) (rv330).2 (by decide)) H locs hP hD hS ls (lv_sub hl [0, 1, 2, 3, 4, 5] rfl)
          · refine lv_if_ne (tgt := 37) hx hb dX12_heirsOf_31 (by decide) (fun c331 => ?_) (fun c331 => ?_)
            · refine lv_aload_n hx hb dX12_heirsOf_37 rfl (lv_at hl 2 rfl) ?_
              refine lv_iload_n hx hb dX12_heirsOf_38 rfl (lv_at hl 3 rfl) ?_
              refine lv_iload_n hx hb dX12_heirsOf_39 rfl (lv_at hl 4 rfl) ?_
              refine lv_iload hx hb dX12_heirsOf_40 (lv_at hl 0 rfl) ?_
              refine mm_fini (va_runV (As := [.int i_0, .int i_1, .int x16_5_314]) (rest := []) ⟨hx, hb, hml, hown, hts⟩ (M141_X12_reads l G cy H.size a_0 i_0 i_1 x16_5_314 i_3 a_1 a_2 a_3 a_4 a_5 i_4 i_5 i_6 i_7 i_8 j_0 i_9 i_10 i_11 i_12 a_6 a_7 a_8 a_9 a_10 a_11 a_12 a_13 a_14 a_15 a_16 a_17 a_18 y16_0_29_316 y16_0_30_317 y16_0_31_318 i_16 i_17 i_18 a_19 i_19 a_20 i_20 i_21 i_22 i_23 i_24 i_25 i_26 i_27 i_28 i_29 i_30 i_31 i_32 i_33 i_34 i_35 i_36 i_37 i_38 i_39 i_40 i_41 i_42 i_43 i_44 i_45 i_46 i_47 i_48 i_49 f_0 f_1 f_2 f_3 f_4 f_5 z16_8_319 h0 (mm_wk h1 (by decide)) q323 ry16_0_29_316 h4 h5 h6 h7 (mm_wk q324 (by decide)) h9 h10 h11 h12 h13 h14 h15 h16 h17 h18 h19 h20 h21 h22 h23 h24 h25 h26 h27 h28 h29 h30 h31 h32 h33 h34 h35 h36 h37 h38 h39 rz16_8_319 h41 h42 h43 h44 h45 h46 h47 h48 h49) (cwV 3 hts (mm_gV mm_w852 mm_w853 mm_w854 mm_w5 mm_w855) rfl rfl rfl hd_X12_reads ⟨by rw [hRf]; exact Nat.le_of_ble_eq_true rfl, by rw [hRl]; exact Nat.le_of_ble_eq_true rfl⟩) (mm_preV hK hZ hS hA hP hD [0, 1, 2, 3, 4, 5, 6, 7, 8] rfl rfl 0 rfl rfl rfl) rfl rfl hl.1 rfl (lv_room (Nat.le_of_ble_eq_true rfl)) dX12_heirsOf_42 ⟨by rw [hRc]; exact Nat.le_of_ble_eq_true rfl, by rw [hRs]; exact Nat.le_of_ble_eq_true rfl⟩) hP hD hS hA (fun u : Int32 × Int32 × Int32 × (Nat → Int32) => [(a_0, .inr (12, [.int i_3, .ref a_1, .ref a_2, .ref a_3, .ref a_4, .ref a_5, .int i_4, .int i_5, .int i_6, .int i_7, .int i_8, .long j_0, .int i_9, .int i_10, .int i_11, .int i_12, .ref a_6, .ref a_7, .ref a_8, .ref a_9, .ref a_10, .ref a_11, .ref a_12, .ref a_13, .ref a_14, .ref a_15, .ref a_16, .ref a_17, .ref a_18, .int u.1, .int u.2.1, .int u.2.2.1, .int i_16, .int i_17, .int i_18, .ref a_19, .int i_19, .ref a_20])), (a_7, .inl (cy 1, 30, .inl (mm_g [i_20, i_21, i_22, i_23, i_24, i_25, i_26, i_27, i_28, i_29, i_30, i_31, i_32, i_33, i_34, i_35, i_36, i_37, i_38, i_39, i_40, i_41, i_42, i_43, i_44, i_45, i_46, i_47, i_48, i_49]))), (a_8, .inl (cy 1, 90, .inl f_0)), (a_11, .inl (cy 1, 30, .inl f_1)), (a_12, .inl (cy 1, 240, .inl f_2)), (a_13, .inl (cy 1, 450, .inl f_3)), (a_15, .inl (cy 1, 7200, .inl f_4)), (a_16, .inl (cy 1, 3, .inl f_5)), (a_18, .inl (cy 1, 8, .inl u.2.2.2))]) [0, 1, 2, 3, 4, 5, 6, 7, 8] [] (n := 9) (fun _ => rfl) (by decide +kernel) (by decide +kernel) rfl (fun _ => rfl) (wr := []) rfl (fun _ => rfl) (fun _ => @rfl _ ([a_0, a_7, a_8, a_11, a_12, a_13, a_15, a_16, a_18] : List Nat)) ?_
              clear hP hD hS
              clear H locs
              intro v336 u
              obtain ⟨n332, n333, n334, n335⟩ := u
              intro H locs hw (hP : va_P G vwCl [(a_0, .inr (12, [.int i_3, .ref a_1, .ref a_2, .ref a_3, .ref a_4, .ref a_5, .int i_4, .int i_5, .int i_6, .int i_7, .int i_8, .long j_0, .int i_9, .int i_10, .int i_11, .int i_12, .ref a_6, .ref a_7, .ref a_8, .ref a_9, .ref a_10, .ref a_11, .ref a_12, .ref a_13, .ref a_14, .ref a_15, .ref a_16, .ref a_17, .ref a_18, .int n332, .int n333, .int n334, .int i_16, .int i_17, .int i_18, .ref a_19, .int i_19, .ref a_20])), (a_7, .inl (cy 1, 30, .inl (mm_g [i_20, i_21, i_22, i_23, i_24, i_25, i_26, i_27, i_28, i_29, i_30, i_31, i_32, i_33, i_34, i_35, i_36, i_37, i_38, i_39, i_40, i_41, i_42, i_43, i_44, i_45, i_46, i_47, i_48, i_49]))), (a_8, .inl (cy 1, 90, .inl f_0)), (a_11, .inl (cy 1, 30, .inl f_1)), (a_12, .inl (cy 1, 240, .inl f_2)), (a_13, .inl (cy 1, 450, .inl f_3)), (a_15, .inl (cy 1, 7200, .inl f_4)), (a_16, .inl (cy 1, 3, .inl f_5)), (a_18, .inl (cy 1, 8, .inl n335))] H) (hD : va_D A [(a_0, .inr (12, [.int i_3, .ref a_1, .ref a_2, .ref a_3, .ref a_4, .ref a_5, .int i_4, .int i_5, .int i_6, .int i_7, .int i_8, .long j_0, .int i_9, .int i_10, .int i_11, .int i_12, .ref a_6, .ref a_7, .ref a_8, .ref a_9, .ref a_10, .ref a_11, .ref a_12, .ref a_13, .ref a_14, .ref a_15, .ref a_16, .ref a_17, .ref a_18, .int n332, .int n333, .int n334, .int i_16, .int i_17, .int i_18, .ref a_19, .int i_19, .ref a_20])), (a_7, .inl (cy 1, 30, .inl (mm_g [i_20, i_21, i_22, i_23, i_24, i_25, i_26, i_27, i_28, i_29, i_30, i_31, i_32, i_33, i_34, i_35, i_36, i_37, i_38, i_39, i_40, i_41, i_42, i_43, i_44, i_45, i_46, i_47, i_48, i_49]))), (a_8, .inl (cy 1, 90, .inl f_0)), (a_11, .inl (cy 1, 30, .inl f_1)), (a_12, .inl (cy 1, 240, .inl f_2)), (a_13, .inl (cy 1, 450, .inl f_3)), (a_15, .inl (cy 1, 7200, .inl f_4)), (a_16, .inl (cy 1, 3, .inl f_5)), (a_18, .inl (cy 1, 8, .inl n335))]) hS
              obtain ⟨w337, w338, hw⟩ := hw
              obtain ⟨w339, w340⟩ := hw
              replace w340 : mm_rd f_4 f_5 f_0 f_1 f_2 f_3 i_0 i_1 x16_5_314 i_21 i_22 i_25 v336 := w340
              refine lv_aload_n hx hb dX12_heirsOf_45 rfl (lv_at hl 2 rfl) ?_
              refine lv_iload_n hx hb dX12_heirsOf_46 rfl (lv_at hl 3 rfl) ?_
              refine lv_iload_n hx hb dX12_heirsOf_47 rfl (lv_at hl 4 rfl) ?_
              refine lv_iconst (v := 1) hx hb dX12_heirsOf_48 (by decide) ?_
              refine lv_iadd hx hb dX12_heirsOf_49 ?_
              refine lv_topi (fun v341 ev341 => ?_)
              have rv341 : mm_rg v341 1 1000000005 := mm_add ev341 h1 mm_k1 (by decide) (by decide)
              have tv341 := mm_addEc ev341 h1 mm_k1 (by decide) (k := 1) (by decide)
              refine lv_iload_n hx hb dX12_heirsOf_50 rfl (lv_at hl 5 rfl) ?_
              refine lv_iconst (v := 1) hx hb dX12_heirsOf_51 (by decide) ?_
              refine lv_iload hx hb dX12_heirsOf_52 (lv_at hl 0 rfl) ?_
              refine lv_ishl hx hb dX12_heirsOf_54 ?_
              refine lv_topi (fun v342 ev342 => ?_)
              have rv342 : mm_rg v342 1 32 := mm_shl1 ev342 q323 (by decide)
              refine lv_iconst (v := (-1)) hx hb dX12_heirsOf_55 (by decide) ?_
              refine lv_ixor hx hb dX12_heirsOf_56 ?_
              refine lv_topi (fun v343 ev343 => ?_)
              refine lv_iand hx hb dX12_heirsOf_57 ?_
              refine lv_topi (fun v344 ev344 => ?_)
              have rv344 : mm_rg v344 0 63 := mm_andL ev344 q2 (by decide)
              refine mm_fini (va_runV (As := [.int i_0, .int v341, .int v344]) (rest := [.int v336]) ⟨hx, hb, hml, hown, hts⟩ (M235_X12_heirsOf l G cy H.size a_0 i_0 v341 v344 i_3 a_1 a_2 a_3 a_4 a_5 i_4 i_5 i_6 i_7 i_8 j_0 i_9 i_10 i_11 i_12 a_6 a_7 a_8 a_9 a_10 a_11 a_12 a_13 a_14 a_15 a_16 a_17 a_18 n332 n333 n334 i_16 i_17 i_18 a_19 i_19 a_20 i_20 i_21 i_22 i_23 i_24 i_25 i_26 i_27 i_28 i_29 i_30 i_31 i_32 i_33 i_34 i_35 i_36 i_37 i_38 i_39 i_40 i_41 i_42 i_43 i_44 i_45 i_46 i_47 i_48 i_49 f_0 f_1 f_2 f_3 f_4 f_5 n335 h0 (mm_wk rv341 (by decide)) rv344 w337 h4 h5 h6 h7 (mm_wk q324 (by decide)) h9 h10 h11 h12 h13 h14 h15 h16 h17 h18 h19 h20 h21 h22 h23 h24 h25 h26 h27 h28 h29 h30 h31 h32 h33 h34 h35 h36 h37 h38 h39 w338 h41 h42 h43 h44 h45 h46 h47 h48 h49 (mm_pc_cut h50 w327 ev342 ev343 ev344 q2 q323 (by decide))) (cwV 3 hts (mm_gV mm_w1456 mm_w1457 mm_w1458 mm_w5 mm_w1459) rfl rfl rfl hd_X12_heirsOf ⟨by rw [hRf]; exact Nat.le_of_ble_eq_true rfl, by rw [hRl]; exact Nat.le_of_ble_eq_true rfl⟩) (mm_preV hK hZ hS hA hP hD [0, 1, 2, 3, 4, 5, 6, 7, 8] rfl rfl 0 rfl rfl rfl) rfl rfl hl.1 rfl (lv_room (Nat.le_of_ble_eq_true rfl)) dX12_heirsOf_58 ⟨by rw [hRc]; exact Nat.le_of_ble_eq_true rfl, by rw [hRs]; exact Nat.le_of_ble_eq_true rfl⟩) hP hD hS hA (fun u : Int32 × Int32 × Int32 × (Nat → Int32) => [(a_0, .inr (12, [.int i_3, .ref a_1, .ref a_2, .ref a_3, .ref a_4, .ref a_5, .int i_4, .int i_5, .int i_6, .int i_7, .int i_8, .long j_0, .int i_9, .int i_10, .int i_11, .int i_12, .ref a_6, .ref a_7, .ref a_8, .ref a_9, .ref a_10, .ref a_11, .ref a_12, .ref a_13, .ref a_14, .ref a_15, .ref a_16, .ref a_17, .ref a_18, .int u.1, .int u.2.1, .int u.2.2.1, .int i_16, .int i_17, .int i_18, .ref a_19, .int i_19, .ref a_20])), (a_7, .inl (cy 1, 30, .inl (mm_g [i_20, i_21, i_22, i_23, i_24, i_25, i_26, i_27, i_28, i_29, i_30, i_31, i_32, i_33, i_34, i_35, i_36, i_37, i_38, i_39, i_40, i_41, i_42, i_43, i_44, i_45, i_46, i_47, i_48, i_49]))), (a_8, .inl (cy 1, 90, .inl f_0)), (a_11, .inl (cy 1, 30, .inl f_1)), (a_12, .inl (cy 1, 240, .inl f_2)), (a_13, .inl (cy 1, 450, .inl f_3)), (a_15, .inl (cy 1, 7200, .inl f_4)), (a_16, .inl (cy 1, 3, .inl f_5)), (a_18, .inl (cy 1, 8, .inl u.2.2.2))]) [0, 1, 2, 3, 4, 5, 6, 7, 8] [] (n := 9) (fun _ => rfl) (by decide +kernel) (by decide +kernel) rfl (fun _ => rfl) (wr := []) rfl (fun _ => rfl) (fun _ => @rfl _ ([a_0, a_7, a_8, a_11, a_12, a_13, a_15, a_16, a_18] : List Nat)) ?_
              clear hP hD hS
              clear H locs
              intro v349 u
              obtain ⟨n345, n346, n347, n348⟩ := u
              intro H locs hw (hP : va_P G vwCl [(a_0, .inr (12, [.int i_3, .ref a_1, .ref a_2, .ref a_3, .ref a_4, .ref a_5, .int i_4, .int i_5, .int i_6, .int i_7, .int i_8, .long j_0, .int i_9, .int i_10, .int i_11, .int i_12, .ref a_6, .ref a_7, .ref a_8, .ref a_9, .ref a_10, .ref a_11, .ref a_12, .ref a_13, .ref a_14, .ref a_15, .ref a_16, .ref a_17, .ref a_18, .int n345, .int n346, .int n347, .int i_16, .int i_17, .int i_18, .ref a_19, .int i_19, .ref a_20])), (a_7, .inl (cy 1, 30, .inl (mm_g [i_20, i_21, i_22, i_23, i_24, i_25, i_26, i_27, i_28, i_29, i_30, i_31, i_32, i_33, i_34, i_35, i_36, i_37, i_38, i_39, i_40, i_41, i_42, i_43, i_44, i_45, i_46, i_47, i_48, i_49]))), (a_8, .inl (cy 1, 90, .inl f_0)), (a_11, .inl (cy 1, 30, .inl f_1)), (a_12, .inl (cy 1, 240, .inl f_2)), (a_13, .inl (cy 1, 450, .inl f_3)), (a_15, .inl (cy 1, 7200, .inl f_4)), (a_16, .inl (cy 1, 3, .inl f_5)), (a_18, .inl (cy 1, 8, .inl n348))] H) (hD : va_D A [(a_0, .inr (12, [.int i_3, .ref a_1, .ref a_2, .ref a_3, .ref a_4, .ref a_5, .int i_4, .int i_5, .int i_6, .int i_7, .int i_8, .long j_0, .int i_9, .int i_10, .int i_11, .int i_12, .ref a_6, .ref a_7, .ref a_8, .ref a_9, .ref a_10, .ref a_11, .ref a_12, .ref a_13, .ref a_14, .ref a_15, .ref a_16, .ref a_17, .ref a_18, .int n345, .int n346, .int n347, .int i_16, .int i_17, .int i_18, .ref a_19, .int i_19, .ref a_20])), (a_7, .inl (cy 1, 30, .inl (mm_g [i_20, i_21, i_22, i_23, i_24, i_25, i_26, i_27, i_28, i_29, i_30, i_31, i_32, i_33, i_34, i_35, i_36, i_37, i_38, i_39, i_40, i_41, i_42, i_43, i_44, i_45, i_46, i_47, i_48, i_49]))), (a_8, .inl (cy 1, 90, .inl f_0)), (a_11, .inl (cy 1, 30, .inl f_1)), (a_12, .inl (cy 1, 240, .inl f_2)), (a_13, .inl (cy 1, 450, .inl f_3)), (a_15, .inl (cy 1, 7200, .inl f_4)), (a_16, .inl (cy 1, 3, .inl f_5)), (a_18, .inl (cy 1, 8, .inl n348))]) hS
              obtain ⟨w350, w351, hw⟩ := hw
              have w352 := hw
              refine lv_isub hx hb dX12_heirsOf_61 ?_
              refine lv_topi (fun v353 ev353 => ?_)
              have rv353 : mm_rg v353 (-1009999) 1009999 := mm_sub ev353 w339 w352 (by decide) (by decide)
              have tv353 := mm_subE ev353 w339 w352 (by decide)
              refine lv_istore (lv' := [(6, .int v353), (5, .int x16_5_314), (4, .int x16_4_315), (0, .ref a_0), (1, .int i_0), (2, .int i_1), (3, .int i_2)]) hx hb dX12_heirsOf_62 hl (by decide) rfl ?_
              clear hl
              clear ls
              intro ls hl
              refine lv_iload hx hb dX12_heirsOf_64 (lv_at hl 0 rfl) ?_
              refine lv_iload hx hb dX12_heirsOf_66 (lv_at hl 2 rfl) ?_
              refine lv_icmp_le (tgt := 76) hx hb dX12_heirsOf_68 (by decide) (fun c354 => ?_) (fun c354 => ?_)
              · refine lv_iload hx hb dX12_heirsOf_76 (lv_at hl 2 rfl) ?_
                refine lv_istore (lv' := [(4, .int x16_4_315), (6, .int v353), (5, .int x16_5_314), (0, .ref a_0), (1, .int i_0), (2, .int i_1), (3, .int i_2)]) hx hb dX12_heirsOf_78 hl (by decide) rfl ?_
                clear hl
                clear ls
                intro ls hl
                obtain ⟨v355, ev355⟩ : ∃ y : Int32, y = x16_5_314 + 1 := ⟨_, rfl⟩
                refine lv_iinc (v := v355) (lv' := [(5, .int v355), (4, .int x16_4_315), (6, .int v353), (0, .ref a_0), (1, .int i_0), (2, .int i_1), (3, .int i_2)]) hx hb dX12_heirsOf_80 hl (k := 2) rfl (by rw [ev355]; rfl) (by decide) rfl ?_
                clear hl
                clear ls
                intro ls hl
                have rv355 : mm_rg v355 1 6 := mm_add ev355 q323 mm_k1 (by decide) (by decide)
                have tv355 := mm_addEc ev355 q323 mm_k1 (by decide) (k := 1) (by decide)
                refine lv_goto (tgt := 16) hx hb dX12_heirsOf_83 (by decide) ?_
                exact ih16 v355 x16_4_315 n345 n346 n347 n348 (mm_wk rv355 (by decide)) rx16_4_315 w350 w351 (mm_mu hm16 tv355 (by decide) (rv355).2 (by decide)) H locs hP hD hS ls (lv_sub hl [0, 1, 3, 4, 5, 6] rfl)
              · have q356 := mm_ltL (h := 1009998) (mm_nle c354) rx16_4_315 rv353 (by decide)
                have q357 := mm_ltR (lo := (-999999)) (mm_nle c354) rx16_4_315 rv353 (by decide)
                have q358 : mm_rg v349 (-1000000) 1009998 := mm_unsubY tv353 q357 w339 w352 (by decide)
                refine lv_iload hx hb dX12_heirsOf_71 (lv_at hl 0 rfl) ?_
                refine lv_goto (tgt := 78) hx hb dX12_heirsOf_73 (by decide) ?_
                refine lv_istore (lv' := [(4, .int v353), (6, .int v353), (5, .int x16_5_314), (0, .ref a_0), (1, .int i_0), (2, .int i_1), (3, .int i_2)]) hx hb dX12_heirsOf_78 hl (by decide) rfl ?_
                clear hl
                clear ls
                intro ls hl
                obtain ⟨v359, ev359⟩ : ∃ y : Int32, y = x16_5_314 + 1 := ⟨_, rfl⟩
                refine lv_iinc (v := v359) (lv' := [(5, .int v359), (4, .int v353), (6, .int v353), (0, .ref a_0), (1, .int i_0), (2, .int i_1), (3, .int i_2)]) hx hb dX12_heirsOf_80 hl (k := 2) rfl (by rw [ev359]; rfl) (by decide) rfl ?_
                clear hl
                clear ls
                intro ls hl
                have rv359 : mm_rg v359 1 6 := mm_add ev359 q323 mm_k1 (by decide) (by decide)
                have tv359 := mm_addEc ev359 q323 mm_k1 (by decide) (k := 1) (by decide)
                refine lv_goto (tgt := 16) hx hb dX12_heirsOf_83 (by decide) ?_
                exact ih16 v359 v353 n345 n346 n347 n348 (mm_wk rv359 (by decide)) (mm_wk q357 (by decide)) w350 w351 (mm_mu hm16 tv359 (by decide) (rv359).2 (by decide)) H locs hP hD hS ls (lv_sub hl [0, 1, 3, 4, 5, 6] rfl)
            · exact mm_eqN c331.symm mm_k0 mm_k1 (by decide)
    exact L16_319 _ 0 (-1000000) i_13 i_14 i_15 f_6 (mm_wk mm_k0 (by decide)) (mm_wk mm_km1000000 (by decide)) h3 h40 (Nat.lt_succ_self _) H locs hP hD hS ls (lv_sub hl [0, 1, 2, 3, 4, 5] rfl)
  · have q360 := mm_eqI (lo := 0) (hi := 0) c1 h2 mm_k0 (by decide)
    refine lv_iconst (v := 0) hx hb dX12_heirsOf_4 (by decide) ?_
    refine lv_goto (tgt := 11) hx hb dX12_heirsOf_5 (by decide) ?_
    refine lv_istore (lv' := [(4, .int 0), (0, .ref a_0), (1, .int i_0), (2, .int i_1), (3, .int i_2)]) hx hb dX12_heirsOf_11 hl (by decide) rfl ?_
    clear hl
    clear ls
    intro ls hl
    refine lv_iconst (v := 0) hx hb dX12_heirsOf_13 (by decide) ?_
    refine lv_istore (lv' := [(5, .int 0), (4, .int 0), (0, .ref a_0), (1, .int i_0), (2, .int i_1), (3, .int i_2)]) hx hb dX12_heirsOf_14 hl (by decide) rfl ?_
    clear hl
    clear ls
    intro ls hl
    have L16_440 : ∀ (n : Nat) (x16_5_440 : Int32), mm_rg x16_5_440 0 6 → (6 - x16_5_440.toInt).toNat < n → ∀ (H : Heap) (locs : List Loc), va_P G vwCl [(a_0, .inr (12, [.int i_3, .ref a_1, .ref a_2, .ref a_3, .ref a_4, .ref a_5, .int i_4, .int i_5, .int i_6, .int i_7, .int i_8, .long j_0, .int i_9, .int i_10, .int i_11, .int i_12, .ref a_6, .ref a_7, .ref a_8, .ref a_9, .ref a_10, .ref a_11, .ref a_12, .ref a_13, .ref a_14, .ref a_15, .ref a_16, .ref a_17, .ref a_18, .int i_13, .int i_14, .int i_15, .int i_16, .int i_17, .int i_18, .ref a_19, .int i_19, .ref a_20])), (a_7, .inl (cy 1, 30, .inl (mm_g [i_20, i_21, i_22, i_23, i_24, i_25, i_26, i_27, i_28, i_29, i_30, i_31, i_32, i_33, i_34, i_35, i_36, i_37, i_38, i_39, i_40, i_41, i_42, i_43, i_44, i_45, i_46, i_47, i_48, i_49]))), (a_8, .inl (cy 1, 90, .inl f_0)), (a_11, .inl (cy 1, 30, .inl f_1)), (a_12, .inl (cy 1, 240, .inl f_2)), (a_13, .inl (cy 1, 450, .inl f_3)), (a_15, .inl (cy 1, 7200, .inl f_4)), (a_16, .inl (cy 1, 3, .inl f_5)), (a_18, .inl (cy 1, 8, .inl f_6))] H → va_D A [(a_0, .inr (12, [.int i_3, .ref a_1, .ref a_2, .ref a_3, .ref a_4, .ref a_5, .int i_4, .int i_5, .int i_6, .int i_7, .int i_8, .long j_0, .int i_9, .int i_10, .int i_11, .int i_12, .ref a_6, .ref a_7, .ref a_8, .ref a_9, .ref a_10, .ref a_11, .ref a_12, .ref a_13, .ref a_14, .ref a_15, .ref a_16, .ref a_17, .ref a_18, .int i_13, .int i_14, .int i_15, .int i_16, .int i_17, .int i_18, .ref a_19, .int i_19, .ref a_20])), (a_7, .inl (cy 1, 30, .inl (mm_g [i_20, i_21, i_22, i_23, i_24, i_25, i_26, i_27, i_28, i_29, i_30, i_31, i_32, i_33, i_34, i_35, i_36, i_37, i_38, i_39, i_40, i_41, i_42, i_43, i_44, i_45, i_46, i_47, i_48, i_49]))), (a_8, .inl (cy 1, 90, .inl f_0)), (a_11, .inl (cy 1, 30, .inl f_1)), (a_12, .inl (cy 1, 240, .inl f_2)), (a_13, .inl (cy 1, 450, .inl f_3)), (a_15, .inl (cy 1, 7200, .inl f_4)), (a_16, .inl (cy 1, 3, .inl f_5)), (a_18, .inl (cy 1, 8, .inl f_6))] → va_S A s.heap H locs → ∀ (ls : Array Slot), lv_has ls 7 [(5, .int x16_5_440), (4, .int 0), (0, .ref a_0), (1, .int i_0), (2, .int i_1), (3, .int i_2)] → W p l e R s m args below meth c H locs 0 0 Q (F0 m 16 ls []) := by
      intro n
      induction n with
      | zero => intro x16_5_440 rx16_5_440 hm; exact absurd hm (Nat.not_lt_zero _)
      | succ n ih16 =>
        intro x16_5_440 rx16_5_440 hm16 H locs hP hD hS ls hl
        refine lv_iload hx hb dX12_heirsOf_16 (lv_at hl 0 rfl) ?_
        refine lv_aload_n hx hb dX12_heirsOf_18 rfl (lv_at hl 2 rfl) ?_
        refine mm_finir (va_runV (As := []) (rest := [.int x16_5_440]) ⟨hx, hb, hml, hown, hts⟩ (M95_X12_texts l G cy H.size a_0 i_3 a_1 a_2 a_3 a_4 a_5 i_4 i_5 i_6 i_7 i_8 j_0 i_9 i_10 i_11 i_12 a_6 a_7 a_8 a_9 a_10 a_11 a_12 a_13 a_14 a_15 a_16 a_17 a_18 i_13 i_14 i_15 i_16 i_17 i_18 a_19 i_19 a_20 i_20 i_21 i_22 i_23 i_24 i_25 i_26 i_27 i_28 i_29 i_30 i_31 i_32 i_33 i_34 i_35 i_36 i_37 i_38 i_39 i_40 i_41 i_42 i_43 i_44 i_45 i_46 i_47 i_48 i_49 h4 h5 h6 h7 h8 h9 h10 h11 h12 h13 h14 h15 h16 h17 h18 h19 h20 h21 h22 h23 h24 h25 h26 h27 h28 h29 h30 h31 h32 h33) (cwV 0 hts (mm_gV mm_w617 mm_w618 mm_w619 mm_w5 mm_w620) rfl rfl rfl hd_X12_texts ⟨by rw [hRf]; exact Nat.le_of_ble_eq_true rfl, by rw [hRl]; exact Nat.le_of_ble_eq_true rfl⟩) (mm_preV hK hZ hS hA hP hD [0, 1] rfl rfl 0 rfl rfl rfl) rfl rfl hl.1 rfl (lv_room (Nat.le_of_ble_eq_true rfl)) dX12_heirsOf_19 ⟨by rw [hRc]; exact Nat.le_of_ble_eq_true rfl, by rw [hRs]; exact Nat.le_of_ble_eq_true rfl⟩) hP hD hS hA [0, 1] rfl (fun _ => rfl) ?_
        clear hP hD hS
        clear H locs
        intro v442 _u H locs hw hP hD hS
        subst hw
        refine lv_icmp_ge (tgt := 86) hx hb dX12_heirsOf_22 (by decide) (fun c443 => ?_) (fun c443 => ?_)
        · refine lv_iload hx hb dX12_heirsOf_86 (lv_at hl 1 rfl) ?_
          subst hAe
          rw [hQ]
          exact W.iret (v := 0) hx hb hr (fun t ht hW => ⟨⟨0, (i_13, i_14, i_15, f_6), rfl, ⟨h3, h40, (mm_wk mm_k0 (by decide))⟩, by rw [ht]; exact hP, hK.warm hW, hD⟩, hS.F ht⟩) hS.2.2 dX12_heirsOf_88
        · have q444 := mm_ltL (h := 5) (mm_nle c443) rx16_5_440 h8 (by decide)
          have q445 := mm_ltR (lo := 1) (mm_nle c443) rx16_5_440 h8 (by decide)
          refine lv_iload_n hx hb dX12_heirsOf_25 rfl (lv_at hl 5 rfl) ?_
          refine lv_iload hx hb dX12_heirsOf_26 (lv_at hl 0 rfl) ?_
          refine mm_finir (va_runS (As := [.int i_2, .int x16_5_440]) (rest := []) ⟨hx, hb, hml, hown, hts⟩ (M232_X12_isBit l G cy H.size i_2 x16_5_440 (mm_wk q360 (by decide)) q444) (va_cwS 2 hts (mm_gS mm_w1461 mm_w1462 mm_w5 mm_w1463) rfl rfl rfl hs_X12_isBit ⟨by rw [hRf]; exact Nat.le_of_ble_eq_true rfl, by rw [hRl]; exact Nat.le_of_ble_eq_true rfl⟩) (mm_preS hK hZ hS hA hP hD [] rfl rfl) rfl rfl hl.1 rfl (lv_room (Nat.le_of_ble_eq_true rfl)) dX12_heirsOf_28 ⟨by rw [hRc]; exact Nat.le_of_ble_eq_true rfl, by rw [hRs]; exact Nat.le_of_ble_eq_true rfl⟩) hP hD hS hA [] rfl (fun _ => rfl) ?_
          clear hP hD hS
          clear H locs
          intro v446 _u H locs hw hP hD hS
          rcases hw with ⟨rfl, w447⟩ | ⟨rfl, w448⟩
          · refine lv_if_ne (tgt := 37) hx hb dX12_heirsOf_31 (by decide) (fun c449 => ?_) (fun c449 => ?_)
            · have q450 := mm_neL (lo := 1) (mm_ne c449) mm_k0 mm_k0 (by decide) (by decide)
              exact mm_no q450 (by decide)
            · refine lv_goto (tgt := 80) hx hb dX12_heirsOf_34 (by decide) ?_
              obtain ⟨v451, ev451⟩ : ∃ y : Int32, y = x16_5_440 + 1 := ⟨_, rfl⟩
              refine lv_iinc (v := v451) (lv' := [(5, .int v451), (4, .int 0), (0, .ref a_0), (1, .int i_0), (2, .int i_1), (3, .int i_2)]) hx hb dX12_heirsOf_80 hl (k := 0) rfl (by rw [ev451]; rfl) (by decide) rfl ?_
              clear hl
              clear ls
              intro ls hl
              have rv451 : mm_rg v451 1 6 := mm_add ev451 q444 mm_k1 (by decide) (by decide)
              have tv451 := mm_addEc ev451 q444 mm_k1 (by decide) (k := 1) (by decide)
              refine lv_goto (tgt := 16) hx hb dX12_heirsOf_83 (by decide) ?_
              exact ih16 v451 (mm_wk rv451 (by decide)) (mm_mu hm16 tv451 (by decide) (rv451).2 (by decide)) H locs hP hD hS ls (lv_sub hl [0, 1, 2, 3, 4, 5] rfl)
          · exact mm_bit_no w448 q360 (by decide)
    exact L16_440 _ 0 (mm_wk mm_k0 (by decide)) (Nat.lt_succ_self _) H locs hP hD hS ls (lv_sub hl [0, 1, 2, 3, 4, 5] rfl)

set_option maxHeartbeats 4000000 in
set_option maxRecDepth 100000 in
theorem M237_X12_heirsOf (l : Launch) (G : va_G) (cy : Nat → ClassId) (sz : Nat) (a_0 : Nat) (i_0 : Int32) (i_1 : Int32) (i_2 : Int32) (i_3 : Int32) (a_1 : Nat) (a_2 : Nat) (a_3 : Nat) (a_4 : Nat) (a_5 : Nat) (i_4 : Int32) (i_5 : Int32) (i_6 : Int32) (i_7 : Int32) (i_8 : Int32) (j_0 : Int64) (i_9 : Int32) (i_10 : Int32) (i_11 : Int32) (i_12 : Int32) (a_6 : Nat) (a_7 : Nat) (a_8 : Nat) (a_9 : Nat) (a_10 : Nat) (a_11 : Nat) (a_12 : Nat) (a_13 : Nat) (a_14 : Nat) (a_15 : Nat) (a_16 : Nat) (a_17 : Nat) (a_18 : Nat) (i_13 : Int32) (i_14 : Int32) (i_15 : Int32) (i_16 : Int32) (i_17 : Int32) (i_18 : Int32) (a_19 : Nat) (i_19 : Int32) (a_20 : Nat) (i_20 : Int32) (i_21 : Int32) (i_22 : Int32) (i_23 : Int32) (i_24 : Int32) (i_25 : Int32) (i_26 : Int32) (i_27 : Int32) (i_28 : Int32) (i_29 : Int32) (i_30 : Int32) (i_31 : Int32) (i_32 : Int32) (i_33 : Int32) (i_34 : Int32) (i_35 : Int32) (i_36 : Int32) (i_37 : Int32) (i_38 : Int32) (i_39 : Int32) (i_40 : Int32) (i_41 : Int32) (i_42 : Int32) (i_43 : Int32) (i_44 : Int32) (i_45 : Int32) (i_46 : Int32) (i_47 : Int32) (i_48 : Int32) (i_49 : Int32) (f_0 : Nat → Int32) (f_1 : Nat → Int32) (f_2 : Nat → Int32) (f_3 : Nat → Int32) (f_4 : Nat → Int32) (f_5 : Nat → Int32) (f_6 : Nat → Int32) (h0 : mm_rg i_0 0 2) (h1 : mm_rg i_1 0 1000000003) (h2 : mm_rg i_2 0 63) (h3 : mm_rg i_13 0 8) (h4 : mm_rg i_20 0 10) (h5 : mm_rg i_21 0 99) (h6 : mm_rg i_22 0 9) (h7 : mm_rg i_23 0 3) (h8 : mm_rg i_24 0 6) (h9 : mm_rg i_25 0 30) (h10 : mm_rg i_26 0 10) (h11 : mm_rg i_27 0 99) (h12 : mm_rg i_28 0 9) (h13 : mm_rg i_29 0 3) (h14 : mm_rg i_30 0 6) (h15 : mm_rg i_31 0 30) (h16 : mm_rg i_32 0 10) (h17 : mm_rg i_33 0 99) (h18 : mm_rg i_34 0 9) (h19 : mm_rg i_35 0 3) (h20 : mm_rg i_36 0 6) (h21 : mm_rg i_37 0 30) (h22 : mm_rg i_38 0 10) (h23 : mm_rg i_39 0 99) (h24 : mm_rg i_40 0 9) (h25 : mm_rg i_41 0 3) (h26 : mm_rg i_42 0 6) (h27 : mm_rg i_43 0 30) (h28 : mm_rg i_44 0 10) (h29 : mm_rg i_45 0 99) (h30 : mm_rg i_46 0 9) (h31 : mm_rg i_47 0 3) (h32 : mm_rg i_48 0 6) (h33 : mm_rg i_49 0 30) (h34 : mm_ar f_0 0 99) (h35 : mm_ar f_1 0 8) (h36 : mm_ar f_2 0 9) (h37 : mm_ar f_3 (-1) 99) (h38 : mm_ar f_4 0 9) (h39 : mm_ar f_5 0 210) (h40 : mm_ar f_6 0 9) (h41 : mm_txs f_1 f_2 0 i_22 i_24) (h42 : mm_acs f_3 0 i_22 i_23 i_25) (h43 : mm_txs f_1 f_2 1 i_28 i_30) (h44 : mm_acs f_3 1 i_28 i_29 i_31) (h45 : mm_txs f_1 f_2 2 i_34 i_36) (h46 : mm_acs f_3 2 i_34 i_35 i_37) (h47 : mm_txs f_1 f_2 3 i_40 i_42) (h48 : mm_acs f_3 3 i_40 i_41 i_43) (h49 : mm_f1 f_5 i_0) (h50 : mm_pc 4 i_2)  : mm_CI l yX12_heirsOf (mm_ws yX12_heirsOf cX12_heirsOf 7 (some .int)) ({ frames := 6, cells := 0, slots := 0, locals := 151 } : Room) G cy sz [(a_0, .inr (12, [.int i_3, .ref a_1, .ref a_2, .ref a_3, .ref a_4, .ref a_5, .int i_4, .int i_5, .int i_6, .int i_7, .int i_8, .long j_0, .int i_9, .int i_10, .int i_11, .int i_12, .ref a_6, .ref a_7, .ref a_8, .ref a_9, .ref a_10, .ref a_11, .ref a_12, .ref a_13, .ref a_14, .ref a_15, .ref a_16, .ref a_17, .ref a_18, .int i_13, .int i_14, .int i_15, .int i_16, .int i_17, .int i_18, .ref a_19, .int i_19, .ref a_20])), (a_7, .inl (cy 1, 30, .inl (mm_g [i_20, i_21, i_22, i_23, i_24, i_25, i_26, i_27, i_28, i_29, i_30, i_31, i_32, i_33, i_34, i_35, i_36, i_37, i_38, i_39, i_40, i_41, i_42, i_43, i_44, i_45, i_46, i_47, i_48, i_49]))), (a_8, .inl (cy 1, 90, .inl f_0)), (a_11, .inl (cy 1, 30, .inl f_1)), (a_12, .inl (cy 1, 240, .inl f_2)), (a_13, .inl (cy 1, 450, .inl f_3)), (a_15, .inl (cy 1, 7200, .inl f_4)), (a_16, .inl (cy 1, 3, .inl f_5)), (a_18, .inl (cy 1, 8, .inl f_6))] [.ref a_0, .int i_0, .int i_1, .int i_2] (fun u : Int32 × Int32 × Int32 × (Nat → Int32) => [(a_0, .inr (12, [.int i_3, .ref a_1, .ref a_2, .ref a_3, .ref a_4, .ref a_5, .int i_4, .int i_5, .int i_6, .int i_7, .int i_8, .long j_0, .int i_9, .int i_10, .int i_11, .int i_12, .ref a_6, .ref a_7, .ref a_8, .ref a_9, .ref a_10, .ref a_11, .ref a_12, .ref a_13, .ref a_14, .ref a_15, .ref a_16, .ref a_17, .ref a_18, .int u.1, .int u.2.1, .int u.2.2.1, .int i_16, .int i_17, .int i_18, .ref a_19, .int i_19, .ref a_20])), (a_7, .inl (cy 1, 30, .inl (mm_g [i_20, i_21, i_22, i_23, i_24, i_25, i_26, i_27, i_28, i_29, i_30, i_31, i_32, i_33, i_34, i_35, i_36, i_37, i_38, i_39, i_40, i_41, i_42, i_43, i_44, i_45, i_46, i_47, i_48, i_49]))), (a_8, .inl (cy 1, 90, .inl f_0)), (a_11, .inl (cy 1, 30, .inl f_1)), (a_12, .inl (cy 1, 240, .inl f_2)), (a_13, .inl (cy 1, 450, .inl f_3)), (a_15, .inl (cy 1, 7200, .inl f_4)), (a_16, .inl (cy 1, 3, .inl f_5)), (a_18, .inl (cy 1, 8, .inl u.2.2.2))]) (fun (r : Int32) (u : Int32 × Int32 × Int32 × (Nat → Int32)) => mm_rg u.1 0 8 ∧ mm_ar u.2.2.2 0 9 ∧ mm_rg r (-1000000) 1009999) 0 0 := by
  refine mm_begin (lv := [(0, .ref a_0), (1, .int i_0), (2, .int i_1), (3, .int i_2)]) (by decide) (Nat.le_of_ble_eq_true rfl) rfl ?_
  intro p e s m below meth c A ls R args Q H locs hRe hQ hAe hx hb hr hlocks hml hown hnm hts hsz hA hS hP hK hD hZ hl
  have hRf : R.frames = 6 := by rw [hRe]
  have hRl : R.locals = 151 := by rw [hRe]
  have hRc : R.cells = 0 := by rw [hRe]
  have hRs : R.slots = 0 := by rw [hRe]
  refine lv_iload_n hx hb dX12_heirsOf_0 rfl (lv_at hl 3 rfl) ?_
  refine lv_if_ne (tgt := 8) hx hb dX12_heirsOf_1 (by decide) (fun c1 => ?_) (fun c1 => ?_)
  · have q2 := mm_neL (lo := 1) (mm_ne c1) h2 mm_k0 (by decide) (by decide)
    refine lv_ldcw (v := (-1000000)) hx hb hown (mm_h hts mm_w1460) dX12_heirsOf_8 ?_
    refine lv_istore (lv' := [(4, .int (-1000000)), (0, .ref a_0), (1, .int i_0), (2, .int i_1), (3, .int i_2)]) hx hb dX12_heirsOf_11 hl (by decide) rfl ?_
    clear hl
    clear ls
    intro ls hl
    refine lv_iconst (v := 0) hx hb dX12_heirsOf_13 (by decide) ?_
    refine lv_istore (lv' := [(5, .int 0), (4, .int (-1000000)), (0, .ref a_0), (1, .int i_0), (2, .int i_1), (3, .int i_2)]) hx hb dX12_heirsOf_14 hl (by decide) rfl ?_
    clear hl
    clear ls
    intro ls hl
    have L16_319 : ∀ (n : Nat) (x16_5_314 : Int32) (x16_4_315 : Int32) (y16_0_29_316 : Int32) (y16_0_30_317 : Int32) (y16_0_31_318 : Int32) (z16_8_319 : Nat → Int32), mm_rg x16_5_314 0 6 → mm_rg x16_4_315 (-1000000) 1009999 → mm_rg y16_0_29_316 0 8 → mm_ar z16_8_319 0 9 → (6 - x16_5_314.toInt).toNat < n → ∀ (H : Heap) (locs : List Loc), va_P G vwCl [(a_0, .inr (12, [.int i_3, .ref a_1, .ref a_2, .ref a_3, .ref a_4, .ref a_5, .int i_4, .int i_5, .int i_6, .int i_7, .int i_8, .long j_0, .int i_9, .int i_10, .int i_11, .int i_12, .ref a_6, .ref a_7, .ref a_8, .ref a_9, .ref a_10, .ref a_11, .ref a_12, .ref a_13, .ref a_14, .ref a_15, .ref a_16, .ref a_17, .ref a_18, .int y16_0_29_316, .int y16_0_30_317, .int y16_0_31_318, .int i_16, .int i_17, .int i_18, .ref a_19, .int i_19, .ref a_20])), (a_7, .inl (cy 1, 30, .inl (mm_g [i_20, i_21, i_22, i_23, i_24, i_25, i_26, i_27, i_28, i_29, i_30, i_31, i_32, i_33, i_34, i_35, i_36, i_37, i_38, i_39, i_40, i_41, i_42, i_43, i_44, i_45, i_46, i_47, i_48, i_49]))), (a_8, .inl (cy 1, 90, .inl f_0)), (a_11, .inl (cy 1, 30, .inl f_1)), (a_12, .inl (cy 1, 240, .inl f_2)), (a_13, .inl (cy 1, 450, .inl f_3)), (a_15, .inl (cy 1, 7200, .inl f_4)), (a_16, .inl (cy 1, 3, .inl f_5)), (a_18, .inl (cy 1, 8, .inl z16_8_319))] H → va_D A [(a_0, .inr (12, [.int i_3, .ref a_1, .ref a_2, .ref a_3, .ref a_4, .ref a_5, .int i_4, .int i_5, .int i_6, .int i_7, .int i_8, .long j_0, .int i_9, .int i_10, .int i_11, .int i_12, .ref a_6, .ref a_7, .ref a_8, .ref a_9, .ref a_10, .ref a_11, .ref a_12, .ref a_13, .ref a_14, .ref a_15, .ref a_16, .ref a_17, .ref a_18, .int y16_0_29_316, .int y16_0_30_317, .int y16_0_31_318, .int i_16, .int i_17, .int i_18, .ref a_19, .int i_19, .ref a_20])), (a_7, .inl (cy 1, 30, .inl (mm_g [i_20, i_21, i_22, i_23, i_24, i_25, i_26, i_27, i_28, i_29, i_30, i_31, i_32, i_33, i_34, i_35, i_36, i_37, i_38, i_39, i_40, i_41, i_42, i_43, i_44, i_45, i_46, i_47, i_48, i_49]))), (a_8, .inl (cy 1, 90, .inl f_0)), (a_11, .inl (cy 1, 30, .inl f_1)), (a_12, .inl (cy 1, 240, .inl f_2)), (a_13, .inl (cy 1, 450, .inl f_3)), (a_15, .inl (cy 1, 7200, .inl f_4)), (a_16, .inl (cy 1, 3, .inl f_5)), (a_18, .inl (cy 1, 8, .inl z16_8_319))] → va_S A s.heap H locs → ∀ (ls : Array Slot), lv_has ls 7 [(5, .int x16_5_314), (4, .int x16_4_315), (0, .ref a_0), (1, .int i_0), (2, .int i_1), (3, .int i_2)] → W p l e R s m args below meth c H locs 0 0 Q (F0 m 16 ls []) := by
      intro n
      induction n with
      | zero => intro x16_5_314 x16_4_315 y16_0_29_316 y16_0_30_317 y16_0_31_318 z16_8_319 rx16_5_314 rx16_4_315 ry16_0_29_316 rz16_8_319 hm; exact absurd hm (Nat.not_lt_zero _)
      | succ n ih16 =>
        intro x16_5_314 x16_4_315 y16_0_29_316 y16_0_30_317 y16_0_31_318 z16_8_319 rx16_5_314 rx16_4_315 ry16_0_29_316 rz16_8_319 hm16 H locs hP hD hS ls hl
        refine lv_iload hx hb dX12_heirsOf_16 (lv_at hl 0 rfl) ?_
        refine lv_aload_n hx hb dX12_heirsOf_18 rfl (lv_at hl 2 rfl) ?_
        refine mm_finir (va_runV (As := []) (rest := [.int x16_5_314]) ⟨hx, hb, hml, hown, hts⟩ (M95_X12_texts l G cy H.size a_0 i_3 a_1 a_2 a_3 a_4 a_5 i_4 i_5 i_6 i_7 i_8 j_0 i_9 i_10 i_11 i_12 a_6 a_7 a_8 a_9 a_10 a_11 a_12 a_13 a_14 a_15 a_16 a_17 a_18 y16_0_29_316 y16_0_30_317 y16_0_31_318 i_16 i_17 i_18 a_19 i_19 a_20 i_20 i_21 i_22 i_23 i_24 i_25 i_26 i_27 i_28 i_29 i_30 i_31 i_32 i_33 i_34 i_35 i_36 i_37 i_38 i_39 i_40 i_41 i_42 i_43 i_44 i_45 i_46 i_47 i_48 i_49 h4 h5 h6 h7 h8 h9 h10 h11 h12 h13 h14 h15 h16 h17 h18 h19 h20 h21 h22 h23 h24 h25 h26 h27 h28 h29 h30 h31 h32 h33) (cwV 0 hts (mm_gV mm_w617 mm_w618 mm_w619 mm_w5 mm_w620) rfl rfl rfl hd_X12_texts ⟨by rw [hRf]; exact Nat.le_of_ble_eq_true rfl, by rw [hRl]; exact Nat.le_of_ble_eq_true rfl⟩) (mm_preV hK hZ hS hA hP hD [0, 1] rfl rfl 0 rfl rfl rfl) rfl rfl hl.1 rfl (lv_room (Nat.le_of_ble_eq_true rfl)) dX12_heirsOf_19 ⟨by rw [hRc]; exact Nat.le_of_ble_eq_true rfl, by rw [hRs]; exact Nat.le_of_ble_eq_true rfl⟩) hP hD hS hA [0, 1] rfl (fun _ => rfl) ?_
        clear hP hD hS
        clear H locs
        intro v321 _u H locs hw hP hD hS
        subst hw
        refine lv_icmp_ge (tgt := 86) hx hb dX12_heirsOf_22 (by decide) (fun c322 => ?_) (fun c322 => ?_)
        · refine lv_iload hx hb dX12_heirsOf_86 (lv_at hl 1 rfl) ?_
          subst hAe
          rw [hQ]
          exact W.iret (v := x16_4_315) hx hb hr (fun t ht hW => ⟨⟨x16_4_315, (y16_0_29_316, y16_0_30_317, y16_0_31_318, z16_8_319), rfl, ⟨ry16_0_29_316, rz16_8_319, rx16_4_315⟩, by rw [ht]; exact hP, hK.warm hW, hD⟩, hS.F ht⟩) hS.2.2 dX12_heirsOf_88
        · have q323 := mm_ltL (h := 5) (mm_nle c322) rx16_5_314 h8 (by decide)
          have q324 := mm_ltR (lo := 1) (mm_nle c322) rx16_5_314 h8 (by decide)
          refine lv_iload_n hx hb dX12_heirsOf_25 rfl (lv_at hl 5 rfl) ?_
          refine lv_iload hx hb dX12_heirsOf_26 (lv_at hl 0 rfl) ?_
          refine mm_finir (va_runS (As := [.int i_2, .int x16_5_314]) (rest := []) ⟨hx, hb, hml, hown, hts⟩ (M232_X12_isBit l G cy H.size i_2 x16_5_314 (mm_wk q2 (by decide)) q323) (va_cwS 2 hts (mm_gS mm_w1461 mm_w1462 mm_w5 mm_w1463) rfl rfl rfl hs_X12_isBit ⟨by rw [hRf]; exact Nat.le_of_ble_eq_true rfl, by rw [hRl]; exact Nat.le_of_ble_eq_true rfl⟩) (mm_preS hK hZ hS hA hP hD [] rfl rfl) rfl rfl hl.1 rfl (lv_room (Nat.le_of_ble_eq_true rfl)) dX12_heirsOf_28 ⟨by rw [hRc]; exact Nat.le_of_ble_eq_true rfl, by rw [hRs]; exact Nat.le_of_ble_eq_true rfl⟩) hP hD hS hA [] rfl (fun _ => rfl) ?_
          clear hP hD hS
          clear H locs
          intro v325 _u H locs hw hP hD hS
          rcases hw with ⟨rfl, w326⟩ | ⟨rfl, w327⟩
          · refine lv_if_ne (tgt := 37) hx hb dX12_heirsOf_31 (by decide) (fun c328 => ?_) (fun c328 => ?_)
            · have q329 := mm_neL (lo := 1) (mm_ne c328) mm_k0 mm_k0 (by decide) (by decide)
              exact mm_no q329 (by decide)
            · refine lv_goto (tgt := 80) hx hb dX12_heirsOf_34 (by decide) ?_
              obtain ⟨v330, ev330⟩ : ∃ y : Int32, y = x16_5_314 + 1 := ⟨_, rfl⟩
              refine lv_iinc (v := v330) (lv' := [(5, .int v330), (4, .int x16_4_315), (0, .ref a_0), (1, .int i_0), (2, .int i_1), (3, .int i_2)]) hx hb dX12_heirsOf_80 hl (k := 0) rfl (by rw [ev330]; rfl) (by decide) rfl ?_
              clear hl
              clear ls
              intro ls hl
              have rv330 : mm_rg v330 1 6 := mm_add ev330 q323 mm_k1 (by decide) (by decide)
              have tv330 := mm_addEc ev330 q323 mm_k1 (by decide) (k := 1) (by decide)
              refine lv_goto (tgt := 16) hx hb dX12_heirsOf_83 (by decide) ?_
              exact ih16 v330 x16_4_315 y16_0_29_316 y16_0_30_317 y16_0_31_318 z16_8_319 (mm_wk rv330 (by decide)) rx16_4_315 ry16_0_29_316 rz16_8_319 (mm_mu hm16 tv330 (by decide) (rv330).2 (by decide)) H locs hP hD hS ls (lv_sub hl [0, 1, 2, 3, 4, 5] rfl)
          · refine lv_if_ne (tgt := 37) hx hb dX12_heirsOf_31 (by decide) (fun c331 => ?_) (fun c331 => ?_)
            · refine lv_aload_n hx hb dX12_heirsOf_37 rfl (lv_at hl 2 rfl) ?_
              refine lv_iload_n hx hb dX12_heirsOf_38 rfl (lv_at hl 3 rfl) ?_
              refine lv_iload_n hx hb dX12_heirsOf_39 rfl (lv_at hl 4 rfl) ?_
              refine lv_iload hx hb dX12_heirsOf_40 (lv_at hl 0 rfl) ?_
              refine mm_fini (va_runV (As := [.int i_0, .int i_1, .int x16_5_314]) (rest := []) ⟨hx, hb, hml, hown, hts⟩ (M141_X12_reads l G cy H.size a_0 i_0 i_1 x16_5_314 i_3 a_1 a_2 a_3 a_4 a_5 i_4 i_5 i_6 i_7 i_8 j_0 i_9 i_10 i_11 i_12 a_6 a_7 a_8 a_9 a_10 a_11 a_12 a_13 a_14 a_15 a_16 a_17 a_18 y16_0_29_316 y16_0_30_317 y16_0_31_318 i_16 i_17 i_18 a_19 i_19 a_20 i_20 i_21 i_22 i_23 i_24 i_25 i_26 i_27 i_28 i_29 i_30 i_31 i_32 i_33 i_34 i_35 i_36 i_37 i_38 i_39 i_40 i_41 i_42 i_43 i_44 i_45 i_46 i_47 i_48 i_49 f_0 f_1 f_2 f_3 f_4 f_5 z16_8_319 h0 (mm_wk h1 (by decide)) q323 ry16_0_29_316 h4 h5 h6 h7 (mm_wk q324 (by decide)) h9 h10 h11 h12 h13 h14 h15 h16 h17 h18 h19 h20 h21 h22 h23 h24 h25 h26 h27 h28 h29 h30 h31 h32 h33 h34 h35 h36 h37 h38 h39 rz16_8_319 h41 h42 h43 h44 h45 h46 h47 h48 h49) (cwV 3 hts (mm_gV mm_w852 mm_w853 mm_w854 mm_w5 mm_w855) rfl rfl rfl hd_X12_reads ⟨by rw [hRf]; exact Nat.le_of_ble_eq_true rfl, by rw [hRl]; exact Nat.le_of_ble_eq_true rfl⟩) (mm_preV hK hZ hS hA hP hD [0, 1, 2, 3, 4, 5, 6, 7, 8] rfl rfl 0 rfl rfl rfl) rfl rfl hl.1 rfl (lv_room (Nat.le_of_ble_eq_true rfl)) dX12_heirsOf_42 ⟨by rw [hRc]; exact Nat.le_of_ble_eq_true rfl, by rw [hRs]; exact Nat.le_of_ble_eq_true rfl⟩) hP hD hS hA (fun u : Int32 × Int32 × Int32 × (Nat → Int32) => [(a_0, .inr (12, [.int i_3, .ref a_1, .ref a_2, .ref a_3, .ref a_4, .ref a_5, .int i_4, .int i_5, .int i_6, .int i_7, .int i_8, .long j_0, .int i_9, .int i_10, .int i_11, .int i_12, .ref a_6, .ref a_7, .ref a_8, .ref a_9, .ref a_10, .ref a_11, .ref a_12, .ref a_13, .ref a_14, .ref a_15, .ref a_16, .ref a_17, .ref a_18, .int u.1, .int u.2.1, .int u.2.2.1, .int i_16, .int i_17, .int i_18, .ref a_19, .int i_19, .ref a_20])), (a_7, .inl (cy 1, 30, .inl (mm_g [i_20, i_21, i_22, i_23, i_24, i_25, i_26, i_27, i_28, i_29, i_30, i_31, i_32, i_33, i_34, i_35, i_36, i_37, i_38, i_39, i_40, i_41, i_42, i_43, i_44, i_45, i_46, i_47, i_48, i_49]))), (a_8, .inl (cy 1, 90, .inl f_0)), (a_11, .inl (cy 1, 30, .inl f_1)), (a_12, .inl (cy 1, 240, .inl f_2)), (a_13, .inl (cy 1, 450, .inl f_3)), (a_15, .inl (cy 1, 7200, .inl f_4)), (a_16, .inl (cy 1, 3, .inl f_5)), (a_18, .inl (cy 1, 8, .inl u.2.2.2))]) [0, 1, 2, 3, 4, 5, 6, 7, 8] [] (n := 9) (fun _ => rfl) (by decide +kernel) (by decide +kernel) rfl (fun _ => rfl) (wr := []) rfl (fun _ => rfl) (fun _ => @rfl _ ([a_0, a_7, a_8, a_11, a_12, a_13, a_15, a_16, a_18] : List Nat)) ?_
              clear hP hD hS
              clear H locs
              intro v336 u
              obtain ⟨n332, n333, n334, n335⟩ := u
              intro H locs hw (hP : va_P G vwCl [(a_0, .inr (12, [.int i_3, .ref a_1, .ref a_2, .ref a_3, .ref a_4, .ref a_5, .int i_4, .int i_5, .int i_6, .int i_7, .int i_8, .long j_0, .int i_9, .int i_10, .int i_11, .int i_12, .ref a_6, .ref a_7, .ref a_8, .ref a_9, .ref a_10, .ref a_11, .ref a_12, .ref a_13, .ref a_14, .ref a_15, .ref a_16, .ref a_17, .ref a_18, .int n332, .int n333, .int n334, .int i_16, .int i_17, .int i_18, .ref a_19, .int i_19, .ref a_20])), (a_7, .inl (cy 1, 30, .inl (mm_g [i_20, i_21, i_22, i_23, i_24, i_25, i_26, i_27, i_28, i_29, i_30, i_31, i_32, i_33, i_34, i_35, i_36, i_37, i_38, i_39, i_40, i_41, i_42, i_43, i_44, i_45, i_46, i_47, i_48, i_49]))), (a_8, .inl (cy 1, 90, .inl f_0)), (a_11, .inl (cy 1, 30, .inl f_1)), (a_12, .inl (cy 1, 240, .inl f_2)), (a_13, .inl (cy 1, 450, .inl f_3)), (a_15, .inl (cy 1, 7200, .inl f_4)), (a_16, .inl (cy 1, 3, .inl f_5)), (a_18, .inl (cy 1, 8, .inl n335))] H) (hD : va_D A [(a_0, .inr (12, [.int i_3, .ref a_1, .ref a_2, .ref a_3, .ref a_4, .ref a_5, .int i_4, .int i_5, .int i_6, .int i_7, .int i_8, .long j_0, .int i_9, .int i_10, .int i_11, .int i_12, .ref a_6, .ref a_7, .ref a_8, .ref a_9, .ref a_10, .ref a_11, .ref a_12, .ref a_13, .ref a_14, .ref a_15, .ref a_16, .ref a_17, .ref a_18, .int n332, .int n333, .int n334, .int i_16, .int i_17, .int i_18, .ref a_19, .int i_19, .ref a_20])), (a_7, .inl (cy 1, 30, .inl (mm_g [i_20, i_21, i_22, i_23, i_24, i_25, i_26, i_27, i_28, i_29, i_30, i_31, i_32, i_33, i_34, i_35, i_36, i_37, i_38, i_39, i_40, i_41, i_42, i_43, i_44, i_45, i_46, i_47, i_48, i_49]))), (a_8, .inl (cy 1, 90, .inl f_0)), (a_11, .inl (cy 1, 30, .inl f_1)), (a_12, .inl (cy 1, 240, .inl f_2)), (a_13, .inl (cy 1, 450, .inl f_3)), (a_15, .inl (cy 1, 7200, .inl f_4)), (a_16, .inl (cy 1, 3, .inl f_5)), (a_18, .inl (cy 1, 8, .inl n335))]) hS
              obtain ⟨w337, w338, hw⟩ := hw
              obtain ⟨w339, w340⟩ := hw
              replace w340 : mm_rd f_4 f_5 f_0 f_1 f_2 f_3 i_0 i_1 x16_5_314 i_21 i_22 i_25 v336 := w340
              refine lv_aload_n hx hb dX12_heirsOf_45 rfl (lv_at hl 2 rfl) ?_
              refine lv_iload_n hx hb dX12_heirsOf_46 rfl (lv_at hl 3 rfl) ?_
              refine lv_iload_n hx hb dX12_heirsOf_47 rfl (lv_at hl 4 rfl) ?_
              refine lv_iconst (v := 1) hx hb dX12_heirsOf_48 (by decide) ?_
              refine lv_iadd hx hb dX12_heirsOf_49 ?_
              refine lv_topi (fun v341 ev341 => ?_)
              have rv341 : mm_rg v341 1 1000000004 := mm_add ev341 h1 mm_k1 (by decide) (by decide)
              have tv341 := mm_addEc ev341 h1 mm_k1 (by decide) (k := 1) (by decide)
              refine lv_iload_n hx hb dX12_heirsOf_50 rfl (lv_at hl 5 rfl) ?_
              refine lv_iconst (v := 1) hx hb dX12_heirsOf_51 (by decide) ?_
              refine lv_iload hx hb dX12_heirsOf_52 (lv_at hl 0 rfl) ?_
              refine lv_ishl hx hb dX12_heirsOf_54 ?_
              refine lv_topi (fun v342 ev342 => ?_)
              have rv342 : mm_rg v342 1 32 := mm_shl1 ev342 q323 (by decide)
              refine lv_iconst (v := (-1)) hx hb dX12_heirsOf_55 (by decide) ?_
              refine lv_ixor hx hb dX12_heirsOf_56 ?_
              refine lv_topi (fun v343 ev343 => ?_)
              refine lv_iand hx hb dX12_heirsOf_57 ?_
              refine lv_topi (fun v344 ev344 => ?_)
              have rv344 : mm_rg v344 0 63 := mm_andL ev344 q2 (by decide)
              refine mm_fini (va_runV (As := [.int i_0, .int v341, .int v344]) (rest := [.int v336]) ⟨hx, hb, hml, hown, hts⟩ (M236_X12_heirsOf l G cy H.size a_0 i_0 v341 v344 i_3 a_1 a_2 a_3 a_4 a_5 i_4 i_5 i_6 i_7 i_8 j_0 i_9 i_10 i_11 i_12 a_6 a_7 a_8 a_9 a_10 a_11 a_12 a_13 a_14 a_15 a_16 a_17 a_18 n332 n333 n334 i_16 i_17 i_18 a_19 i_19 a_20 i_20 i_21 i_22 i_23 i_24 i_25 i_26 i_27 i_28 i_29 i_30 i_31 i_32 i_33 i_34 i_35 i_36 i_37 i_38 i_39 i_40 i_41 i_42 i_43 i_44 i_45 i_46 i_47 i_48 i_49 f_0 f_1 f_2 f_3 f_4 f_5 n335 h0 (mm_wk rv341 (by decide)) rv344 w337 h4 h5 h6 h7 (mm_wk q324 (by decide)) h9 h10 h11 h12 h13 h14 h15 h16 h17 h18 h19 h20 h21 h22 h23 h24 h25 h26 h27 h28 h29 h30 h31 h32 h33 h34 h35 h36 h37 h38 h39 w338 h41 h42 h43 h44 h45 h46 h47 h48 h49 (mm_pc_cut h50 w327 ev342 ev343 ev344 q2 q323 (by decide))) (cwV 3 hts (mm_gV mm_w1456 mm_w1457 mm_w1458 mm_w5 mm_w1459) rfl rfl rfl hd_X12_heirsOf ⟨by rw [hRf]; exact Nat.le_of_ble_eq_true rfl, by rw [hRl]; exact Nat.le_of_ble_eq_true rfl⟩) (mm_preV hK hZ hS hA hP hD [0, 1, 2, 3, 4, 5, 6, 7, 8] rfl rfl 0 rfl rfl rfl) rfl rfl hl.1 rfl (lv_room (Nat.le_of_ble_eq_true rfl)) dX12_heirsOf_58 ⟨by rw [hRc]; exact Nat.le_of_ble_eq_true rfl, by rw [hRs]; exact Nat.le_of_ble_eq_true rfl⟩) hP hD hS hA (fun u : Int32 × Int32 × Int32 × (Nat → Int32) => [(a_0, .inr (12, [.int i_3, .ref a_1, .ref a_2, .ref a_3, .ref a_4, .ref a_5, .int i_4, .int i_5, .int i_6, .int i_7, .int i_8, .long j_0, .int i_9, .int i_10, .int i_11, .int i_12, .ref a_6, .ref a_7, .ref a_8, .ref a_9, .ref a_10, .ref a_11, .ref a_12, .ref a_13, .ref a_14, .ref a_15, .ref a_16, .ref a_17, .ref a_18, .int u.1, .int u.2.1, .int u.2.2.1, .int i_16, .int i_17, .int i_18, .ref a_19, .int i_19, .ref a_20])), (a_7, .inl (cy 1, 30, .inl (mm_g [i_20, i_21, i_22, i_23, i_24, i_25, i_26, i_27, i_28, i_29, i_30, i_31, i_32, i_33, i_34, i_35, i_36, i_37, i_38, i_39, i_40, i_41, i_42, i_43, i_44, i_45, i_46, i_47, i_48, i_49]))), (a_8, .inl (cy 1, 90, .inl f_0)), (a_11, .inl (cy 1, 30, .inl f_1)), (a_12, .inl (cy 1, 240, .inl f_2)), (a_13, .inl (cy 1, 450, .inl f_3)), (a_15, .inl (cy 1, 7200, .inl f_4)), (a_16, .inl (cy 1, 3, .inl f_5)), (a_18, .inl (cy 1, 8, .inl u.2.2.2))]) [0, 1, 2, 3, 4, 5, 6, 7, 8] [] (n := 9) (fun _ => rfl) (by decide +kernel) (by decide +kernel) rfl (fun _ => rfl) (wr := []) rfl (fun _ => rfl) (fun _ => @rfl _ ([a_0, a_7, a_8, a_11, a_12, a_13, a_15, a_16, a_18] : List Nat)) ?_
              clear hP hD hS
              clear H locs
              intro v349 u
              obtain ⟨n345, n346, n347, n348⟩ := u
              intro H locs hw (hP : va_P G vwCl [(a_0, .inr (12, [.int i_3, .ref a_1, .ref a_2, .ref a_3, .ref a_4, .ref a_5, .int i_4, .int i_5, .int i_6, .int i_7, .int i_8, .long j_0, .int i_9, .int i_10, .int i_11, .int i_12, .ref a_6, .ref a_7, .ref a_8, .ref a_9, .ref a_10, .ref a_11, .ref a_12, .ref a_13, .ref a_14, .ref a_15, .ref a_16, .ref a_17, .ref a_18, .int n345, .int n346, .int n347, .int i_16, .int i_17, .int i_18, .ref a_19, .int i_19, .ref a_20])), (a_7, .inl (cy 1, 30, .inl (mm_g [i_20, i_21, i_22, i_23, i_24, i_25, i_26, i_27, i_28, i_29, i_30, i_31, i_32, i_33, i_34, i_35, i_36, i_37, i_38, i_39, i_40, i_41, i_42, i_43, i_44, i_45, i_46, i_47, i_48, i_49]))), (a_8, .inl (cy 1, 90, .inl f_0)), (a_11, .inl (cy 1, 30, .inl f_1)), (a_12, .inl (cy 1, 240, .inl f_2)), (a_13, .inl (cy 1, 450, .inl f_3)), (a_15, .inl (cy 1, 7200, .inl f_4)), (a_16, .inl (cy 1, 3, .inl f_5)), (a_18, .inl (cy 1, 8, .inl n348))] H) (hD : va_D A [(a_0, .inr (12, [.int i_3, .ref a_1, .ref a_2, .ref a_3, .ref a_4, .ref a_5, .int i_4, .int i_5, .int i_6, .int i_7, .int i_8, .long j_0, .int i_9, .int i_10, .int i_11, .int i_12, .ref a_6, .ref a_7, .ref a_8, .ref a_9, .ref a_10, .ref a_11, .ref a_12, .ref a_13, .ref a_14, .ref a_15, .ref a_16, .ref a_17, .ref a_18, .int n345, .int n346, .int n347, .int i_16, .int i_17, .int i_18, .ref a_19, .int i_19, .ref a_20])), (a_7, .inl (cy 1, 30, .inl (mm_g [i_20, i_21, i_22, i_23, i_24, i_25, i_26, i_27, i_28, i_29, i_30, i_31, i_32, i_33, i_34, i_35, i_36, i_37, i_38, i_39, i_40, i_41, i_42, i_43, i_44, i_45, i_46, i_47, i_48, i_49]))), (a_8, .inl (cy 1, 90, .inl f_0)), (a_11, .inl (cy 1, 30, .inl f_1)), (a_12, .inl (cy 1, 240, .inl f_2)), (a_13, .inl (cy 1, 450, .inl f_3)), (a_15, .inl (cy 1, 7200, .inl f_4)), (a_16, .inl (cy 1, 3, .inl f_5)), (a_18, .inl (cy 1, 8, .inl n348))]) hS
              obtain ⟨w350, w351, hw⟩ := hw
              have w352 := hw
              refine lv_isub hx hb dX12_heirsOf_61 ?_
              refine lv_topi (fun v353 ev353 => ?_)
              have rv353 : mm_rg v353 (-1009999) 1009999 := mm_sub ev353 w339 w352 (by decide) (by decide)
              have tv353 := mm_subE ev353 w339 w352 (by decide)
              refine lv_istore (lv' := [(6, .int v353), (5, .int x16_5_314), (4, .int x16_4_315), (0, .ref a_0), (1, .int i_0), (2, .int i_1), (3, .int i_2)]) hx hb dX12_heirsOf_62 hl (by decide) rfl ?_
              clear hl
              clear ls
              intro ls hl
              refine lv_iload hx hb dX12_heirsOf_64 (lv_at hl 0 rfl) ?_
              refine lv_iload hx hb dX12_heirsOf_66 (lv_at hl 2 rfl) ?_
              refine lv_icmp_le (tgt := 76) hx hb dX12_heirsOf_68 (by decide) (fun c354 => ?_) (fun c354 => ?_)
              · refine lv_iload hx hb dX12_heirsOf_76 (lv_at hl 2 rfl) ?_
                refine lv_istore (lv' := [(4, .int x16_4_315), (6, .int v353), (5, .int x16_5_314), (0, .ref a_0), (1, .int i_0), (2, .int i_1), (3, .int i_2)]) hx hb dX12_heirsOf_78 hl (by decide) rfl ?_
                clear hl
                clear ls
                intro ls hl
                obtain ⟨v355, ev355⟩ : ∃ y : Int32, y = x16_5_314 + 1 := ⟨_, rfl⟩
                refine lv_iinc (v := v355) (lv' := [(5, .int v355), (4, .int x16_4_315), (6, .int v353), (0, .ref a_0), (1, .int i_0), (2, .int i_1), (3, .int i_2)]) hx hb dX12_heirsOf_80 hl (k := 2) rfl (by rw [ev355]; rfl) (by decide) rfl ?_
                clear hl
                clear ls
                intro ls hl
                have rv355 : mm_rg v355 1 6 := mm_add ev355 q323 mm_k1 (by decide) (by decide)
                have tv355 := mm_addEc ev355 q323 mm_k1 (by decide) (k := 1) (by decide)
                refine lv_goto (tgt := 16) hx hb dX12_heirsOf_83 (by decide) ?_
                exact ih16 v355 x16_4_315 n345 n346 n347 n348 (mm_wk rv355 (by decide)) rx16_4_315 w350 w351 (mm_mu hm16 tv355 (by decide) (rv355).2 (by decide)) H locs hP hD hS ls (lv_sub hl [0, 1, 3, 4, 5, 6] rfl)
              · have q356 := mm_ltL (h := 1009998) (mm_nle c354) rx16_4_315 rv353 (by decide)
                have q357 := mm_ltR (lo := (-999999)) (mm_nle c354) rx16_4_315 rv353 (by decide)
                have q358 : mm_rg v349 (-1000000) 1009998 := mm_unsubY tv353 q357 w339 w352 (by decide)
                refine lv_iload hx hb dX12_heirsOf_71 (lv_at hl 0 rfl) ?_
                refine lv_goto (tgt := 78) hx hb dX12_heirsOf_73 (by decide) ?_
                refine lv_istore (lv' := [(4, .int v353), (6, .int v353), (5, .int x16_5_314), (0, .ref a_0), (1, .int i_0), (2, .int i_1), (3, .int i_2)]) hx hb dX12_heirsOf_78 hl (by decide) rfl ?_
                clear hl
                clear ls
                intro ls hl
                obtain ⟨v359, ev359⟩ : ∃ y : Int32, y = x16_5_314 + 1 := ⟨_, rfl⟩
                refine lv_iinc (v := v359) (lv' := [(5, .int v359), (4, .int v353), (6, .int v353), (0, .ref a_0), (1, .int i_0), (2, .int i_1), (3, .int i_2)]) hx hb dX12_heirsOf_80 hl (k := 2) rfl (by rw [ev359]; rfl) (by decide) rfl ?_
                clear hl
                clear ls
                intro ls hl
                have rv359 : mm_rg v359 1 6 := mm_add ev359 q323 mm_k1 (by decide) (by decide)
                have tv359 := mm_addEc ev359 q323 mm_k1 (by decide) (k := 1) (by decide)
                refine lv_goto (tgt := 16) hx hb dX12_heirsOf_83 (by decide) ?_
                exact ih16 v359 v353 n345 n346 n347 n348 (mm_wk rv359 (by decide)) (mm_wk q357 (by decide)) w350 w351 (mm_mu hm16 tv359 (by decide) (rv359).2 (by decide)) H locs hP hD hS ls (lv_sub hl [0, 1, 3, 4, 5, 6] rfl)
            · exact mm_eqN c331.symm mm_k0 mm_k1 (by decide)
    exact L16_319 _ 0 (-1000000) i_13 i_14 i_15 f_6 (mm_wk mm_k0 (by decide)) (mm_wk mm_km1000000 (by decide)) h3 h40 (Nat.lt_succ_self _) H locs hP hD hS ls (lv_sub hl [0, 1, 2, 3, 4, 5] rfl)
  · have q360 := mm_eqI (lo := 0) (hi := 0) c1 h2 mm_k0 (by decide)
    refine lv_iconst (v := 0) hx hb dX12_heirsOf_4 (by decide) ?_
    refine lv_goto (tgt := 11) hx hb dX12_heirsOf_5 (by decide) ?_
    refine lv_istore (lv' := [(4, .int 0), (0, .ref a_0), (1, .int i_0), (2, .int i_1), (3, .int i_2)]) hx hb dX12_heirsOf_11 hl (by decide) rfl ?_
    clear hl
    clear ls
    intro ls hl
    refine lv_iconst (v := 0) hx hb dX12_heirsOf_13 (by decide) ?_
    refine lv_istore (lv' := [(5, .int 0), (4, .int 0), (0, .ref a_0), (1, .int i_0), (2, .int i_1), (3, .int i_2)]) hx hb dX12_heirsOf_14 hl (by decide) rfl ?_
    clear hl
    clear ls
    intro ls hl
    have L16_440 : ∀ (n : Nat) (x16_5_440 : Int32), mm_rg x16_5_440 0 6 → (6 - x16_5_440.toInt).toNat < n → ∀ (H : Heap) (locs : List Loc), va_P G vwCl [(a_0, .inr (12, [.int i_3, .ref a_1, .ref a_2, .ref a_3, .ref a_4, .ref a_5, .int i_4, .int i_5, .int i_6, .int i_7, .int i_8, .long j_0, .int i_9, .int i_10, .int i_11, .int i_12, .ref a_6, .ref a_7, .ref a_8, .ref a_9, .ref a_10, .ref a_11, .ref a_12, .ref a_13, .ref a_14, .ref a_15, .ref a_16, .ref a_17, .ref a_18, .int i_13, .int i_14, .int i_15, .int i_16, .int i_17, .int i_18, .ref a_19, .int i_19, .ref a_20])), (a_7, .inl (cy 1, 30, .inl (mm_g [i_20, i_21, i_22, i_23, i_24, i_25, i_26, i_27, i_28, i_29, i_30, i_31, i_32, i_33, i_34, i_35, i_36, i_37, i_38, i_39, i_40, i_41, i_42, i_43, i_44, i_45, i_46, i_47, i_48, i_49]))), (a_8, .inl (cy 1, 90, .inl f_0)), (a_11, .inl (cy 1, 30, .inl f_1)), (a_12, .inl (cy 1, 240, .inl f_2)), (a_13, .inl (cy 1, 450, .inl f_3)), (a_15, .inl (cy 1, 7200, .inl f_4)), (a_16, .inl (cy 1, 3, .inl f_5)), (a_18, .inl (cy 1, 8, .inl f_6))] H → va_D A [(a_0, .inr (12, [.int i_3, .ref a_1, .ref a_2, .ref a_3, .ref a_4, .ref a_5, .int i_4, .int i_5, .int i_6, .int i_7, .int i_8, .long j_0, .int i_9, .int i_10, .int i_11, .int i_12, .ref a_6, .ref a_7, .ref a_8, .ref a_9, .ref a_10, .ref a_11, .ref a_12, .ref a_13, .ref a_14, .ref a_15, .ref a_16, .ref a_17, .ref a_18, .int i_13, .int i_14, .int i_15, .int i_16, .int i_17, .int i_18, .ref a_19, .int i_19, .ref a_20])), (a_7, .inl (cy 1, 30, .inl (mm_g [i_20, i_21, i_22, i_23, i_24, i_25, i_26, i_27, i_28, i_29, i_30, i_31, i_32, i_33, i_34, i_35, i_36, i_37, i_38, i_39, i_40, i_41, i_42, i_43, i_44, i_45, i_46, i_47, i_48, i_49]))), (a_8, .inl (cy 1, 90, .inl f_0)), (a_11, .inl (cy 1, 30, .inl f_1)), (a_12, .inl (cy 1, 240, .inl f_2)), (a_13, .inl (cy 1, 450, .inl f_3)), (a_15, .inl (cy 1, 7200, .inl f_4)), (a_16, .inl (cy 1, 3, .inl f_5)), (a_18, .inl (cy 1, 8, .inl f_6))] → va_S A s.heap H locs → ∀ (ls : Array Slot), lv_has ls 7 [(5, .int x16_5_440), (4, .int 0), (0, .ref a_0), (1, .int i_0), (2, .int i_1), (3, .int i_2)] → W p l e R s m args below meth c H locs 0 0 Q (F0 m 16 ls []) := by
      intro n
      induction n with
      | zero => intro x16_5_440 rx16_5_440 hm; exact absurd hm (Nat.not_lt_zero _)
      | succ n ih16 =>
        intro x16_5_440 rx16_5_440 hm16 H locs hP hD hS ls hl
        refine lv_iload hx hb dX12_heirsOf_16 (lv_at hl 0 rfl) ?_
        refine lv_aload_n hx hb dX12_heirsOf_18 rfl (lv_at hl 2 rfl) ?_
        refine mm_finir (va_runV (As := []) (rest := [.int x16_5_440]) ⟨hx, hb, hml, hown, hts⟩ (M95_X12_texts l G cy H.size a_0 i_3 a_1 a_2 a_3 a_4 a_5 i_4 i_5 i_6 i_7 i_8 j_0 i_9 i_10 i_11 i_12 a_6 a_7 a_8 a_9 a_10 a_11 a_12 a_13 a_14 a_15 a_16 a_17 a_18 i_13 i_14 i_15 i_16 i_17 i_18 a_19 i_19 a_20 i_20 i_21 i_22 i_23 i_24 i_25 i_26 i_27 i_28 i_29 i_30 i_31 i_32 i_33 i_34 i_35 i_36 i_37 i_38 i_39 i_40 i_41 i_42 i_43 i_44 i_45 i_46 i_47 i_48 i_49 h4 h5 h6 h7 h8 h9 h10 h11 h12 h13 h14 h15 h16 h17 h18 h19 h20 h21 h22 h23 h24 h25 h26 h27 h28 h29 h30 h31 h32 h33) (cwV 0 hts (mm_gV mm_w617 mm_w618 mm_w619 mm_w5 mm_w620) rfl rfl rfl hd_X12_texts ⟨by rw [hRf]; exact Nat.le_of_ble_eq_true rfl, by rw [hRl]; exact Nat.le_of_ble_eq_true rfl⟩) (mm_preV hK hZ hS hA hP hD [0, 1] rfl rfl 0 rfl rfl rfl) rfl rfl hl.1 rfl (lv_room (Nat.le_of_ble_eq_true rfl)) dX12_heirsOf_19 ⟨by rw [hRc]; exact Nat.le_of_ble_eq_true rfl, by rw [hRs]; exact Nat.le_of_ble_eq_true rfl⟩) hP hD hS hA [0, 1] rfl (fun _ => rfl) ?_
        clear hP hD hS
        clear H locs
        intro v442 _u H locs hw hP hD hS
        subst hw
        refine lv_icmp_ge (tgt := 86) hx hb dX12_heirsOf_22 (by decide) (fun c443 => ?_) (fun c443 => ?_)
        · refine lv_iload hx hb dX12_heirsOf_86 (lv_at hl 1 rfl) ?_
          subst hAe
          rw [hQ]
          exact W.iret (v := 0) hx hb hr (fun t ht hW => ⟨⟨0, (i_13, i_14, i_15, f_6), rfl, ⟨h3, h40, (mm_wk mm_k0 (by decide))⟩, by rw [ht]; exact hP, hK.warm hW, hD⟩, hS.F ht⟩) hS.2.2 dX12_heirsOf_88
        · have q444 := mm_ltL (h := 5) (mm_nle c443) rx16_5_440 h8 (by decide)
          have q445 := mm_ltR (lo := 1) (mm_nle c443) rx16_5_440 h8 (by decide)
          refine lv_iload_n hx hb dX12_heirsOf_25 rfl (lv_at hl 5 rfl) ?_
          refine lv_iload hx hb dX12_heirsOf_26 (lv_at hl 0 rfl) ?_
          refine mm_finir (va_runS (As := [.int i_2, .int x16_5_440]) (rest := []) ⟨hx, hb, hml, hown, hts⟩ (M232_X12_isBit l G cy H.size i_2 x16_5_440 (mm_wk q360 (by decide)) q444) (va_cwS 2 hts (mm_gS mm_w1461 mm_w1462 mm_w5 mm_w1463) rfl rfl rfl hs_X12_isBit ⟨by rw [hRf]; exact Nat.le_of_ble_eq_true rfl, by rw [hRl]; exact Nat.le_of_ble_eq_true rfl⟩) (mm_preS hK hZ hS hA hP hD [] rfl rfl) rfl rfl hl.1 rfl (lv_room (Nat.le_of_ble_eq_true rfl)) dX12_heirsOf_28 ⟨by rw [hRc]; exact Nat.le_of_ble_eq_true rfl, by rw [hRs]; exact Nat.le_of_ble_eq_true rfl⟩) hP hD hS hA [] rfl (fun _ => rfl) ?_
          clear hP hD hS
          clear H locs
          intro v446 _u H locs hw hP hD hS
          rcases hw with ⟨rfl, w447⟩ | ⟨rfl, w448⟩
          · refine lv_if_ne (tgt := 37) hx hb dX12_heirsOf_31 (by decide) (fun c449 => ?_) (fun c449 => ?_)
            · have q450 := mm_neL (lo := 1) (mm_ne c449) mm_k0 mm_k0 (by decide) (by decide)
              exact mm_no q450 (by decide)
            · refine lv_goto (tgt := 80) hx hb dX12_heirsOf_34 (by decide) ?_
              obtain ⟨v451, ev451⟩ : ∃ y : Int32, y = x16_5_440 + 1 := ⟨_, rfl⟩
              refine lv_iinc (v := v451) (lv' := [(5, .int v451), (4, .int 0), (0, .ref a_0), (1, .int i_0), (2, .int i_1), (3, .int i_2)]) hx hb dX12_heirsOf_80 hl (k := 0) rfl (by rw [ev451]; rfl) (by decide) rfl ?_
              clear hl
              clear ls
              intro ls hl
              have rv451 : mm_rg v451 1 6 := mm_add ev451 q444 mm_k1 (by decide) (by decide)
              have tv451 := mm_addEc ev451 q444 mm_k1 (by decide) (k := 1) (by decide)
              refine lv_goto (tgt := 16) hx hb dX12_heirsOf_83 (by decide) ?_
              exact ih16 v451 (mm_wk rv451 (by decide)) (mm_mu hm16 tv451 (by decide) (rv451).2 (by decide)) H locs hP hD hS ls (lv_sub hl [0, 1, 2, 3, 4, 5] rfl)
          · exact mm_bit_no w448 q360 (by decide)
    exact L16_440 _ 0 (mm_wk mm_k0 (by decide)) (Nat.lt_succ_self _) H locs hP hD hS ls (lv_sub hl [0, 1, 2, 3, 4, 5] rfl)

set_option maxHeartbeats 4000000 in
set_option maxRecDepth 100000 in
theorem M238_X12_heirsOf (l : Launch) (G : va_G) (cy : Nat → ClassId) (sz : Nat) (a_0 : Nat) (i_0 : Int32) (i_1 : Int32) (i_2 : Int32) (i_3 : Int32) (a_1 : Nat) (a_2 : Nat) (a_3 : Nat) (a_4 : Nat) (a_5 : Nat) (i_4 : Int32) (i_5 : Int32) (i_6 : Int32) (i_7 : Int32) (i_8 : Int32) (j_0 : Int64) (i_9 : Int32) (i_10 : Int32) (i_11 : Int32) (i_12 : Int32) (a_6 : Nat) (a_7 : Nat) (a_8 : Nat) (a_9 : Nat) (a_10 : Nat) (a_11 : Nat) (a_12 : Nat) (a_13 : Nat) (a_14 : Nat) (a_15 : Nat) (a_16 : Nat) (a_17 : Nat) (a_18 : Nat) (i_13 : Int32) (i_14 : Int32) (i_15 : Int32) (i_16 : Int32) (i_17 : Int32) (i_18 : Int32) (a_19 : Nat) (i_19 : Int32) (a_20 : Nat) (i_20 : Int32) (i_21 : Int32) (i_22 : Int32) (i_23 : Int32) (i_24 : Int32) (i_25 : Int32) (i_26 : Int32) (i_27 : Int32) (i_28 : Int32) (i_29 : Int32) (i_30 : Int32) (i_31 : Int32) (i_32 : Int32) (i_33 : Int32) (i_34 : Int32) (i_35 : Int32) (i_36 : Int32) (i_37 : Int32) (i_38 : Int32) (i_39 : Int32) (i_40 : Int32) (i_41 : Int32) (i_42 : Int32) (i_43 : Int32) (i_44 : Int32) (i_45 : Int32) (i_46 : Int32) (i_47 : Int32) (i_48 : Int32) (i_49 : Int32) (f_0 : Nat → Int32) (f_1 : Nat → Int32) (f_2 : Nat → Int32) (f_3 : Nat → Int32) (f_4 : Nat → Int32) (f_5 : Nat → Int32) (f_6 : Nat → Int32) (h0 : mm_rg i_0 0 2) (h1 : mm_rg i_1 0 1000000002) (h2 : mm_rg i_2 0 63) (h3 : mm_rg i_13 0 8) (h4 : mm_rg i_20 0 10) (h5 : mm_rg i_21 0 99) (h6 : mm_rg i_22 0 9) (h7 : mm_rg i_23 0 3) (h8 : mm_rg i_24 0 6) (h9 : mm_rg i_25 0 30) (h10 : mm_rg i_26 0 10) (h11 : mm_rg i_27 0 99) (h12 : mm_rg i_28 0 9) (h13 : mm_rg i_29 0 3) (h14 : mm_rg i_30 0 6) (h15 : mm_rg i_31 0 30) (h16 : mm_rg i_32 0 10) (h17 : mm_rg i_33 0 99) (h18 : mm_rg i_34 0 9) (h19 : mm_rg i_35 0 3) (h20 : mm_rg i_36 0 6) (h21 : mm_rg i_37 0 30) (h22 : mm_rg i_38 0 10) (h23 : mm_rg i_39 0 99) (h24 : mm_rg i_40 0 9) (h25 : mm_rg i_41 0 3) (h26 : mm_rg i_42 0 6) (h27 : mm_rg i_43 0 30) (h28 : mm_rg i_44 0 10) (h29 : mm_rg i_45 0 99) (h30 : mm_rg i_46 0 9) (h31 : mm_rg i_47 0 3) (h32 : mm_rg i_48 0 6) (h33 : mm_rg i_49 0 30) (h34 : mm_ar f_0 0 99) (h35 : mm_ar f_1 0 8) (h36 : mm_ar f_2 0 9) (h37 : mm_ar f_3 (-1) 99) (h38 : mm_ar f_4 0 9) (h39 : mm_ar f_5 0 210) (h40 : mm_ar f_6 0 9) (h41 : mm_txs f_1 f_2 0 i_22 i_24) (h42 : mm_acs f_3 0 i_22 i_23 i_25) (h43 : mm_txs f_1 f_2 1 i_28 i_30) (h44 : mm_acs f_3 1 i_28 i_29 i_31) (h45 : mm_txs f_1 f_2 2 i_34 i_36) (h46 : mm_acs f_3 2 i_34 i_35 i_37) (h47 : mm_txs f_1 f_2 3 i_40 i_42) (h48 : mm_acs f_3 3 i_40 i_41 i_43) (h49 : mm_f1 f_5 i_0) (h50 : mm_pc 5 i_2)  : mm_CI l yX12_heirsOf (mm_ws yX12_heirsOf cX12_heirsOf 7 (some .int)) ({ frames := 7, cells := 0, slots := 0, locals := 177 } : Room) G cy sz [(a_0, .inr (12, [.int i_3, .ref a_1, .ref a_2, .ref a_3, .ref a_4, .ref a_5, .int i_4, .int i_5, .int i_6, .int i_7, .int i_8, .long j_0, .int i_9, .int i_10, .int i_11, .int i_12, .ref a_6, .ref a_7, .ref a_8, .ref a_9, .ref a_10, .ref a_11, .ref a_12, .ref a_13, .ref a_14, .ref a_15, .ref a_16, .ref a_17, .ref a_18, .int i_13, .int i_14, .int i_15, .int i_16, .int i_17, .int i_18, .ref a_19, .int i_19, .ref a_20])), (a_7, .inl (cy 1, 30, .inl (mm_g [i_20, i_21, i_22, i_23, i_24, i_25, i_26, i_27, i_28, i_29, i_30, i_31, i_32, i_33, i_34, i_35, i_36, i_37, i_38, i_39, i_40, i_41, i_42, i_43, i_44, i_45, i_46, i_47, i_48, i_49]))), (a_8, .inl (cy 1, 90, .inl f_0)), (a_11, .inl (cy 1, 30, .inl f_1)), (a_12, .inl (cy 1, 240, .inl f_2)), (a_13, .inl (cy 1, 450, .inl f_3)), (a_15, .inl (cy 1, 7200, .inl f_4)), (a_16, .inl (cy 1, 3, .inl f_5)), (a_18, .inl (cy 1, 8, .inl f_6))] [.ref a_0, .int i_0, .int i_1, .int i_2] (fun u : Int32 × Int32 × Int32 × (Nat → Int32) => [(a_0, .inr (12, [.int i_3, .ref a_1, .ref a_2, .ref a_3, .ref a_4, .ref a_5, .int i_4, .int i_5, .int i_6, .int i_7, .int i_8, .long j_0, .int i_9, .int i_10, .int i_11, .int i_12, .ref a_6, .ref a_7, .ref a_8, .ref a_9, .ref a_10, .ref a_11, .ref a_12, .ref a_13, .ref a_14, .ref a_15, .ref a_16, .ref a_17, .ref a_18, .int u.1, .int u.2.1, .int u.2.2.1, .int i_16, .int i_17, .int i_18, .ref a_19, .int i_19, .ref a_20])), (a_7, .inl (cy 1, 30, .inl (mm_g [i_20, i_21, i_22, i_23, i_24, i_25, i_26, i_27, i_28, i_29, i_30, i_31, i_32, i_33, i_34, i_35, i_36, i_37, i_38, i_39, i_40, i_41, i_42, i_43, i_44, i_45, i_46, i_47, i_48, i_49]))), (a_8, .inl (cy 1, 90, .inl f_0)), (a_11, .inl (cy 1, 30, .inl f_1)), (a_12, .inl (cy 1, 240, .inl f_2)), (a_13, .inl (cy 1, 450, .inl f_3)), (a_15, .inl (cy 1, 7200, .inl f_4)), (a_16, .inl (cy 1, 3, .inl f_5)), (a_18, .inl (cy 1, 8, .inl u.2.2.2))]) (fun (r : Int32) (u : Int32 × Int32 × Int32 × (Nat → Int32)) => mm_rg u.1 0 8 ∧ mm_ar u.2.2.2 0 9 ∧ mm_rg r (-1000000) 1009999) 0 0 := by
  refine mm_begin (lv := [(0, .ref a_0), (1, .int i_0), (2, .int i_1), (3, .int i_2)]) (by decide) (Nat.le_of_ble_eq_true rfl) rfl ?_
  intro p e s m below meth c A ls R args Q H locs hRe hQ hAe hx hb hr hlocks hml hown hnm hts hsz hA hS hP hK hD hZ hl
  have hRf : R.frames = 7 := by rw [hRe]
  have hRl : R.locals = 177 := by rw [hRe]
  have hRc : R.cells = 0 := by rw [hRe]
  have hRs : R.slots = 0 := by rw [hRe]
  refine lv_iload_n hx hb dX12_heirsOf_0 rfl (lv_at hl 3 rfl) ?_
  refine lv_if_ne (tgt := 8) hx hb dX12_heirsOf_1 (by decide) (fun c1 => ?_) (fun c1 => ?_)
  · have q2 := mm_neL (lo := 1) (mm_ne c1) h2 mm_k0 (by decide) (by decide)
    refine lv_ldcw (v := (-1000000)) hx hb hown (mm_h hts mm_w1460) dX12_heirsOf_8 ?_
    refine lv_istore (lv' := [(4, .int (-1000000)), (0, .ref a_0), (1, .int i_0), (2, .int i_1), (3, .int i_2)]) hx hb dX12_heirsOf_11 hl (by decide) rfl ?_
    clear hl
    clear ls
    intro ls hl
    refine lv_iconst (v := 0) hx hb dX12_heirsOf_13 (by decide) ?_
    refine lv_istore (lv' := [(5, .int 0), (4, .int (-1000000)), (0, .ref a_0), (1, .int i_0), (2, .int i_1), (3, .int i_2)]) hx hb dX12_heirsOf_14 hl (by decide) rfl ?_
    clear hl
    clear ls
    intro ls hl
    have L16_319 : ∀ (n : Nat) (x16_5_314 : Int32) (x16_4_315 : Int32) (y16_0_29_316 : Int32) (y16_0_30_317 : Int32) (y16_0_31_318 : Int32) (z16_8_319 : Nat → Int32), mm_rg x16_5_314 0 6 → mm_rg x16_4_315 (-1000000) 1009999 → mm_rg y16_0_29_316 0 8 → mm_ar z16_8_319 0 9 → (6 - x16_5_314.toInt).toNat < n → ∀ (H : Heap) (locs : List Loc), va_P G vwCl [(a_0, .inr (12, [.int i_3, .ref a_1, .ref a_2, .ref a_3, .ref a_4, .ref a_5, .int i_4, .int i_5, .int i_6, .int i_7, .int i_8, .long j_0, .int i_9, .int i_10, .int i_11, .int i_12, .ref a_6, .ref a_7, .ref a_8, .ref a_9, .ref a_10, .ref a_11, .ref a_12, .ref a_13, .ref a_14, .ref a_15, .ref a_16, .ref a_17, .ref a_18, .int y16_0_29_316, .int y16_0_30_317, .int y16_0_31_318, .int i_16, .int i_17, .int i_18, .ref a_19, .int i_19, .ref a_20])), (a_7, .inl (cy 1, 30, .inl (mm_g [i_20, i_21, i_22, i_23, i_24, i_25, i_26, i_27, i_28, i_29, i_30, i_31, i_32, i_33, i_34, i_35, i_36, i_37, i_38, i_39, i_40, i_41, i_42, i_43, i_44, i_45, i_46, i_47, i_48, i_49]))), (a_8, .inl (cy 1, 90, .inl f_0)), (a_11, .inl (cy 1, 30, .inl f_1)), (a_12, .inl (cy 1, 240, .inl f_2)), (a_13, .inl (cy 1, 450, .inl f_3)), (a_15, .inl (cy 1, 7200, .inl f_4)), (a_16, .inl (cy 1, 3, .inl f_5)), (a_18, .inl (cy 1, 8, .inl z16_8_319))] H → va_D A [(a_0, .inr (12, [.int i_3, .ref a_1, .ref a_2, .ref a_3, .ref a_4, .ref a_5, .int i_4, .int i_5, .int i_6, .int i_7, .int i_8, .long j_0, .int i_9, .int i_10, .int i_11, .int i_12, .ref a_6, .ref a_7, .ref a_8, .ref a_9, .ref a_10, .ref a_11, .ref a_12, .ref a_13, .ref a_14, .ref a_15, .ref a_16, .ref a_17, .ref a_18, .int y16_0_29_316, .int y16_0_30_317, .int y16_0_31_318, .int i_16, .int i_17, .int i_18, .ref a_19, .int i_19, .ref a_20])), (a_7, .inl (cy 1, 30, .inl (mm_g [i_20, i_21, i_22, i_23, i_24, i_25, i_26, i_27, i_28, i_29, i_30, i_31, i_32, i_33, i_34, i_35, i_36, i_37, i_38, i_39, i_40, i_41, i_42, i_43, i_44, i_45, i_46, i_47, i_48, i_49]))), (a_8, .inl (cy 1, 90, .inl f_0)), (a_11, .inl (cy 1, 30, .inl f_1)), (a_12, .inl (cy 1, 240, .inl f_2)), (a_13, .inl (cy 1, 450, .inl f_3)), (a_15, .inl (cy 1, 7200, .inl f_4)), (a_16, .inl (cy 1, 3, .inl f_5)), (a_18, .inl (cy 1, 8, .inl z16_8_319))] → va_S A s.heap H locs → ∀ (ls : Array Slot), lv_has ls 7 [(5, .int x16_5_314), (4, .int x16_4_315), (0, .ref a_0), (1, .int i_0), (2, .int i_1), (3, .int i_2)] → W p l e R s m args below meth c H locs 0 0 Q (F0 m 16 ls []) := by
      intro n
      induction n with
      | zero => intro x16_5_314 x16_4_315 y16_0_29_316 y16_0_30_317 y16_0_31_318 z16_8_319 rx16_5_314 rx16_4_315 ry16_0_29_316 rz16_8_319 hm; exact absurd hm (Nat.not_lt_zero _)
      | succ n ih16 =>
        intro x16_5_314 x16_4_315 y16_0_29_316 y16_0_30_317 y16_0_31_318 z16_8_319 rx16_5_314 rx16_4_315 ry16_0_29_316 rz16_8_319 hm16 H locs hP hD hS ls hl
        refine lv_iload hx hb dX12_heirsOf_16 (lv_at hl 0 rfl) ?_
        refine lv_aload_n hx hb dX12_heirsOf_18 rfl (lv_at hl 2 rfl) ?_
        refine mm_finir (va_runV (As := []) (rest := [.int x16_5_314]) ⟨hx, hb, hml, hown, hts⟩ (M95_X12_texts l G cy H.size a_0 i_3 a_1 a_2 a_3 a_4 a_5 i_4 i_5 i_6 i_7 i_8 j_0 i_9 i_10 i_11 i_12 a_6 a_7 a_8 a_9 a_10 a_11 a_12 a_13 a_14 a_15 a_16 a_17 a_18 y16_0_29_316 y16_0_30_317 y16_0_31_318 i_16 i_17 i_18 a_19 i_19 a_20 i_20 i_21 i_22 i_23 i_24 i_25 i_26 i_27 i_28 i_29 i_30 i_31 i_32 i_33 i_34 i_35 i_36 i_37 i_38 i_39 i_40 i_41 i_42 i_43 i_44 i_45 i_46 i_47 i_48 i_49 h4 h5 h6 h7 h8 h9 h10 h11 h12 h13 h14 h15 h16 h17 h18 h19 h20 h21 h22 h23 h24 h25 h26 h27 h28 h29 h30 h31 h32 h33) (cwV 0 hts (mm_gV mm_w617 mm_w618 mm_w619 mm_w5 mm_w620) rfl rfl rfl hd_X12_texts ⟨by rw [hRf]; exact Nat.le_of_ble_eq_true rfl, by rw [hRl]; exact Nat.le_of_ble_eq_true rfl⟩) (mm_preV hK hZ hS hA hP hD [0, 1] rfl rfl 0 rfl rfl rfl) rfl rfl hl.1 rfl (lv_room (Nat.le_of_ble_eq_true rfl)) dX12_heirsOf_19 ⟨by rw [hRc]; exact Nat.le_of_ble_eq_true rfl, by rw [hRs]; exact Nat.le_of_ble_eq_true rfl⟩) hP hD hS hA [0, 1] rfl (fun _ => rfl) ?_
        clear hP hD hS
        clear H locs
        intro v321 _u H locs hw hP hD hS
        subst hw
        refine lv_icmp_ge (tgt := 86) hx hb dX12_heirsOf_22 (by decide) (fun c322 => ?_) (fun c322 => ?_)
        · refine lv_iload hx hb dX12_heirsOf_86 (lv_at hl 1 rfl) ?_
          subst hAe
          rw [hQ]
          exact W.iret (v := x16_4_315) hx hb hr (fun t ht hW => ⟨⟨x16_4_315, (y16_0_29_316, y16_0_30_317, y16_0_31_318, z16_8_319), rfl, ⟨ry16_0_29_316, rz16_8_319, rx16_4_315⟩, by rw [ht]; exact hP, hK.warm hW, hD⟩, hS.F ht⟩) hS.2.2 dX12_heirsOf_88
        · have q323 := mm_ltL (h := 5) (mm_nle c322) rx16_5_314 h8 (by decide)
          have q324 := mm_ltR (lo := 1) (mm_nle c322) rx16_5_314 h8 (by decide)
          refine lv_iload_n hx hb dX12_heirsOf_25 rfl (lv_at hl 5 rfl) ?_
          refine lv_iload hx hb dX12_heirsOf_26 (lv_at hl 0 rfl) ?_
          refine mm_finir (va_runS (As := [.int i_2, .int x16_5_314]) (rest := []) ⟨hx, hb, hml, hown, hts⟩ (M232_X12_isBit l G cy H.size i_2 x16_5_314 (mm_wk q2 (by decide)) q323) (va_cwS 2 hts (mm_gS mm_w1461 mm_w1462 mm_w5 mm_w1463) rfl rfl rfl hs_X12_isBit ⟨by rw [hRf]; exact Nat.le_of_ble_eq_true rfl, by rw [hRl]; exact Nat.le_of_ble_eq_true rfl⟩) (mm_preS hK hZ hS hA hP hD [] rfl rfl) rfl rfl hl.1 rfl (lv_room (Nat.le_of_ble_eq_true rfl)) dX12_heirsOf_28 ⟨by rw [hRc]; exact Nat.le_of_ble_eq_true rfl, by rw [hRs]; exact Nat.le_of_ble_eq_true rfl⟩) hP hD hS hA [] rfl (fun _ => rfl) ?_
          clear hP hD hS
          clear H locs
          intro v325 _u H locs hw hP hD hS
          rcases hw with ⟨rfl, w326⟩ | ⟨rfl, w327⟩
          · refine lv_if_ne (tgt := 37) hx hb dX12_heirsOf_31 (by decide) (fun c328 => ?_) (fun c328 => ?_)
            · have q329 := mm_neL (lo := 1) (mm_ne c328) mm_k0 mm_k0 (by decide) (by decide)
              exact mm_no q329 (by decide)
            · refine lv_goto (tgt := 80) hx hb dX12_heirsOf_34 (by decide) ?_
              obtain ⟨v330, ev330⟩ : ∃ y : Int32, y = x16_5_314 + 1 := ⟨_, rfl⟩
              refine lv_iinc (v := v330) (lv' := [(5, .int v330), (4, .int x16_4_315), (0, .ref a_0), (1, .int i_0), (2, .int i_1), (3, .int i_2)]) hx hb dX12_heirsOf_80 hl (k := 0) rfl (by rw [ev330]; rfl) (by decide) rfl ?_
              clear hl
              clear ls
              intro ls hl
              have rv330 : mm_rg v330 1 6 := mm_add ev330 q323 mm_k1 (by decide) (by decide)
              have tv330 := mm_addEc ev330 q323 mm_k1 (by decide) (k := 1) (by decide)
              refine lv_goto (tgt := 16) hx hb dX12_heirsOf_83 (by decide) ?_
              exact ih16 v330 x16_4_315 y16_0_29_316 y16_0_30_317 y16_0_31_318 z16_8_319 (mm_wk rv330 (by decide)) rx16_4_315 ry16_0_29_316 rz16_8_319 (mm_mu hm16 tv330 (by decide) (rv330).2 (by decide)) H locs hP hD hS ls (lv_sub hl [0, 1, 2, 3, 4, 5] rfl)
          · refine lv_if_ne (tgt := 37) hx hb dX12_heirsOf_31 (by decide) (fun c331 => ?_) (fun c331 => ?_)
            · refine lv_aload_n hx hb dX12_heirsOf_37 rfl (lv_at hl 2 rfl) ?_
              refine lv_iload_n hx hb dX12_heirsOf_38 rfl (lv_at hl 3 rfl) ?_
              refine lv_iload_n hx hb dX12_heirsOf_39 rfl (lv_at hl 4 rfl) ?_
              refine lv_iload hx hb dX12_heirsOf_40 (lv_at hl 0 rfl) ?_
              refine mm_fini (va_runV (As := [.int i_0, .int i_1, .int x16_5_314]) (rest := []) ⟨hx, hb, hml, hown, hts⟩ (M141_X12_reads l G cy H.size a_0 i_0 i_1 x16_5_314 i_3 a_1 a_2 a_3 a_4 a_5 i_4 i_5 i_6 i_7 i_8 j_0 i_9 i_10 i_11 i_12 a_6 a_7 a_8 a_9 a_10 a_11 a_12 a_13 a_14 a_15 a_16 a_17 a_18 y16_0_29_316 y16_0_30_317 y16_0_31_318 i_16 i_17 i_18 a_19 i_19 a_20 i_20 i_21 i_22 i_23 i_24 i_25 i_26 i_27 i_28 i_29 i_30 i_31 i_32 i_33 i_34 i_35 i_36 i_37 i_38 i_39 i_40 i_41 i_42 i_43 i_44 i_45 i_46 i_47 i_48 i_49 f_0 f_1 f_2 f_3 f_4 f_5 z16_8_319 h0 (mm_wk h1 (by decide)) q323 ry16_0_29_316 h4 h5 h6 h7 (mm_wk q324 (by decide)) h9 h10 h11 h12 h13 h14 h15 h16 h17 h18 h19 h20 h21 h22 h23 h24 h25 h26 h27 h28 h29 h30 h31 h32 h33 h34 h35 h36 h37 h38 h39 rz16_8_319 h41 h42 h43 h44 h45 h46 h47 h48 h49) (cwV 3 hts (mm_gV mm_w852 mm_w853 mm_w854 mm_w5 mm_w855) rfl rfl rfl hd_X12_reads ⟨by rw [hRf]; exact Nat.le_of_ble_eq_true rfl, by rw [hRl]; exact Nat.le_of_ble_eq_true rfl⟩) (mm_preV hK hZ hS hA hP hD [0, 1, 2, 3, 4, 5, 6, 7, 8] rfl rfl 0 rfl rfl rfl) rfl rfl hl.1 rfl (lv_room (Nat.le_of_ble_eq_true rfl)) dX12_heirsOf_42 ⟨by rw [hRc]; exact Nat.le_of_ble_eq_true rfl, by rw [hRs]; exact Nat.le_of_ble_eq_true rfl⟩) hP hD hS hA (fun u : Int32 × Int32 × Int32 × (Nat → Int32) => [(a_0, .inr (12, [.int i_3, .ref a_1, .ref a_2, .ref a_3, .ref a_4, .ref a_5, .int i_4, .int i_5, .int i_6, .int i_7, .int i_8, .long j_0, .int i_9, .int i_10, .int i_11, .int i_12, .ref a_6, .ref a_7, .ref a_8, .ref a_9, .ref a_10, .ref a_11, .ref a_12, .ref a_13, .ref a_14, .ref a_15, .ref a_16, .ref a_17, .ref a_18, .int u.1, .int u.2.1, .int u.2.2.1, .int i_16, .int i_17, .int i_18, .ref a_19, .int i_19, .ref a_20])), (a_7, .inl (cy 1, 30, .inl (mm_g [i_20, i_21, i_22, i_23, i_24, i_25, i_26, i_27, i_28, i_29, i_30, i_31, i_32, i_33, i_34, i_35, i_36, i_37, i_38, i_39, i_40, i_41, i_42, i_43, i_44, i_45, i_46, i_47, i_48, i_49]))), (a_8, .inl (cy 1, 90, .inl f_0)), (a_11, .inl (cy 1, 30, .inl f_1)), (a_12, .inl (cy 1, 240, .inl f_2)), (a_13, .inl (cy 1, 450, .inl f_3)), (a_15, .inl (cy 1, 7200, .inl f_4)), (a_16, .inl (cy 1, 3, .inl f_5)), (a_18, .inl (cy 1, 8, .inl u.2.2.2))]) [0, 1, 2, 3, 4, 5, 6, 7, 8] [] (n := 9) (fun _ => rfl) (by decide +kernel) (by decide +kernel) rfl (fun _ => rfl) (wr := []) rfl (fun _ => rfl) (fun _ => @rfl _ ([a_0, a_7, a_8, a_11, a_12, a_13, a_15, a_16, a_18] : List Nat)) ?_
              clear hP hD hS
              clear H locs
              intro v336 u
              obtain ⟨n332, n333, n334, n335⟩ := u
              intro H locs hw (hP : va_P G vwCl [(a_0, .inr (12, [.int i_3, .ref a_1, .ref a_2, .ref a_3, .ref a_4, .ref a_5, .int i_4, .int i_5, .int i_6, .int i_7, .int i_8, .long j_0, .int i_9, .int i_10, .int i_11, .int i_12, .ref a_6, .ref a_7, .ref a_8, .ref a_9, .ref a_10, .ref a_11, .ref a_12, .ref a_13, .ref a_14, .ref a_15, .ref a_16, .ref a_17, .ref a_18, .int n332, .int n333, .int n334, .int i_16, .int i_17, .int i_18, .ref a_19, .int i_19, .ref a_20])), (a_7, .inl (cy 1, 30, .inl (mm_g [i_20, i_21, i_22, i_23, i_24, i_25, i_26, i_27, i_28, i_29, i_30, i_31, i_32, i_33, i_34, i_35, i_36, i_37, i_38, i_39, i_40, i_41, i_42, i_43, i_44, i_45, i_46, i_47, i_48, i_49]))), (a_8, .inl (cy 1, 90, .inl f_0)), (a_11, .inl (cy 1, 30, .inl f_1)), (a_12, .inl (cy 1, 240, .inl f_2)), (a_13, .inl (cy 1, 450, .inl f_3)), (a_15, .inl (cy 1, 7200, .inl f_4)), (a_16, .inl (cy 1, 3, .inl f_5)), (a_18, .inl (cy 1, 8, .inl n335))] H) (hD : va_D A [(a_0, .inr (12, [.int i_3, .ref a_1, .ref a_2, .ref a_3, .ref a_4, .ref a_5, .int i_4, .int i_5, .int i_6, .int i_7, .int i_8, .long j_0, .int i_9, .int i_10, .int i_11, .int i_12, .ref a_6, .ref a_7, .ref a_8, .ref a_9, .ref a_10, .ref a_11, .ref a_12, .ref a_13, .ref a_14, .ref a_15, .ref a_16, .ref a_17, .ref a_18, .int n332, .int n333, .int n334, .int i_16, .int i_17, .int i_18, .ref a_19, .int i_19, .ref a_20])), (a_7, .inl (cy 1, 30, .inl (mm_g [i_20, i_21, i_22, i_23, i_24, i_25, i_26, i_27, i_28, i_29, i_30, i_31, i_32, i_33, i_34, i_35, i_36, i_37, i_38, i_39, i_40, i_41, i_42, i_43, i_44, i_45, i_46, i_47, i_48, i_49]))), (a_8, .inl (cy 1, 90, .inl f_0)), (a_11, .inl (cy 1, 30, .inl f_1)), (a_12, .inl (cy 1, 240, .inl f_2)), (a_13, .inl (cy 1, 450, .inl f_3)), (a_15, .inl (cy 1, 7200, .inl f_4)), (a_16, .inl (cy 1, 3, .inl f_5)), (a_18, .inl (cy 1, 8, .inl n335))]) hS
              obtain ⟨w337, w338, hw⟩ := hw
              obtain ⟨w339, w340⟩ := hw
              replace w340 : mm_rd f_4 f_5 f_0 f_1 f_2 f_3 i_0 i_1 x16_5_314 i_21 i_22 i_25 v336 := w340
              refine lv_aload_n hx hb dX12_heirsOf_45 rfl (lv_at hl 2 rfl) ?_
              refine lv_iload_n hx hb dX12_heirsOf_46 rfl (lv_at hl 3 rfl) ?_
              refine lv_iload_n hx hb dX12_heirsOf_47 rfl (lv_at hl 4 rfl) ?_
              refine lv_iconst (v := 1) hx hb dX12_heirsOf_48 (by decide) ?_
              refine lv_iadd hx hb dX12_heirsOf_49 ?_
              refine lv_topi (fun v341 ev341 => ?_)
              have rv341 : mm_rg v341 1 1000000003 := mm_add ev341 h1 mm_k1 (by decide) (by decide)
              have tv341 := mm_addEc ev341 h1 mm_k1 (by decide) (k := 1) (by decide)
              refine lv_iload_n hx hb dX12_heirsOf_50 rfl (lv_at hl 5 rfl) ?_
              refine lv_iconst (v := 1) hx hb dX12_heirsOf_51 (by decide) ?_
              refine lv_iload hx hb dX12_heirsOf_52 (lv_at hl 0 rfl) ?_
              refine lv_ishl hx hb dX12_heirsOf_54 ?_
              refine lv_topi (fun v342 ev342 => ?_)
              have rv342 : mm_rg v342 1 32 := mm_shl1 ev342 q323 (by decide)
              refine lv_iconst (v := (-1)) hx hb dX12_heirsOf_55 (by decide) ?_
              refine lv_ixor hx hb dX12_heirsOf_56 ?_
              refine lv_topi (fun v343 ev343 => ?_)
              refine lv_iand hx hb dX12_heirsOf_57 ?_
              refine lv_topi (fun v344 ev344 => ?_)
              have rv344 : mm_rg v344 0 63 := mm_andL ev344 q2 (by decide)
              refine mm_fini (va_runV (As := [.int i_0, .int v341, .int v344]) (rest := [.int v336]) ⟨hx, hb, hml, hown, hts⟩ (M237_X12_heirsOf l G cy H.size a_0 i_0 v341 v344 i_3 a_1 a_2 a_3 a_4 a_5 i_4 i_5 i_6 i_7 i_8 j_0 i_9 i_10 i_11 i_12 a_6 a_7 a_8 a_9 a_10 a_11 a_12 a_13 a_14 a_15 a_16 a_17 a_18 n332 n333 n334 i_16 i_17 i_18 a_19 i_19 a_20 i_20 i_21 i_22 i_23 i_24 i_25 i_26 i_27 i_28 i_29 i_30 i_31 i_32 i_33 i_34 i_35 i_36 i_37 i_38 i_39 i_40 i_41 i_42 i_43 i_44 i_45 i_46 i_47 i_48 i_49 f_0 f_1 f_2 f_3 f_4 f_5 n335 h0 (mm_wk rv341 (by decide)) rv344 w337 h4 h5 h6 h7 (mm_wk q324 (by decide)) h9 h10 h11 h12 h13 h14 h15 h16 h17 h18 h19 h20 h21 h22 h23 h24 h25 h26 h27 h28 h29 h30 h31 h32 h33 h34 h35 h36 h37 h38 h39 w338 h41 h42 h43 h44 h45 h46 h47 h48 h49 (mm_pc_cut h50 w327 ev342 ev343 ev344 q2 q323 (by decide))) (cwV 3 hts (mm_gV mm_w1456 mm_w1457 mm_w1458 mm_w5 mm_w1459) rfl rfl rfl hd_X12_heirsOf ⟨by rw [hRf]; exact Nat.le_of_ble_eq_true rfl, by rw [hRl]; exact Nat.le_of_ble_eq_true rfl⟩) (mm_preV hK hZ hS hA hP hD [0, 1, 2, 3, 4, 5, 6, 7, 8] rfl rfl 0 rfl rfl rfl) rfl rfl hl.1 rfl (lv_room (Nat.le_of_ble_eq_true rfl)) dX12_heirsOf_58 ⟨by rw [hRc]; exact Nat.le_of_ble_eq_true rfl, by rw [hRs]; exact Nat.le_of_ble_eq_true rfl⟩) hP hD hS hA (fun u : Int32 × Int32 × Int32 × (Nat → Int32) => [(a_0, .inr (12, [.int i_3, .ref a_1, .ref a_2, .ref a_3, .ref a_4, .ref a_5, .int i_4, .int i_5, .int i_6, .int i_7, .int i_8, .long j_0, .int i_9, .int i_10, .int i_11, .int i_12, .ref a_6, .ref a_7, .ref a_8, .ref a_9, .ref a_10, .ref a_11, .ref a_12, .ref a_13, .ref a_14, .ref a_15, .ref a_16, .ref a_17, .ref a_18, .int u.1, .int u.2.1, .int u.2.2.1, .int i_16, .int i_17, .int i_18, .ref a_19, .int i_19, .ref a_20])), (a_7, .inl (cy 1, 30, .inl (mm_g [i_20, i_21, i_22, i_23, i_24, i_25, i_26, i_27, i_28, i_29, i_30, i_31, i_32, i_33, i_34, i_35, i_36, i_37, i_38, i_39, i_40, i_41, i_42, i_43, i_44, i_45, i_46, i_47, i_48, i_49]))), (a_8, .inl (cy 1, 90, .inl f_0)), (a_11, .inl (cy 1, 30, .inl f_1)), (a_12, .inl (cy 1, 240, .inl f_2)), (a_13, .inl (cy 1, 450, .inl f_3)), (a_15, .inl (cy 1, 7200, .inl f_4)), (a_16, .inl (cy 1, 3, .inl f_5)), (a_18, .inl (cy 1, 8, .inl u.2.2.2))]) [0, 1, 2, 3, 4, 5, 6, 7, 8] [] (n := 9) (fun _ => rfl) (by decide +kernel) (by decide +kernel) rfl (fun _ => rfl) (wr := []) rfl (fun _ => rfl) (fun _ => @rfl _ ([a_0, a_7, a_8, a_11, a_12, a_13, a_15, a_16, a_18] : List Nat)) ?_
              clear hP hD hS
              clear H locs
              intro v349 u
              obtain ⟨n345, n346, n347, n348⟩ := u
              intro H locs hw (hP : va_P G vwCl [(a_0, .inr (12, [.int i_3, .ref a_1, .ref a_2, .ref a_3, .ref a_4, .ref a_5, .int i_4, .int i_5, .int i_6, .int i_7, .int i_8, .long j_0, .int i_9, .int i_10, .int i_11, .int i_12, .ref a_6, .ref a_7, .ref a_8, .ref a_9, .ref a_10, .ref a_11, .ref a_12, .ref a_13, .ref a_14, .ref a_15, .ref a_16, .ref a_17, .ref a_18, .int n345, .int n346, .int n347, .int i_16, .int i_17, .int i_18, .ref a_19, .int i_19, .ref a_20])), (a_7, .inl (cy 1, 30, .inl (mm_g [i_20, i_21, i_22, i_23, i_24, i_25, i_26, i_27, i_28, i_29, i_30, i_31, i_32, i_33, i_34, i_35, i_36, i_37, i_38, i_39, i_40, i_41, i_42, i_43, i_44, i_45, i_46, i_47, i_48, i_49]))), (a_8, .inl (cy 1, 90, .inl f_0)), (a_11, .inl (cy 1, 30, .inl f_1)), (a_12, .inl (cy 1, 240, .inl f_2)), (a_13, .inl (cy 1, 450, .inl f_3)), (a_15, .inl (cy 1, 7200, .inl f_4)), (a_16, .inl (cy 1, 3, .inl f_5)), (a_18, .inl (cy 1, 8, .inl n348))] H) (hD : va_D A [(a_0, .inr (12, [.int i_3, .ref a_1, .ref a_2, .ref a_3, .ref a_4, .ref a_5, .int i_4, .int i_5, .int i_6, .int i_7, .int i_8, .long j_0, .int i_9, .int i_10, .int i_11, .int i_12, .ref a_6, .ref a_7, .ref a_8, .ref a_9, .ref a_10, .ref a_11, .ref a_12, .ref a_13, .ref a_14, .ref a_15, .ref a_16, .ref a_17, .ref a_18, .int n345, .int n346, .int n347, .int i_16, .int i_17, .int i_18, .ref a_19, .int i_19, .ref a_20])), (a_7, .inl (cy 1, 30, .inl (mm_g [i_20, i_21, i_22, i_23, i_24, i_25, i_26, i_27, i_28, i_29, i_30, i_31, i_32, i_33, i_34, i_35, i_36, i_37, i_38, i_39, i_40, i_41, i_42, i_43, i_44, i_45, i_46, i_47, i_48, i_49]))), (a_8, .inl (cy 1, 90, .inl f_0)), (a_11, .inl (cy 1, 30, .inl f_1)), (a_12, .inl (cy 1, 240, .inl f_2)), (a_13, .inl (cy 1, 450, .inl f_3)), (a_15, .inl (cy 1, 7200, .inl f_4)), (a_16, .inl (cy 1, 3, .inl f_5)), (a_18, .inl (cy 1, 8, .inl n348))]) hS
              obtain ⟨w350, w351, hw⟩ := hw
              have w352 := hw
              refine lv_isub hx hb dX12_heirsOf_61 ?_
              refine lv_topi (fun v353 ev353 => ?_)
              have rv353 : mm_rg v353 (-1009999) 1009999 := mm_sub ev353 w339 w352 (by decide) (by decide)
              have tv353 := mm_subE ev353 w339 w352 (by decide)
              refine lv_istore (lv' := [(6, .int v353), (5, .int x16_5_314), (4, .int x16_4_315), (0, .ref a_0), (1, .int i_0), (2, .int i_1), (3, .int i_2)]) hx hb dX12_heirsOf_62 hl (by decide) rfl ?_
              clear hl
              clear ls
              intro ls hl
              refine lv_iload hx hb dX12_heirsOf_64 (lv_at hl 0 rfl) ?_
              refine lv_iload hx hb dX12_heirsOf_66 (lv_at hl 2 rfl) ?_
              refine lv_icmp_le (tgt := 76) hx hb dX12_heirsOf_68 (by decide) (fun c354 => ?_) (fun c354 => ?_)
              · refine lv_iload hx hb dX12_heirsOf_76 (lv_at hl 2 rfl) ?_
                refine lv_istore (lv' := [(4, .int x16_4_315), (6, .int v353), (5, .int x16_5_314), (0, .ref a_0), (1, .int i_0), (2, .int i_1), (3, .int i_2)]) hx hb dX12_heirsOf_78 hl (by decide) rfl ?_
                clear hl
                clear ls
                intro ls hl
                obtain ⟨v355, ev355⟩ : ∃ y : Int32, y = x16_5_314 + 1 := ⟨_, rfl⟩
                refine lv_iinc (v := v355) (lv' := [(5, .int v355), (4, .int x16_4_315), (6, .int v353), (0, .ref a_0), (1, .int i_0), (2, .int i_1), (3, .int i_2)]) hx hb dX12_heirsOf_80 hl (k := 2) rfl (by rw [ev355]; rfl) (by decide) rfl ?_
                clear hl
                clear ls
                intro ls hl
                have rv355 : mm_rg v355 1 6 := mm_add ev355 q323 mm_k1 (by decide) (by decide)
                have tv355 := mm_addEc ev355 q323 mm_k1 (by decide) (k := 1) (by decide)
                refine lv_goto (tgt := 16) hx hb dX12_heirsOf_83 (by decide) ?_
                exact ih16 v355 x16_4_315 n345 n346 n347 n348 (mm_wk rv355 (by decide)) rx16_4_315 w350 w351 (mm_mu hm16 tv355 (by decide) (rv355).2 (by decide)) H locs hP hD hS ls (lv_sub hl [0, 1, 3, 4, 5, 6] rfl)
              · have q356 := mm_ltL (h := 1009998) (mm_nle c354) rx16_4_315 rv353 (by decide)
                have q357 := mm_ltR (lo := (-999999)) (mm_nle c354) rx16_4_315 rv353 (by decide)
                have q358 : mm_rg v349 (-1000000) 1009998 := mm_unsubY tv353 q357 w339 w352 (by decide)
                refine lv_iload hx hb dX12_heirsOf_71 (lv_at hl 0 rfl) ?_
                refine lv_goto (tgt := 78) hx hb dX12_heirsOf_73 (by decide) ?_
                refine lv_istore (lv' := [(4, .int v353), (6, .int v353), (5, .int x16_5_314), (0, .ref a_0), (1, .int i_0), (2, .int i_1), (3, .int i_2)]) hx hb dX12_heirsOf_78 hl (by decide) rfl ?_
                clear hl
                clear ls
                intro ls hl
                obtain ⟨v359, ev359⟩ : ∃ y : Int32, y = x16_5_314 + 1 := ⟨_, rfl⟩
                refine lv_iinc (v := v359) (lv' := [(5, .int v359), (4, .int v353), (6, .int v353), (0, .ref a_0), (1, .int i_0), (2, .int i_1), (3, .int i_2)]) hx hb dX12_heirsOf_80 hl (k := 2) rfl (by rw [ev359]; rfl) (by decide) rfl ?_
                clear hl
                clear ls
                intro ls hl
                have rv359 : mm_rg v359 1 6 := mm_add ev359 q323 mm_k1 (by decide) (by decide)
                have tv359 := mm_addEc ev359 q323 mm_k1 (by decide) (k := 1) (by decide)
                refine lv_goto (tgt := 16) hx hb dX12_heirsOf_83 (by decide) ?_
                exact ih16 v359 v353 n345 n346 n347 n348 (mm_wk rv359 (by decide)) (mm_wk q357 (by decide)) w350 w351 (mm_mu hm16 tv359 (by decide) (rv359).2 (by decide)) H locs hP hD hS ls (lv_sub hl [0, 1, 3, 4, 5, 6] rfl)
            · exact mm_eqN c331.symm mm_k0 mm_k1 (by decide)
    exact L16_319 _ 0 (-1000000) i_13 i_14 i_15 f_6 (mm_wk mm_k0 (by decide)) (mm_wk mm_km1000000 (by decide)) h3 h40 (Nat.lt_succ_self _) H locs hP hD hS ls (lv_sub hl [0, 1, 2, 3, 4, 5] rfl)
  · have q360 := mm_eqI (lo := 0) (hi := 0) c1 h2 mm_k0 (by decide)
    refine lv_iconst (v := 0) hx hb dX12_heirsOf_4 (by decide) ?_
    refine lv_goto (tgt := 11) hx hb dX12_heirsOf_5 (by decide) ?_
    refine lv_istore (lv' := [(4, .int 0), (0, .ref a_0), (1, .int i_0), (2, .int i_1), (3, .int i_2)]) hx hb dX12_heirsOf_11 hl (by decide) rfl ?_
    clear hl
    clear ls
    intro ls hl
    refine lv_iconst (v := 0) hx hb dX12_heirsOf_13 (by decide) ?_
    refine lv_istore (lv' := [(5, .int 0), (4, .int 0), (0, .ref a_0), (1, .int i_0), (2, .int i_1), (3, .int i_2)]) hx hb dX12_heirsOf_14 hl (by decide) rfl ?_
    clear hl
    clear ls
    intro ls hl
    have L16_440 : ∀ (n : Nat) (x16_5_440 : Int32), mm_rg x16_5_440 0 6 → (6 - x16_5_440.toInt).toNat < n → ∀ (H : Heap) (locs : List Loc), va_P G vwCl [(a_0, .inr (12, [.int i_3, .ref a_1, .ref a_2, .ref a_3, .ref a_4, .ref a_5, .int i_4, .int i_5, .int i_6, .int i_7, .int i_8, .long j_0, .int i_9, .int i_10, .int i_11, .int i_12, .ref a_6, .ref a_7, .ref a_8, .ref a_9, .ref a_10, .ref a_11, .ref a_12, .ref a_13, .ref a_14, .ref a_15, .ref a_16, .ref a_17, .ref a_18, .int i_13, .int i_14, .int i_15, .int i_16, .int i_17, .int i_18, .ref a_19, .int i_19, .ref a_20])), (a_7, .inl (cy 1, 30, .inl (mm_g [i_20, i_21, i_22, i_23, i_24, i_25, i_26, i_27, i_28, i_29, i_30, i_31, i_32, i_33, i_34, i_35, i_36, i_37, i_38, i_39, i_40, i_41, i_42, i_43, i_44, i_45, i_46, i_47, i_48, i_49]))), (a_8, .inl (cy 1, 90, .inl f_0)), (a_11, .inl (cy 1, 30, .inl f_1)), (a_12, .inl (cy 1, 240, .inl f_2)), (a_13, .inl (cy 1, 450, .inl f_3)), (a_15, .inl (cy 1, 7200, .inl f_4)), (a_16, .inl (cy 1, 3, .inl f_5)), (a_18, .inl (cy 1, 8, .inl f_6))] H → va_D A [(a_0, .inr (12, [.int i_3, .ref a_1, .ref a_2, .ref a_3, .ref a_4, .ref a_5, .int i_4, .int i_5, .int i_6, .int i_7, .int i_8, .long j_0, .int i_9, .int i_10, .int i_11, .int i_12, .ref a_6, .ref a_7, .ref a_8, .ref a_9, .ref a_10, .ref a_11, .ref a_12, .ref a_13, .ref a_14, .ref a_15, .ref a_16, .ref a_17, .ref a_18, .int i_13, .int i_14, .int i_15, .int i_16, .int i_17, .int i_18, .ref a_19, .int i_19, .ref a_20])), (a_7, .inl (cy 1, 30, .inl (mm_g [i_20, i_21, i_22, i_23, i_24, i_25, i_26, i_27, i_28, i_29, i_30, i_31, i_32, i_33, i_34, i_35, i_36, i_37, i_38, i_39, i_40, i_41, i_42, i_43, i_44, i_45, i_46, i_47, i_48, i_49]))), (a_8, .inl (cy 1, 90, .inl f_0)), (a_11, .inl (cy 1, 30, .inl f_1)), (a_12, .inl (cy 1, 240, .inl f_2)), (a_13, .inl (cy 1, 450, .inl f_3)), (a_15, .inl (cy 1, 7200, .inl f_4)), (a_16, .inl (cy 1, 3, .inl f_5)), (a_18, .inl (cy 1, 8, .inl f_6))] → va_S A s.heap H locs → ∀ (ls : Array Slot), lv_has ls 7 [(5, .int x16_5_440), (4, .int 0), (0, .ref a_0), (1, .int i_0), (2, .int i_1), (3, .int i_2)] → W p l e R s m args below meth c H locs 0 0 Q (F0 m 16 ls []) := by
      intro n
      induction n with
      | zero => intro x16_5_440 rx16_5_440 hm; exact absurd hm (Nat.not_lt_zero _)
      | succ n ih16 =>
        intro x16_5_440 rx16_5_440 hm16 H locs hP hD hS ls hl
        refine lv_iload hx hb dX12_heirsOf_16 (lv_at hl 0 rfl) ?_
        refine lv_aload_n hx hb dX12_heirsOf_18 rfl (lv_at hl 2 rfl) ?_
        refine mm_finir (va_runV (As := []) (rest := [.int x16_5_440]) ⟨hx, hb, hml, hown, hts⟩ (M95_X12_texts l G cy H.size a_0 i_3 a_1 a_2 a_3 a_4 a_5 i_4 i_5 i_6 i_7 i_8 j_0 i_9 i_10 i_11 i_12 a_6 a_7 a_8 a_9 a_10 a_11 a_12 a_13 a_14 a_15 a_16 a_17 a_18 i_13 i_14 i_15 i_16 i_17 i_18 a_19 i_19 a_20 i_20 i_21 i_22 i_23 i_24 i_25 i_26 i_27 i_28 i_29 i_30 i_31 i_32 i_33 i_34 i_35 i_36 i_37 i_38 i_39 i_40 i_41 i_42 i_43 i_44 i_45 i_46 i_47 i_48 i_49 h4 h5 h6 h7 h8 h9 h10 h11 h12 h13 h14 h15 h16 h17 h18 h19 h20 h21 h22 h23 h24 h25 h26 h27 h28 h29 h30 h31 h32 h33) (cwV 0 hts (mm_gV mm_w617 mm_w618 mm_w619 mm_w5 mm_w620) rfl rfl rfl hd_X12_texts ⟨by rw [hRf]; exact Nat.le_of_ble_eq_true rfl, by rw [hRl]; exact Nat.le_of_ble_eq_true rfl⟩) (mm_preV hK hZ hS hA hP hD [0, 1] rfl rfl 0 rfl rfl rfl) rfl rfl hl.1 rfl (lv_room (Nat.le_of_ble_eq_true rfl)) dX12_heirsOf_19 ⟨by rw [hRc]; exact Nat.le_of_ble_eq_true rfl, by rw [hRs]; exact Nat.le_of_ble_eq_true rfl⟩) hP hD hS hA [0, 1] rfl (fun _ => rfl) ?_
        clear hP hD hS
        clear H locs
        intro v442 _u H locs hw hP hD hS
        subst hw
        refine lv_icmp_ge (tgt := 86) hx hb dX12_heirsOf_22 (by decide) (fun c443 => ?_) (fun c443 => ?_)
        · refine lv_iload hx hb dX12_heirsOf_86 (lv_at hl 1 rfl) ?_
          subst hAe
          rw [hQ]
          exact W.iret (v := 0) hx hb hr (fun t ht hW => ⟨⟨0, (i_13, i_14, i_15, f_6), rfl, ⟨h3, h40, (mm_wk mm_k0 (by decide))⟩, by rw [ht]; exact hP, hK.warm hW, hD⟩, hS.F ht⟩) hS.2.2 dX12_heirsOf_88
        · have q444 := mm_ltL (h := 5) (mm_nle c443) rx16_5_440 h8 (by decide)
          have q445 := mm_ltR (lo := 1) (mm_nle c443) rx16_5_440 h8 (by decide)
          refine lv_iload_n hx hb dX12_heirsOf_25 rfl (lv_at hl 5 rfl) ?_
          refine lv_iload hx hb dX12_heirsOf_26 (lv_at hl 0 rfl) ?_
          refine mm_finir (va_runS (As := [.int i_2, .int x16_5_440]) (rest := []) ⟨hx, hb, hml, hown, hts⟩ (M232_X12_isBit l G cy H.size i_2 x16_5_440 (mm_wk q360 (by decide)) q444) (va_cwS 2 hts (mm_gS mm_w1461 mm_w1462 mm_w5 mm_w1463) rfl rfl rfl hs_X12_isBit ⟨by rw [hRf]; exact Nat.le_of_ble_eq_true rfl, by rw [hRl]; exact Nat.le_of_ble_eq_true rfl⟩) (mm_preS hK hZ hS hA hP hD [] rfl rfl) rfl rfl hl.1 rfl (lv_room (Nat.le_of_ble_eq_true rfl)) dX12_heirsOf_28 ⟨by rw [hRc]; exact Nat.le_of_ble_eq_true rfl, by rw [hRs]; exact Nat.le_of_ble_eq_true rfl⟩) hP hD hS hA [] rfl (fun _ => rfl) ?_
          clear hP hD hS
          clear H locs
          intro v446 _u H locs hw hP hD hS
          rcases hw with ⟨rfl, w447⟩ | ⟨rfl, w448⟩
          · refine lv_if_ne (tgt := 37) hx hb dX12_heirsOf_31 (by decide) (fun c449 => ?_) (fun c449 => ?_)
            · have q450 := mm_neL (lo := 1) (mm_ne c449) mm_k0 mm_k0 (by decide) (by decide)
              exact mm_no q450 (by decide)
            · refine lv_goto (tgt := 80) hx hb dX12_heirsOf_34 (by decide) ?_
              obtain ⟨v451, ev451⟩ : ∃ y : Int32, y = x16_5_440 + 1 := ⟨_, rfl⟩
              refine lv_iinc (v := v451) (lv' := [(5, .int v451), (4, .int 0), (0, .ref a_0), (1, .int i_0), (2, .int i_1), (3, .int i_2)]) hx hb dX12_heirsOf_80 hl (k := 0) rfl (by rw [ev451]; rfl) (by decide) rfl ?_
              clear hl
              clear ls
              intro ls hl
              have rv451 : mm_rg v451 1 6 := mm_add ev451 q444 mm_k1 (by decide) (by decide)
              have tv451 := mm_addEc ev451 q444 mm_k1 (by decide) (k := 1) (by decide)
              refine lv_goto (tgt := 16) hx hb dX12_heirsOf_83 (by decide) ?_
              exact ih16 v451 (mm_wk rv451 (by decide)) (mm_mu hm16 tv451 (by decide) (rv451).2 (by decide)) H locs hP hD hS ls (lv_sub hl [0, 1, 2, 3, 4, 5] rfl)
          · exact mm_bit_no w448 q360 (by decide)
    exact L16_440 _ 0 (mm_wk mm_k0 (by decide)) (Nat.lt_succ_self _) H locs hP hD hS ls (lv_sub hl [0, 1, 2, 3, 4, 5] rfl)

set_option maxHeartbeats 4000000 in
set_option maxRecDepth 100000 in
theorem M239_X12_heirsOf (l : Launch) (G : va_G) (cy : Nat → ClassId) (sz : Nat) (a_0 : Nat) (i_0 : Int32) (i_1 : Int32) (i_2 : Int32) (i_3 : Int32) (a_1 : Nat) (a_2 : Nat) (a_3 : Nat) (a_4 : Nat) (a_5 : Nat) (i_4 : Int32) (i_5 : Int32) (i_6 : Int32) (i_7 : Int32) (i_8 : Int32) (j_0 : Int64) (i_9 : Int32) (i_10 : Int32) (i_11 : Int32) (i_12 : Int32) (a_6 : Nat) (a_7 : Nat) (a_8 : Nat) (a_9 : Nat) (a_10 : Nat) (a_11 : Nat) (a_12 : Nat) (a_13 : Nat) (a_14 : Nat) (a_15 : Nat) (a_16 : Nat) (a_17 : Nat) (a_18 : Nat) (i_13 : Int32) (i_14 : Int32) (i_15 : Int32) (i_16 : Int32) (i_17 : Int32) (i_18 : Int32) (a_19 : Nat) (i_19 : Int32) (a_20 : Nat) (i_20 : Int32) (i_21 : Int32) (i_22 : Int32) (i_23 : Int32) (i_24 : Int32) (i_25 : Int32) (i_26 : Int32) (i_27 : Int32) (i_28 : Int32) (i_29 : Int32) (i_30 : Int32) (i_31 : Int32) (i_32 : Int32) (i_33 : Int32) (i_34 : Int32) (i_35 : Int32) (i_36 : Int32) (i_37 : Int32) (i_38 : Int32) (i_39 : Int32) (i_40 : Int32) (i_41 : Int32) (i_42 : Int32) (i_43 : Int32) (i_44 : Int32) (i_45 : Int32) (i_46 : Int32) (i_47 : Int32) (i_48 : Int32) (i_49 : Int32) (f_0 : Nat → Int32) (f_1 : Nat → Int32) (f_2 : Nat → Int32) (f_3 : Nat → Int32) (f_4 : Nat → Int32) (f_5 : Nat → Int32) (f_6 : Nat → Int32) (h0 : mm_rg i_0 0 2) (h1 : mm_rg i_1 0 1000000001) (h2 : mm_rg i_2 0 63) (h3 : mm_rg i_13 0 8) (h4 : mm_rg i_20 0 10) (h5 : mm_rg i_21 0 99) (h6 : mm_rg i_22 0 9) (h7 : mm_rg i_23 0 3) (h8 : mm_rg i_24 0 6) (h9 : mm_rg i_25 0 30) (h10 : mm_rg i_26 0 10) (h11 : mm_rg i_27 0 99) (h12 : mm_rg i_28 0 9) (h13 : mm_rg i_29 0 3) (h14 : mm_rg i_30 0 6) (h15 : mm_rg i_31 0 30) (h16 : mm_rg i_32 0 10) (h17 : mm_rg i_33 0 99) (h18 : mm_rg i_34 0 9) (h19 : mm_rg i_35 0 3) (h20 : mm_rg i_36 0 6) (h21 : mm_rg i_37 0 30) (h22 : mm_rg i_38 0 10) (h23 : mm_rg i_39 0 99) (h24 : mm_rg i_40 0 9) (h25 : mm_rg i_41 0 3) (h26 : mm_rg i_42 0 6) (h27 : mm_rg i_43 0 30) (h28 : mm_rg i_44 0 10) (h29 : mm_rg i_45 0 99) (h30 : mm_rg i_46 0 9) (h31 : mm_rg i_47 0 3) (h32 : mm_rg i_48 0 6) (h33 : mm_rg i_49 0 30) (h34 : mm_ar f_0 0 99) (h35 : mm_ar f_1 0 8) (h36 : mm_ar f_2 0 9) (h37 : mm_ar f_3 (-1) 99) (h38 : mm_ar f_4 0 9) (h39 : mm_ar f_5 0 210) (h40 : mm_ar f_6 0 9) (h41 : mm_txs f_1 f_2 0 i_22 i_24) (h42 : mm_acs f_3 0 i_22 i_23 i_25) (h43 : mm_txs f_1 f_2 1 i_28 i_30) (h44 : mm_acs f_3 1 i_28 i_29 i_31) (h45 : mm_txs f_1 f_2 2 i_34 i_36) (h46 : mm_acs f_3 2 i_34 i_35 i_37) (h47 : mm_txs f_1 f_2 3 i_40 i_42) (h48 : mm_acs f_3 3 i_40 i_41 i_43) (h49 : mm_f1 f_5 i_0) (h50 : mm_pc 6 i_2)  : mm_CI l yX12_heirsOf (mm_ws yX12_heirsOf cX12_heirsOf 7 (some .int)) ({ frames := 8, cells := 0, slots := 0, locals := 203 } : Room) G cy sz [(a_0, .inr (12, [.int i_3, .ref a_1, .ref a_2, .ref a_3, .ref a_4, .ref a_5, .int i_4, .int i_5, .int i_6, .int i_7, .int i_8, .long j_0, .int i_9, .int i_10, .int i_11, .int i_12, .ref a_6, .ref a_7, .ref a_8, .ref a_9, .ref a_10, .ref a_11, .ref a_12, .ref a_13, .ref a_14, .ref a_15, .ref a_16, .ref a_17, .ref a_18, .int i_13, .int i_14, .int i_15, .int i_16, .int i_17, .int i_18, .ref a_19, .int i_19, .ref a_20])), (a_7, .inl (cy 1, 30, .inl (mm_g [i_20, i_21, i_22, i_23, i_24, i_25, i_26, i_27, i_28, i_29, i_30, i_31, i_32, i_33, i_34, i_35, i_36, i_37, i_38, i_39, i_40, i_41, i_42, i_43, i_44, i_45, i_46, i_47, i_48, i_49]))), (a_8, .inl (cy 1, 90, .inl f_0)), (a_11, .inl (cy 1, 30, .inl f_1)), (a_12, .inl (cy 1, 240, .inl f_2)), (a_13, .inl (cy 1, 450, .inl f_3)), (a_15, .inl (cy 1, 7200, .inl f_4)), (a_16, .inl (cy 1, 3, .inl f_5)), (a_18, .inl (cy 1, 8, .inl f_6))] [.ref a_0, .int i_0, .int i_1, .int i_2] (fun u : Int32 × Int32 × Int32 × (Nat → Int32) => [(a_0, .inr (12, [.int i_3, .ref a_1, .ref a_2, .ref a_3, .ref a_4, .ref a_5, .int i_4, .int i_5, .int i_6, .int i_7, .int i_8, .long j_0, .int i_9, .int i_10, .int i_11, .int i_12, .ref a_6, .ref a_7, .ref a_8, .ref a_9, .ref a_10, .ref a_11, .ref a_12, .ref a_13, .ref a_14, .ref a_15, .ref a_16, .ref a_17, .ref a_18, .int u.1, .int u.2.1, .int u.2.2.1, .int i_16, .int i_17, .int i_18, .ref a_19, .int i_19, .ref a_20])), (a_7, .inl (cy 1, 30, .inl (mm_g [i_20, i_21, i_22, i_23, i_24, i_25, i_26, i_27, i_28, i_29, i_30, i_31, i_32, i_33, i_34, i_35, i_36, i_37, i_38, i_39, i_40, i_41, i_42, i_43, i_44, i_45, i_46, i_47, i_48, i_49]))), (a_8, .inl (cy 1, 90, .inl f_0)), (a_11, .inl (cy 1, 30, .inl f_1)), (a_12, .inl (cy 1, 240, .inl f_2)), (a_13, .inl (cy 1, 450, .inl f_3)), (a_15, .inl (cy 1, 7200, .inl f_4)), (a_16, .inl (cy 1, 3, .inl f_5)), (a_18, .inl (cy 1, 8, .inl u.2.2.2))]) (fun (r : Int32) (u : Int32 × Int32 × Int32 × (Nat → Int32)) => mm_rg u.1 0 8 ∧ mm_ar u.2.2.2 0 9 ∧ mm_rg r (-1000000) 1009999) 0 0 := by
  refine mm_begin (lv := [(0, .ref a_0), (1, .int i_0), (2, .int i_1), (3, .int i_2)]) (by decide) (Nat.le_of_ble_eq_true rfl) rfl ?_
  intro p e s m below meth c A ls R args Q H locs hRe hQ hAe hx hb hr hlocks hml hown hnm hts hsz hA hS hP hK hD hZ hl
  have hRf : R.frames = 8 := by rw [hRe]
  have hRl : R.locals = 203 := by rw [hRe]
  have hRc : R.cells = 0 := by rw [hRe]
  have hRs : R.slots = 0 := by rw [hRe]
  refine lv_iload_n hx hb dX12_heirsOf_0 rfl (lv_at hl 3 rfl) ?_
  refine lv_if_ne (tgt := 8) hx hb dX12_heirsOf_1 (by decide) (fun c1 => ?_) (fun c1 => ?_)
  · have q2 := mm_neL (lo := 1) (mm_ne c1) h2 mm_k0 (by decide) (by decide)
    refine lv_ldcw (v := (-1000000)) hx hb hown (mm_h hts mm_w1460) dX12_heirsOf_8 ?_
    refine lv_istore (lv' := [(4, .int (-1000000)), (0, .ref a_0), (1, .int i_0), (2, .int i_1), (3, .int i_2)]) hx hb dX12_heirsOf_11 hl (by decide) rfl ?_
    clear hl
    clear ls
    intro ls hl
    refine lv_iconst (v := 0) hx hb dX12_heirsOf_13 (by decide) ?_
    refine lv_istore (lv' := [(5, .int 0), (4, .int (-1000000)), (0, .ref a_0), (1, .int i_0), (2, .int i_1), (3, .int i_2)]) hx hb dX12_heirsOf_14 hl (by decide) rfl ?_
    clear hl
    clear ls
    intro ls hl
    have L16_319 : ∀ (n : Nat) (x16_5_314 : Int32) (x16_4_315 : Int32) (y16_0_29_316 : Int32) (y16_0_30_317 : Int32) (y16_0_31_318 : Int32) (z16_8_319 : Nat → Int32), mm_rg x16_5_314 0 6 → mm_rg x16_4_315 (-1000000) 1009999 → mm_rg y16_0_29_316 0 8 → mm_ar z16_8_319 0 9 → (6 - x16_5_314.toInt).toNat < n → ∀ (H : Heap) (locs : List Loc), va_P G vwCl [(a_0, .inr (12, [.int i_3, .ref a_1, .ref a_2, .ref a_3, .ref a_4, .ref a_5, .int i_4, .int i_5, .int i_6, .int i_7, .int i_8, .long j_0, .int i_9, .int i_10, .int i_11, .int i_12, .ref a_6, .ref a_7, .ref a_8, .ref a_9, .ref a_10, .ref a_11, .ref a_12, .ref a_13, .ref a_14, .ref a_15, .ref a_16, .ref a_17, .ref a_18, .int y16_0_29_316, .int y16_0_30_317, .int y16_0_31_318, .int i_16, .int i_17, .int i_18, .ref a_19, .int i_19, .ref a_20])), (a_7, .inl (cy 1, 30, .inl (mm_g [i_20, i_21, i_22, i_23, i_24, i_25, i_26, i_27, i_28, i_29, i_30, i_31, i_32, i_33, i_34, i_35, i_36, i_37, i_38, i_39, i_40, i_41, i_42, i_43, i_44, i_45, i_46, i_47, i_48, i_49]))), (a_8, .inl (cy 1, 90, .inl f_0)), (a_11, .inl (cy 1, 30, .inl f_1)), (a_12, .inl (cy 1, 240, .inl f_2)), (a_13, .inl (cy 1, 450, .inl f_3)), (a_15, .inl (cy 1, 7200, .inl f_4)), (a_16, .inl (cy 1, 3, .inl f_5)), (a_18, .inl (cy 1, 8, .inl z16_8_319))] H → va_D A [(a_0, .inr (12, [.int i_3, .ref a_1, .ref a_2, .ref a_3, .ref a_4, .ref a_5, .int i_4, .int i_5, .int i_6, .int i_7, .int i_8, .long j_0, .int i_9, .int i_10, .int i_11, .int i_12, .ref a_6, .ref a_7, .ref a_8, .ref a_9, .ref a_10, .ref a_11, .ref a_12, .ref a_13, .ref a_14, .ref a_15, .ref a_16, .ref a_17, .ref a_18, .int y16_0_29_316, .int y16_0_30_317, .int y16_0_31_318, .int i_16, .int i_17, .int i_18, .ref a_19, .int i_19, .ref a_20])), (a_7, .inl (cy 1, 30, .inl (mm_g [i_20, i_21, i_22, i_23, i_24, i_25, i_26, i_27, i_28, i_29, i_30, i_31, i_32, i_33, i_34, i_35, i_36, i_37, i_38, i_39, i_40, i_41, i_42, i_43, i_44, i_45, i_46, i_47, i_48, i_49]))), (a_8, .inl (cy 1, 90, .inl f_0)), (a_11, .inl (cy 1, 30, .inl f_1)), (a_12, .inl (cy 1, 240, .inl f_2)), (a_13, .inl (cy 1, 450, .inl f_3)), (a_15, .inl (cy 1, 7200, .inl f_4)), (a_16, .inl (cy 1, 3, .inl f_5)), (a_18, .inl (cy 1, 8, .inl z16_8_319))] → va_S A s.heap H locs → ∀ (ls : Array Slot), lv_has ls 7 [(5, .int x16_5_314), (4, .int x16_4_315), (0, .ref a_0), (1, .int i_0), (2, .int i_1), (3, .int i_2)] → W p l e R s m args below meth c H locs 0 0 Q (F0 m 16 ls []) := by
      intro n
      induction n with
      | zero => intro x16_5_314 x16_4_315 y16_0_29_316 y16_0_30_317 y16_0_31_318 z16_8_319 rx16_5_314 rx16_4_315 ry16_0_29_316 rz16_8_319 hm; exact absurd hm (Nat.not_lt_zero _)
      | succ n ih16 =>
        intro x16_5_314 x16_4_315 y16_0_29_316 y16_0_30_317 y16_0_31_318 z16_8_319 rx16_5_314 rx16_4_315 ry16_0_29_316 rz16_8_319 hm16 H locs hP hD hS ls hl
        refine lv_iload hx hb dX12_heirsOf_16 (lv_at hl 0 rfl) ?_
        refine lv_aload_n hx hb dX12_heirsOf_18 rfl (lv_at hl 2 rfl) ?_
        refine mm_finir (va_runV (As := []) (rest := [.int x16_5_314]) ⟨hx, hb, hml, hown, hts⟩ (M95_X12_texts l G cy H.size a_0 i_3 a_1 a_2 a_3 a_4 a_5 i_4 i_5 i_6 i_7 i_8 j_0 i_9 i_10 i_11 i_12 a_6 a_7 a_8 a_9 a_10 a_11 a_12 a_13 a_14 a_15 a_16 a_17 a_18 y16_0_29_316 y16_0_30_317 y16_0_31_318 i_16 i_17 i_18 a_19 i_19 a_20 i_20 i_21 i_22 i_23 i_24 i_25 i_26 i_27 i_28 i_29 i_30 i_31 i_32 i_33 i_34 i_35 i_36 i_37 i_38 i_39 i_40 i_41 i_42 i_43 i_44 i_45 i_46 i_47 i_48 i_49 h4 h5 h6 h7 h8 h9 h10 h11 h12 h13 h14 h15 h16 h17 h18 h19 h20 h21 h22 h23 h24 h25 h26 h27 h28 h29 h30 h31 h32 h33) (cwV 0 hts (mm_gV mm_w617 mm_w618 mm_w619 mm_w5 mm_w620) rfl rfl rfl hd_X12_texts ⟨by rw [hRf]; exact Nat.le_of_ble_eq_true rfl, by rw [hRl]; exact Nat.le_of_ble_eq_true rfl⟩) (mm_preV hK hZ hS hA hP hD [0, 1] rfl rfl 0 rfl rfl rfl) rfl rfl hl.1 rfl (lv_room (Nat.le_of_ble_eq_true rfl)) dX12_heirsOf_19 ⟨by rw [hRc]; exact Nat.le_of_ble_eq_true rfl, by rw [hRs]; exact Nat.le_of_ble_eq_true rfl⟩) hP hD hS hA [0, 1] rfl (fun _ => rfl) ?_
        clear hP hD hS
        clear H locs
        intro v321 _u H locs hw hP hD hS
        subst hw
        refine lv_icmp_ge (tgt := 86) hx hb dX12_heirsOf_22 (by decide) (fun c322 => ?_) (fun c322 => ?_)
        · refine lv_iload hx hb dX12_heirsOf_86 (lv_at hl 1 rfl) ?_
          subst hAe
          rw [hQ]
          exact W.iret (v := x16_4_315) hx hb hr (fun t ht hW => ⟨⟨x16_4_315, (y16_0_29_316, y16_0_30_317, y16_0_31_318, z16_8_319), rfl, ⟨ry16_0_29_316, rz16_8_319, rx16_4_315⟩, by rw [ht]; exact hP, hK.warm hW, hD⟩, hS.F ht⟩) hS.2.2 dX12_heirsOf_88
        · have q323 := mm_ltL (h := 5) (mm_nle c322) rx16_5_314 h8 (by decide)
          have q324 := mm_ltR (lo := 1) (mm_nle c322) rx16_5_314 h8 (by decide)
          refine lv_iload_n hx hb dX12_heirsOf_25 rfl (lv_at hl 5 rfl) ?_
          refine lv_iload hx hb dX12_heirsOf_26 (lv_at hl 0 rfl) ?_
          refine mm_finir (va_runS (As := [.int i_2, .int x16_5_314]) (rest := []) ⟨hx, hb, hml, hown, hts⟩ (M232_X12_isBit l G cy H.size i_2 x16_5_314 (mm_wk q2 (by decide)) q323) (va_cwS 2 hts (mm_gS mm_w1461 mm_w1462 mm_w5 mm_w1463) rfl rfl rfl hs_X12_isBit ⟨by rw [hRf]; exact Nat.le_of_ble_eq_true rfl, by rw [hRl]; exact Nat.le_of_ble_eq_true rfl⟩) (mm_preS hK hZ hS hA hP hD [] rfl rfl) rfl rfl hl.1 rfl (lv_room (Nat.le_of_ble_eq_true rfl)) dX12_heirsOf_28 ⟨by rw [hRc]; exact Nat.le_of_ble_eq_true rfl, by rw [hRs]; exact Nat.le_of_ble_eq_true rfl⟩) hP hD hS hA [] rfl (fun _ => rfl) ?_
          clear hP hD hS
          clear H locs
          intro v325 _u H locs hw hP hD hS
          rcases hw with ⟨rfl, w326⟩ | ⟨rfl, w327⟩
          · refine lv_if_ne (tgt := 37) hx hb dX12_heirsOf_31 (by decide) (fun c328 => ?_) (fun c328 => ?_)
            · have q329 := mm_neL (lo := 1) (mm_ne c328) mm_k0 mm_k0 (by decide) (by decide)
              exact mm_no q329 (by decide)
            · refine lv_goto (tgt := 80) hx hb dX12_heirsOf_34 (by decide) ?_
              obtain ⟨v330, ev330⟩ : ∃ y : Int32, y = x16_5_314 + 1 := ⟨_, rfl⟩
              refine lv_iinc (v := v330) (lv' := [(5, .int v330), (4, .int x16_4_315), (0, .ref a_0), (1, .int i_0), (2, .int i_1), (3, .int i_2)]) hx hb dX12_heirsOf_80 hl (k := 0) rfl (by rw [ev330]; rfl) (by decide) rfl ?_
              clear hl
              clear ls
              intro ls hl
              have rv330 : mm_rg v330 1 6 := mm_add ev330 q323 mm_k1 (by decide) (by decide)
              have tv330 := mm_addEc ev330 q323 mm_k1 (by decide) (k := 1) (by decide)
              refine lv_goto (tgt := 16) hx hb dX12_heirsOf_83 (by decide) ?_
              exact ih16 v330 x16_4_315 y16_0_29_316 y16_0_30_317 y16_0_31_318 z16_8_319 (mm_wk rv330 (by decide)) rx16_4_315 ry16_0_29_316 rz16_8_319 (mm_mu hm16 tv330 (by decide) (rv330).2 (by decide)) H locs hP hD hS ls (lv_sub hl [0, 1, 2, 3, 4, 5] rfl)
          · refine lv_if_ne (tgt := 37) hx hb dX12_heirsOf_31 (by decide) (fun c331 => ?_) (fun c331 => ?_)
            · refine lv_aload_n hx hb dX12_heirsOf_37 rfl (lv_at hl 2 rfl) ?_
              refine lv_iload_n hx hb dX12_heirsOf_38 rfl (lv_at hl 3 rfl) ?_
              refine lv_iload_n hx hb dX12_heirsOf_39 rfl (lv_at hl 4 rfl) ?_
              refine lv_iload hx hb dX12_heirsOf_40 (lv_at hl 0 rfl) ?_
              refine mm_fini (va_runV (As := [.int i_0, .int i_1, .int x16_5_314]) (rest := []) ⟨hx, hb, hml, hown, hts⟩ (M141_X12_reads l G cy H.size a_0 i_0 i_1 x16_5_314 i_3 a_1 a_2 a_3 a_4 a_5 i_4 i_5 i_6 i_7 i_8 j_0 i_9 i_10 i_11 i_12 a_6 a_7 a_8 a_9 a_10 a_11 a_12 a_13 a_14 a_15 a_16 a_17 a_18 y16_0_29_316 y16_0_30_317 y16_0_31_318 i_16 i_17 i_18 a_19 i_19 a_20 i_20 i_21 i_22 i_23 i_24 i_25 i_26 i_27 i_28 i_29 i_30 i_31 i_32 i_33 i_34 i_35 i_36 i_37 i_38 i_39 i_40 i_41 i_42 i_43 i_44 i_45 i_46 i_47 i_48 i_49 f_0 f_1 f_2 f_3 f_4 f_5 z16_8_319 h0 (mm_wk h1 (by decide)) q323 ry16_0_29_316 h4 h5 h6 h7 (mm_wk q324 (by decide)) h9 h10 h11 h12 h13 h14 h15 h16 h17 h18 h19 h20 h21 h22 h23 h24 h25 h26 h27 h28 h29 h30 h31 h32 h33 h34 h35 h36 h37 h38 h39 rz16_8_319 h41 h42 h43 h44 h45 h46 h47 h48 h49) (cwV 3 hts (mm_gV mm_w852 mm_w853 mm_w854 mm_w5 mm_w855) rfl rfl rfl hd_X12_reads ⟨by rw [hRf]; exact Nat.le_of_ble_eq_true rfl, by rw [hRl]; exact Nat.le_of_ble_eq_true rfl⟩) (mm_preV hK hZ hS hA hP hD [0, 1, 2, 3, 4, 5, 6, 7, 8] rfl rfl 0 rfl rfl rfl) rfl rfl hl.1 rfl (lv_room (Nat.le_of_ble_eq_true rfl)) dX12_heirsOf_42 ⟨by rw [hRc]; exact Nat.le_of_ble_eq_true rfl, by rw [hRs]; exact Nat.le_of_ble_eq_true rfl⟩) hP hD hS hA (fun u : Int32 × Int32 × Int32 × (Nat → Int32) => [(a_0, .inr (12, [.int i_3, .ref a_1, .ref a_2, .ref a_3, .ref a_4, .ref a_5, .int i_4, .int i_5, .int i_6, .int i_7, .int i_8, .long j_0, .int i_9, .int i_10, .int i_11, .int i_12, .ref a_6, .ref a_7, .ref a_8, .ref a_9, .ref a_10, .ref a_11, .ref a_12, .ref a_13, .ref a_14, .ref a_15, .ref a_16, .ref a_17, .ref a_18, .int u.1, .int u.2.1, .int u.2.2.1, .int i_16, .int i_17, .int i_18, .ref a_19, .int i_19, .ref a_20])), (a_7, .inl (cy 1, 30, .inl (mm_g [i_20, i_21, i_22, i_23, i_24, i_25, i_26, i_27, i_28, i_29, i_30, i_31, i_32, i_33, i_34, i_35, i_36, i_37, i_38, i_39, i_40, i_41, i_42, i_43, i_44, i_45, i_46, i_47, i_48, i_49]))), (a_8, .inl (cy 1, 90, .inl f_0)), (a_11, .inl (cy 1, 30, .inl f_1)), (a_12, .inl (cy 1, 240, .inl f_2)), (a_13, .inl (cy 1, 450, .inl f_3)), (a_15, .inl (cy 1, 7200, .inl f_4)), (a_16, .inl (cy 1, 3, .inl f_5)), (a_18, .inl (cy 1, 8, .inl u.2.2.2))]) [0, 1, 2, 3, 4, 5, 6, 7, 8] [] (n := 9) (fun _ => rfl) (by decide +kernel) (by decide +kernel) rfl (fun _ => rfl) (wr := []) rfl (fun _ => rfl) (fun _ => @rfl _ ([a_0, a_7, a_8, a_11, a_12, a_13, a_15, a_16, a_18] : List Nat)) ?_
              clear hP hD hS
              clear H locs
              intro v336 u
              obtain ⟨n332, n333, n334, n335⟩ := u
              intro H locs hw (hP : va_P G vwCl [(a_0, .inr (12, [.int i_3, .ref a_1, .ref a_2, .ref a_3, .ref a_4, .ref a_5, .int i_4, .int i_5, .int i_6, .int i_7, .int i_8, .long j_0, .int i_9, .int i_10, .int i_11, .int i_12, .ref a_6, .ref a_7, .ref a_8, .ref a_9, .ref a_10, .ref a_11, .ref a_12, .ref a_13, .ref a_14, .ref a_15, .ref a_16, .ref a_17, .ref a_18, .int n332, .int n333, .int n334, .int i_16, .int i_17, .int i_18, .ref a_19, .int i_19, .ref a_20])), (a_7, .inl (cy 1, 30, .inl (mm_g [i_20, i_21, i_22, i_23, i_24, i_25, i_26, i_27, i_28, i_29, i_30, i_31, i_32, i_33, i_34, i_35, i_36, i_37, i_38, i_39, i_40, i_41, i_42, i_43, i_44, i_45, i_46, i_47, i_48, i_49]))), (a_8, .inl (cy 1, 90, .inl f_0)), (a_11, .inl (cy 1, 30, .inl f_1)), (a_12, .inl (cy 1, 240, .inl f_2)), (a_13, .inl (cy 1, 450, .inl f_3)), (a_15, .inl (cy 1, 7200, .inl f_4)), (a_16, .inl (cy 1, 3, .inl f_5)), (a_18, .inl (cy 1, 8, .inl n335))] H) (hD : va_D A [(a_0, .inr (12, [.int i_3, .ref a_1, .ref a_2, .ref a_3, .ref a_4, .ref a_5, .int i_4, .int i_5, .int i_6, .int i_7, .int i_8, .long j_0, .int i_9, .int i_10, .int i_11, .int i_12, .ref a_6, .ref a_7, .ref a_8, .ref a_9, .ref a_10, .ref a_11, .ref a_12, .ref a_13, .ref a_14, .ref a_15, .ref a_16, .ref a_17, .ref a_18, .int n332, .int n333, .int n334, .int i_16, .int i_17, .int i_18, .ref a_19, .int i_19, .ref a_20])), (a_7, .inl (cy 1, 30, .inl (mm_g [i_20, i_21, i_22, i_23, i_24, i_25, i_26, i_27, i_28, i_29, i_30, i_31, i_32, i_33, i_34, i_35, i_36, i_37, i_38, i_39, i_40, i_41, i_42, i_43, i_44, i_45, i_46, i_47, i_48, i_49]))), (a_8, .inl (cy 1, 90, .inl f_0)), (a_11, .inl (cy 1, 30, .inl f_1)), (a_12, .inl (cy 1, 240, .inl f_2)), (a_13, .inl (cy 1, 450, .inl f_3)), (a_15, .inl (cy 1, 7200, .inl f_4)), (a_16, .inl (cy 1, 3, .inl f_5)), (a_18, .inl (cy 1, 8, .inl n335))]) hS
              obtain ⟨w337, w338, hw⟩ := hw
              obtain ⟨w339, w340⟩ := hw
              replace w340 : mm_rd f_4 f_5 f_0 f_1 f_2 f_3 i_0 i_1 x16_5_314 i_21 i_22 i_25 v336 := w340
              refine lv_aload_n hx hb dX12_heirsOf_45 rfl (lv_at hl 2 rfl) ?_
              refine lv_iload_n hx hb dX12_heirsOf_46 rfl (lv_at hl 3 rfl) ?_
              refine lv_iload_n hx hb dX12_heirsOf_47 rfl (lv_at hl 4 rfl) ?_
              refine lv_iconst (v := 1) hx hb dX12_heirsOf_48 (by decide) ?_
              refine lv_iadd hx hb dX12_heirsOf_49 ?_
              refine lv_topi (fun v341 ev341 => ?_)
              have rv341 : mm_rg v341 1 1000000002 := mm_add ev341 h1 mm_k1 (by decide) (by decide)
              have tv341 := mm_addEc ev341 h1 mm_k1 (by decide) (k := 1) (by decide)
              refine lv_iload_n hx hb dX12_heirsOf_50 rfl (lv_at hl 5 rfl) ?_
              refine lv_iconst (v := 1) hx hb dX12_heirsOf_51 (by decide) ?_
              refine lv_iload hx hb dX12_heirsOf_52 (lv_at hl 0 rfl) ?_
              refine lv_ishl hx hb dX12_heirsOf_54 ?_
              refine lv_topi (fun v342 ev342 => ?_)
              have rv342 : mm_rg v342 1 32 := mm_shl1 ev342 q323 (by decide)
              refine lv_iconst (v := (-1)) hx hb dX12_heirsOf_55 (by decide) ?_
              refine lv_ixor hx hb dX12_heirsOf_56 ?_
              refine lv_topi (fun v343 ev343 => ?_)
              refine lv_iand hx hb dX12_heirsOf_57 ?_
              refine lv_topi (fun v344 ev344 => ?_)
              have rv344 : mm_rg v344 0 63 := mm_andL ev344 q2 (by decide)
              refine mm_fini (va_runV (As := [.int i_0, .int v341, .int v344]) (rest := [.int v336]) ⟨hx, hb, hml, hown, hts⟩ (M238_X12_heirsOf l G cy H.size a_0 i_0 v341 v344 i_3 a_1 a_2 a_3 a_4 a_5 i_4 i_5 i_6 i_7 i_8 j_0 i_9 i_10 i_11 i_12 a_6 a_7 a_8 a_9 a_10 a_11 a_12 a_13 a_14 a_15 a_16 a_17 a_18 n332 n333 n334 i_16 i_17 i_18 a_19 i_19 a_20 i_20 i_21 i_22 i_23 i_24 i_25 i_26 i_27 i_28 i_29 i_30 i_31 i_32 i_33 i_34 i_35 i_36 i_37 i_38 i_39 i_40 i_41 i_42 i_43 i_44 i_45 i_46 i_47 i_48 i_49 f_0 f_1 f_2 f_3 f_4 f_5 n335 h0 (mm_wk rv341 (by decide)) rv344 w337 h4 h5 h6 h7 (mm_wk q324 (by decide)) h9 h10 h11 h12 h13 h14 h15 h16 h17 h18 h19 h20 h21 h22 h23 h24 h25 h26 h27 h28 h29 h30 h31 h32 h33 h34 h35 h36 h37 h38 h39 w338 h41 h42 h43 h44 h45 h46 h47 h48 h49 (mm_pc_cut h50 w327 ev342 ev343 ev344 q2 q323 (by decide))) (cwV 3 hts (mm_gV mm_w1456 mm_w1457 mm_w1458 mm_w5 mm_w1459) rfl rfl rfl hd_X12_heirsOf ⟨by rw [hRf]; exact Nat.le_of_ble_eq_true rfl, by rw [hRl]; exact Nat.le_of_ble_eq_true rfl⟩) (mm_preV hK hZ hS hA hP hD [0, 1, 2, 3, 4, 5, 6, 7, 8] rfl rfl 0 rfl rfl rfl) rfl rfl hl.1 rfl (lv_room (Nat.le_of_ble_eq_true rfl)) dX12_heirsOf_58 ⟨by rw [hRc]; exact Nat.le_of_ble_eq_true rfl, by rw [hRs]; exact Nat.le_of_ble_eq_true rfl⟩) hP hD hS hA (fun u : Int32 × Int32 × Int32 × (Nat → Int32) => [(a_0, .inr (12, [.int i_3, .ref a_1, .ref a_2, .ref a_3, .ref a_4, .ref a_5, .int i_4, .int i_5, .int i_6, .int i_7, .int i_8, .long j_0, .int i_9, .int i_10, .int i_11, .int i_12, .ref a_6, .ref a_7, .ref a_8, .ref a_9, .ref a_10, .ref a_11, .ref a_12, .ref a_13, .ref a_14, .ref a_15, .ref a_16, .ref a_17, .ref a_18, .int u.1, .int u.2.1, .int u.2.2.1, .int i_16, .int i_17, .int i_18, .ref a_19, .int i_19, .ref a_20])), (a_7, .inl (cy 1, 30, .inl (mm_g [i_20, i_21, i_22, i_23, i_24, i_25, i_26, i_27, i_28, i_29, i_30, i_31, i_32, i_33, i_34, i_35, i_36, i_37, i_38, i_39, i_40, i_41, i_42, i_43, i_44, i_45, i_46, i_47, i_48, i_49]))), (a_8, .inl (cy 1, 90, .inl f_0)), (a_11, .inl (cy 1, 30, .inl f_1)), (a_12, .inl (cy 1, 240, .inl f_2)), (a_13, .inl (cy 1, 450, .inl f_3)), (a_15, .inl (cy 1, 7200, .inl f_4)), (a_16, .inl (cy 1, 3, .inl f_5)), (a_18, .inl (cy 1, 8, .inl u.2.2.2))]) [0, 1, 2, 3, 4, 5, 6, 7, 8] [] (n := 9) (fun _ => rfl) (by decide +kernel) (by decide +kernel) rfl (fun _ => rfl) (wr := []) rfl (fun _ => rfl) (fun _ => @rfl _ ([a_0, a_7, a_8, a_11, a_12, a_13, a_15, a_16, a_18] : List Nat)) ?_
              clear hP hD hS
              clear H locs
              intro v349 u
              obtain ⟨n345, n346, n347, n348⟩ := u
              intro H locs hw (hP : va_P G vwCl [(a_0, .inr (12, [.int i_3, .ref a_1, .ref a_2, .ref a_3, .ref a_4, .ref a_5, .int i_4, .int i_5, .int i_6, .int i_7, .int i_8, .long j_0, .int i_9, .int i_10, .int i_11, .int i_12, .ref a_6, .ref a_7, .ref a_8, .ref a_9, .ref a_10, .ref a_11, .ref a_12, .ref a_13, .ref a_14, .ref a_15, .ref a_16, .ref a_17, .ref a_18, .int n345, .int n346, .int n347, .int i_16, .int i_17, .int i_18, .ref a_19, .int i_19, .ref a_20])), (a_7, .inl (cy 1, 30, .inl (mm_g [i_20, i_21, i_22, i_23, i_24, i_25, i_26, i_27, i_28, i_29, i_30, i_31, i_32, i_33, i_34, i_35, i_36, i_37, i_38, i_39, i_40, i_41, i_42, i_43, i_44, i_45, i_46, i_47, i_48, i_49]))), (a_8, .inl (cy 1, 90, .inl f_0)), (a_11, .inl (cy 1, 30, .inl f_1)), (a_12, .inl (cy 1, 240, .inl f_2)), (a_13, .inl (cy 1, 450, .inl f_3)), (a_15, .inl (cy 1, 7200, .inl f_4)), (a_16, .inl (cy 1, 3, .inl f_5)), (a_18, .inl (cy 1, 8, .inl n348))] H) (hD : va_D A [(a_0, .inr (12, [.int i_3, .ref a_1, .ref a_2, .ref a_3, .ref a_4, .ref a_5, .int i_4, .int i_5, .int i_6, .int i_7, .int i_8, .long j_0, .int i_9, .int i_10, .int i_11, .int i_12, .ref a_6, .ref a_7, .ref a_8, .ref a_9, .ref a_10, .ref a_11, .ref a_12, .ref a_13, .ref a_14, .ref a_15, .ref a_16, .ref a_17, .ref a_18, .int n345, .int n346, .int n347, .int i_16, .int i_17, .int i_18, .ref a_19, .int i_19, .ref a_20])), (a_7, .inl (cy 1, 30, .inl (mm_g [i_20, i_21, i_22, i_23, i_24, i_25, i_26, i_27, i_28, i_29, i_30, i_31, i_32, i_33, i_34, i_35, i_36, i_37, i_38, i_39, i_40, i_41, i_42, i_43, i_44, i_45, i_46, i_47, i_48, i_49]))), (a_8, .inl (cy 1, 90, .inl f_0)), (a_11, .inl (cy 1, 30, .inl f_1)), (a_12, .inl (cy 1, 240, .inl f_2)), (a_13, .inl (cy 1, 450, .inl f_3)), (a_15, .inl (cy 1, 7200, .inl f_4)), (a_16, .inl (cy 1, 3, .inl f_5)), (a_18, .inl (cy 1, 8, .inl n348))]) hS
              obtain ⟨w350, w351, hw⟩ := hw
              have w352 := hw
              refine lv_isub hx hb dX12_heirsOf_61 ?_
              refine lv_topi (fun v353 ev353 => ?_)
              have rv353 : mm_rg v353 (-1009999) 1009999 := mm_sub ev353 w339 w352 (by decide) (by decide)
              have tv353 := mm_subE ev353 w339 w352 (by decide)
              refine lv_istore (lv' := [(6, .int v353), (5, .int x16_5_314), (4, .int x16_4_315), (0, .ref a_0), (1, .int i_0), (2, .int i_1), (3, .int i_2)]) hx hb dX12_heirsOf_62 hl (by decide) rfl ?_
              clear hl
              clear ls
              intro ls hl
              refine lv_iload hx hb dX12_heirsOf_64 (lv_at hl 0 rfl) ?_
              refine lv_iload hx hb dX12_heirsOf_66 (lv_at hl 2 rfl) ?_
              refine lv_icmp_le (tgt := 76) hx hb dX12_heirsOf_68 (by decide) (fun c354 => ?_) (fun c354 => ?_)
              · refine lv_iload hx hb dX12_heirsOf_76 (lv_at hl 2 rfl) ?_
                refine lv_istore (lv' := [(4, .int x16_4_315), (6, .int v353), (5, .int x16_5_314), (0, .ref a_0), (1, .int i_0), (2, .int i_1), (3, .int i_2)]) hx hb dX12_heirsOf_78 hl (by decide) rfl ?_
                clear hl
                clear ls
                intro ls hl
                obtain ⟨v355, ev355⟩ : ∃ y : Int32, y = x16_5_314 + 1 := ⟨_, rfl⟩
                refine lv_iinc (v := v355) (lv' := [(5, .int v355), (4, .int x16_4_315), (6, .int v353), (0, .ref a_0), (1, .int i_0), (2, .int i_1), (3, .int i_2)]) hx hb dX12_heirsOf_80 hl (k := 2) rfl (by rw [ev355]; rfl) (by decide) rfl ?_
                clear hl
                clear ls
                intro ls hl
                have rv355 : mm_rg v355 1 6 := mm_add ev355 q323 mm_k1 (by decide) (by decide)
                have tv355 := mm_addEc ev355 q323 mm_k1 (by decide) (k := 1) (by decide)
                refine lv_goto (tgt := 16) hx hb dX12_heirsOf_83 (by decide) ?_
                exact ih16 v355 x16_4_315 n345 n346 n347 n348 (mm_wk rv355 (by decide)) rx16_4_315 w350 w351 (mm_mu hm16 tv355 (by decide) (rv355).2 (by decide)) H locs hP hD hS ls (lv_sub hl [0, 1, 3, 4, 5, 6] rfl)
              · have q356 := mm_ltL (h := 1009998) (mm_nle c354) rx16_4_315 rv353 (by decide)
                have q357 := mm_ltR (lo := (-999999)) (mm_nle c354) rx16_4_315 rv353 (by decide)
                have q358 : mm_rg v349 (-1000000) 1009998 := mm_unsubY tv353 q357 w339 w352 (by decide)
                refine lv_iload hx hb dX12_heirsOf_71 (lv_at hl 0 rfl) ?_
                refine lv_goto (tgt := 78) hx hb dX12_heirsOf_73 (by decide) ?_
                refine lv_istore (lv' := [(4, .int v353), (6, .int v353), (5, .int x16_5_314), (0, .ref a_0), (1, .int i_0), (2, .int i_1), (3, .int i_2)]) hx hb dX12_heirsOf_78 hl (by decide) rfl ?_
                clear hl
                clear ls
                intro ls hl
                obtain ⟨v359, ev359⟩ : ∃ y : Int32, y = x16_5_314 + 1 := ⟨_, rfl⟩
                refine lv_iinc (v := v359) (lv' := [(5, .int v359), (4, .int v353), (6, .int v353), (0, .ref a_0), (1, .int i_0), (2, .int i_1), (3, .int i_2)]) hx hb dX12_heirsOf_80 hl (k := 2) rfl (by rw [ev359]; rfl) (by decide) rfl ?_
                clear hl
                clear ls
                intro ls hl
                have rv359 : mm_rg v359 1 6 := mm_add ev359 q323 mm_k1 (by decide) (by decide)
                have tv359 := mm_addEc ev359 q323 mm_k1 (by decide) (k := 1) (by decide)
                refine lv_goto (tgt := 16) hx hb dX12_heirsOf_83 (by decide) ?_
                exact ih16 v359 v353 n345 n346 n347 n348 (mm_wk rv359 (by decide)) (mm_wk q357 (by decide)) w350 w351 (mm_mu hm16 tv359 (by decide) (rv359).2 (by decide)) H locs hP hD hS ls (lv_sub hl [0, 1, 3, 4, 5, 6] rfl)
            · exact mm_eqN c331.symm mm_k0 mm_k1 (by decide)
    exact L16_319 _ 0 (-1000000) i_13 i_14 i_15 f_6 (mm_wk mm_k0 (by decide)) (mm_wk mm_km1000000 (by decide)) h3 h40 (Nat.lt_succ_self _) H locs hP hD hS ls (lv_sub hl [0, 1, 2, 3, 4, 5] rfl)
  · have q360 := mm_eqI (lo := 0) (hi := 0) c1 h2 mm_k0 (by decide)
    refine lv_iconst (v := 0) hx hb dX12_heirsOf_4 (by decide) ?_
    refine lv_goto (tgt := 11) hx hb dX12_heirsOf_5 (by decide) ?_
    refine lv_istore (lv' := [(4, .int 0), (0, .ref a_0), (1, .int i_0), (2, .int i_1), (3, .int i_2)]) hx hb dX12_heirsOf_11 hl (by decide) rfl ?_
    clear hl
    clear ls
    intro ls hl
    refine lv_iconst (v := 0) hx hb dX12_heirsOf_13 (by decide) ?_
    refine lv_istore (lv' := [(5, .int 0), (4, .int 0), (0, .ref a_0), (1, .int i_0), (2, .int i_1), (3, .int i_2)]) hx hb dX12_heirsOf_14 hl (by decide) rfl ?_
    clear hl
    clear ls
    intro ls hl
    have L16_440 : ∀ (n : Nat) (x16_5_440 : Int32), mm_rg x16_5_440 0 6 → (6 - x16_5_440.toInt).toNat < n → ∀ (H : Heap) (locs : List Loc), va_P G vwCl [(a_0, .inr (12, [.int i_3, .ref a_1, .ref a_2, .ref a_3, .ref a_4, .ref a_5, .int i_4, .int i_5, .int i_6, .int i_7, .int i_8, .long j_0, .int i_9, .int i_10, .int i_11, .int i_12, .ref a_6, .ref a_7, .ref a_8, .ref a_9, .ref a_10, .ref a_11, .ref a_12, .ref a_13, .ref a_14, .ref a_15, .ref a_16, .ref a_17, .ref a_18, .int i_13, .int i_14, .int i_15, .int i_16, .int i_17, .int i_18, .ref a_19, .int i_19, .ref a_20])), (a_7, .inl (cy 1, 30, .inl (mm_g [i_20, i_21, i_22, i_23, i_24, i_25, i_26, i_27, i_28, i_29, i_30, i_31, i_32, i_33, i_34, i_35, i_36, i_37, i_38, i_39, i_40, i_41, i_42, i_43, i_44, i_45, i_46, i_47, i_48, i_49]))), (a_8, .inl (cy 1, 90, .inl f_0)), (a_11, .inl (cy 1, 30, .inl f_1)), (a_12, .inl (cy 1, 240, .inl f_2)), (a_13, .inl (cy 1, 450, .inl f_3)), (a_15, .inl (cy 1, 7200, .inl f_4)), (a_16, .inl (cy 1, 3, .inl f_5)), (a_18, .inl (cy 1, 8, .inl f_6))] H → va_D A [(a_0, .inr (12, [.int i_3, .ref a_1, .ref a_2, .ref a_3, .ref a_4, .ref a_5, .int i_4, .int i_5, .int i_6, .int i_7, .int i_8, .long j_0, .int i_9, .int i_10, .int i_11, .int i_12, .ref a_6, .ref a_7, .ref a_8, .ref a_9, .ref a_10, .ref a_11, .ref a_12, .ref a_13, .ref a_14, .ref a_15, .ref a_16, .ref a_17, .ref a_18, .int i_13, .int i_14, .int i_15, .int i_16, .int i_17, .int i_18, .ref a_19, .int i_19, .ref a_20])), (a_7, .inl (cy 1, 30, .inl (mm_g [i_20, i_21, i_22, i_23, i_24, i_25, i_26, i_27, i_28, i_29, i_30, i_31, i_32, i_33, i_34, i_35, i_36, i_37, i_38, i_39, i_40, i_41, i_42, i_43, i_44, i_45, i_46, i_47, i_48, i_49]))), (a_8, .inl (cy 1, 90, .inl f_0)), (a_11, .inl (cy 1, 30, .inl f_1)), (a_12, .inl (cy 1, 240, .inl f_2)), (a_13, .inl (cy 1, 450, .inl f_3)), (a_15, .inl (cy 1, 7200, .inl f_4)), (a_16, .inl (cy 1, 3, .inl f_5)), (a_18, .inl (cy 1, 8, .inl f_6))] → va_S A s.heap H locs → ∀ (ls : Array Slot), lv_has ls 7 [(5, .int x16_5_440), (4, .int 0), (0, .ref a_0), (1, .int i_0), (2, .int i_1), (3, .int i_2)] → W p l e R s m args below meth c H locs 0 0 Q (F0 m 16 ls []) := by
      intro n
      induction n with
      | zero => intro x16_5_440 rx16_5_440 hm; exact absurd hm (Nat.not_lt_zero _)
      | succ n ih16 =>
        intro x16_5_440 rx16_5_440 hm16 H locs hP hD hS ls hl
        refine lv_iload hx hb dX12_heirsOf_16 (lv_at hl 0 rfl) ?_
        refine lv_aload_n hx hb dX12_heirsOf_18 rfl (lv_at hl 2 rfl) ?_
        refine mm_finir (va_runV (As := []) (rest := [.int x16_5_440]) ⟨hx, hb, hml, hown, hts⟩ (M95_X12_texts l G cy H.size a_0 i_3 a_1 a_2 a_3 a_4 a_5 i_4 i_5 i_6 i_7 i_8 j_0 i_9 i_10 i_11 i_12 a_6 a_7 a_8 a_9 a_10 a_11 a_12 a_13 a_14 a_15 a_16 a_17 a_18 i_13 i_14 i_15 i_16 i_17 i_18 a_19 i_19 a_20 i_20 i_21 i_22 i_23 i_24 i_25 i_26 i_27 i_28 i_29 i_30 i_31 i_32 i_33 i_34 i_35 i_36 i_37 i_38 i_39 i_40 i_41 i_42 i_43 i_44 i_45 i_46 i_47 i_48 i_49 h4 h5 h6 h7 h8 h9 h10 h11 h12 h13 h14 h15 h16 h17 h18 h19 h20 h21 h22 h23 h24 h25 h26 h27 h28 h29 h30 h31 h32 h33) (cwV 0 hts (mm_gV mm_w617 mm_w618 mm_w619 mm_w5 mm_w620) rfl rfl rfl hd_X12_texts ⟨by rw [hRf]; exact Nat.le_of_ble_eq_true rfl, by rw [hRl]; exact Nat.le_of_ble_eq_true rfl⟩) (mm_preV hK hZ hS hA hP hD [0, 1] rfl rfl 0 rfl rfl rfl) rfl rfl hl.1 rfl (lv_room (Nat.le_of_ble_eq_true rfl)) dX12_heirsOf_19 ⟨by rw [hRc]; exact Nat.le_of_ble_eq_true rfl, by rw [hRs]; exact Nat.le_of_ble_eq_true rfl⟩) hP hD hS hA [0, 1] rfl (fun _ => rfl) ?_
        clear hP hD hS
        clear H locs
        intro v442 _u H locs hw hP hD hS
        subst hw
        refine lv_icmp_ge (tgt := 86) hx hb dX12_heirsOf_22 (by decide) (fun c443 => ?_) (fun c443 => ?_)
        · refine lv_iload hx hb dX12_heirsOf_86 (lv_at hl 1 rfl) ?_
          subst hAe
          rw [hQ]
          exact W.iret (v := 0) hx hb hr (fun t ht hW => ⟨⟨0, (i_13, i_14, i_15, f_6), rfl, ⟨h3, h40, (mm_wk mm_k0 (by decide))⟩, by rw [ht]; exact hP, hK.warm hW, hD⟩, hS.F ht⟩) hS.2.2 dX12_heirsOf_88
        · have q444 := mm_ltL (h := 5) (mm_nle c443) rx16_5_440 h8 (by decide)
          have q445 := mm_ltR (lo := 1) (mm_nle c443) rx16_5_440 h8 (by decide)
          refine lv_iload_n hx hb dX12_heirsOf_25 rfl (lv_at hl 5 rfl) ?_
          refine lv_iload hx hb dX12_heirsOf_26 (lv_at hl 0 rfl) ?_
          refine mm_finir (va_runS (As := [.int i_2, .int x16_5_440]) (rest := []) ⟨hx, hb, hml, hown, hts⟩ (M232_X12_isBit l G cy H.size i_2 x16_5_440 (mm_wk q360 (by decide)) q444) (va_cwS 2 hts (mm_gS mm_w1461 mm_w1462 mm_w5 mm_w1463) rfl rfl rfl hs_X12_isBit ⟨by rw [hRf]; exact Nat.le_of_ble_eq_true rfl, by rw [hRl]; exact Nat.le_of_ble_eq_true rfl⟩) (mm_preS hK hZ hS hA hP hD [] rfl rfl) rfl rfl hl.1 rfl (lv_room (Nat.le_of_ble_eq_true rfl)) dX12_heirsOf_28 ⟨by rw [hRc]; exact Nat.le_of_ble_eq_true rfl, by rw [hRs]; exact Nat.le_of_ble_eq_true rfl⟩) hP hD hS hA [] rfl (fun _ => rfl) ?_
          clear hP hD hS
          clear H locs
          intro v446 _u H locs hw hP hD hS
          rcases hw with ⟨rfl, w447⟩ | ⟨rfl, w448⟩
          · refine lv_if_ne (tgt := 37) hx hb dX12_heirsOf_31 (by decide) (fun c449 => ?_) (fun c449 => ?_)
            · have q450 := mm_neL (lo := 1) (mm_ne c449) mm_k0 mm_k0 (by decide) (by decide)
              exact mm_no q450 (by decide)
            · refine lv_goto (tgt := 80) hx hb dX12_heirsOf_34 (by decide) ?_
              obtain ⟨v451, ev451⟩ : ∃ y : Int32, y = x16_5_440 + 1 := ⟨_, rfl⟩
              refine lv_iinc (v := v451) (lv' := [(5, .int v451), (4, .int 0), (0, .ref a_0), (1, .int i_0), (2, .int i_1), (3, .int i_2)]) hx hb dX12_heirsOf_80 hl (k := 0) rfl (by rw [ev451]; rfl) (by decide) rfl ?_
              clear hl
              clear ls
              intro ls hl
              have rv451 : mm_rg v451 1 6 := mm_add ev451 q444 mm_k1 (by decide) (by decide)
              have tv451 := mm_addEc ev451 q444 mm_k1 (by decide) (k := 1) (by decide)
              refine lv_goto (tgt := 16) hx hb dX12_heirsOf_83 (by decide) ?_
              exact ih16 v451 (mm_wk rv451 (by decide)) (mm_mu hm16 tv451 (by decide) (rv451).2 (by decide)) H locs hP hD hS ls (lv_sub hl [0, 1, 2, 3, 4, 5] rfl)
          · exact mm_bit_no w448 q360 (by decide)
    exact L16_440 _ 0 (mm_wk mm_k0 (by decide)) (Nat.lt_succ_self _) H locs hP hD hS ls (lv_sub hl [0, 1, 2, 3, 4, 5] rfl)

set_option maxHeartbeats 4000000 in
set_option maxRecDepth 100000 in
theorem M240_X12_heirs (l : Launch) (G : va_G) (cy : Nat → ClassId) (sz : Nat) (a_0 : Nat) (i_0 : Int32) (i_1 : Int32) (i_2 : Int32) (a_1 : Nat) (a_2 : Nat) (a_3 : Nat) (a_4 : Nat) (a_5 : Nat) (i_3 : Int32) (i_4 : Int32) (i_5 : Int32) (i_6 : Int32) (i_7 : Int32) (j_0 : Int64) (i_8 : Int32) (i_9 : Int32) (i_10 : Int32) (i_11 : Int32) (a_6 : Nat) (a_7 : Nat) (a_8 : Nat) (a_9 : Nat) (a_10 : Nat) (a_11 : Nat) (a_12 : Nat) (a_13 : Nat) (a_14 : Nat) (a_15 : Nat) (a_16 : Nat) (a_17 : Nat) (a_18 : Nat) (i_12 : Int32) (i_13 : Int32) (i_14 : Int32) (i_15 : Int32) (i_16 : Int32) (i_17 : Int32) (a_19 : Nat) (i_18 : Int32) (a_20 : Nat) (i_19 : Int32) (i_20 : Int32) (i_21 : Int32) (i_22 : Int32) (i_23 : Int32) (i_24 : Int32) (i_25 : Int32) (i_26 : Int32) (i_27 : Int32) (i_28 : Int32) (i_29 : Int32) (i_30 : Int32) (i_31 : Int32) (i_32 : Int32) (i_33 : Int32) (i_34 : Int32) (i_35 : Int32) (i_36 : Int32) (i_37 : Int32) (i_38 : Int32) (i_39 : Int32) (i_40 : Int32) (i_41 : Int32) (i_42 : Int32) (i_43 : Int32) (i_44 : Int32) (i_45 : Int32) (i_46 : Int32) (i_47 : Int32) (i_48 : Int32) (i_49 : Int32) (i_50 : Int32) (i_51 : Int32) (i_52 : Int32) (i_53 : Int32) (f_0 : Nat → Int32) (f_1 : Nat → Int32) (f_2 : Nat → Int32) (f_3 : Nat → Int32) (f_4 : Nat → Int32) (f_5 : Nat → Int32) (f_6 : Nat → Int32) (f_7 : Nat → Int32) (f_8 : Nat → Int32) (f_9 : Nat → Int32) (h0 : mm_rg i_12 0 8) (h1 : mm_rg i_19 0 601) (h2 : mm_rg i_20 0 601) (h3 : mm_rg i_21 0 601) (h4 : mm_rg i_22 0 601) (h5 : mm_rg i_23 0 601) (h6 : mm_rg i_24 0 10) (h7 : mm_rg i_25 0 99) (h8 : mm_rg i_26 0 9) (h9 : mm_rg i_27 0 3) (h10 : mm_rg i_28 0 6) (h11 : mm_rg i_29 0 30) (h12 : mm_rg i_30 0 10) (h13 : mm_rg i_31 0 99) (h14 : mm_rg i_32 0 9) (h15 : mm_rg i_33 0 3) (h16 : mm_rg i_34 0 6) (h17 : mm_rg i_35 0 30) (h18 : mm_rg i_36 0 10) (h19 : mm_rg i_37 0 99) (h20 : mm_rg i_38 0 9) (h21 : mm_rg i_39 0 3) (h22 : mm_rg i_40 0 6) (h23 : mm_rg i_41 0 30) (h24 : mm_rg i_42 0 10) (h25 : mm_rg i_43 0 99) (h26 : mm_rg i_44 0 9) (h27 : mm_rg i_45 0 3) (h28 : mm_rg i_46 0 6) (h29 : mm_rg i_47 0 30) (h30 : mm_rg i_48 0 10) (h31 : mm_rg i_49 0 99) (h32 : mm_rg i_50 0 9) (h33 : mm_rg i_51 0 3) (h34 : mm_rg i_52 0 6) (h35 : mm_rg i_53 0 30) (h36 : mm_ar f_0 0 99) (h37 : mm_ar f_1 0 7) (h38 : mm_ar f_2 0 9) (h39 : mm_ar f_3 0 8) (h40 : mm_ar f_4 0 9) (h41 : mm_ar f_5 (-1) 99) (h42 : mm_ar f_6 0 9) (h43 : mm_ar f_7 0 210) (h44 : mm_ar f_8 0 210) (h45 : mm_ar f_9 0 9) (h46 : mm_rls f_1 f_2 0 i_26 i_27) (h47 : mm_txs f_3 f_4 0 i_26 i_28) (h48 : mm_acs f_5 0 i_26 i_27 i_29) (h49 : mm_tl i_19 i_27 i_28) (h50 : mm_rls f_1 f_2 1 i_32 i_33) (h51 : mm_txs f_3 f_4 1 i_32 i_34) (h52 : mm_acs f_5 1 i_32 i_33 i_35) (h53 : mm_tl i_20 i_33 i_34) (h54 : mm_rls f_1 f_2 2 i_38 i_39) (h55 : mm_txs f_3 f_4 2 i_38 i_40) (h56 : mm_acs f_5 2 i_38 i_39 i_41) (h57 : mm_tl i_21 i_39 i_40) (h58 : mm_rls f_1 f_2 3 i_44 i_45) (h59 : mm_txs f_3 f_4 3 i_44 i_46) (h60 : mm_acs f_5 3 i_44 i_45 i_47) (h61 : mm_tl i_22 i_45 i_46)  : mm_CI l yX12_heirs (mm_ws yX12_heirs cX12_heirs 3 (some .int)) ({ frames := 14, cells := 0, slots := 0, locals := 300 } : Room) G cy sz [(a_0, .inr (12, [.int i_2, .ref a_1, .ref a_2, .ref a_3, .ref a_4, .ref a_5, .int i_3, .int i_4, .int i_5, .int i_6, .int i_7, .long j_0, .int i_8, .int i_9, .int i_10, .int i_11, .ref a_6, .ref a_7, .ref a_8, .ref a_9, .ref a_10, .ref a_11, .ref a_12, .ref a_13, .ref a_14, .ref a_15, .ref a_16, .ref a_17, .ref a_18, .int i_12, .int i_13, .int i_14, .int i_15, .int i_16, .int i_17, .ref a_19, .int i_18, .ref a_20])), (a_6, .inl (cy 1, 5, .inl (mm_g [i_19, i_20, i_21, i_22, i_23]))), (a_7, .inl (cy 1, 30, .inl (mm_g [i_24, i_25, i_26, i_27, i_28, i_29, i_30, i_31, i_32, i_33, i_34, i_35, i_36, i_37, i_38, i_39, i_40, i_41, i_42, i_43, i_44, i_45, i_46, i_47, i_48, i_49, i_50, i_51, i_52, i_53]))), (a_8, .inl (cy 1, 90, .inl f_0)), (a_9, .inl (cy 1, 15, .inl f_1)), (a_10, .inl (cy 1, 1050, .inl f_2)), (a_11, .inl (cy 1, 30, .inl f_3)), (a_12, .inl (cy 1, 240, .inl f_4)), (a_13, .inl (cy 1, 450, .inl f_5)), (a_15, .inl (cy 1, 7200, .inl f_6)), (a_16, .inl (cy 1, 3, .inl f_7)), (a_17, .inl (cy 1, 3, .inl f_8)), (a_18, .inl (cy 1, 8, .inl f_9))] [.ref a_0, .int i_0, .int i_1] (fun u : Int32 × Int32 × Int32 × (Nat → Int32) × (Nat → Int32) × (Nat → Int32) × (Nat → Int32) => [(a_0, .inr (12, [.int 0, .ref a_1, .ref a_2, .ref a_3, .ref a_4, .ref a_5, .int i_3, .int i_4, .int i_5, .int i_6, .int i_7, .long j_0, .int i_8, .int i_9, .int i_10, .int i_11, .ref a_6, .ref a_7, .ref a_8, .ref a_9, .ref a_10, .ref a_11, .ref a_12, .ref a_13, .ref a_14, .ref a_15, .ref a_16, .ref a_17, .ref a_18, .int u.1, .int u.2.1, .int u.2.2.1, .int i_15, .int i_16, .int i_17, .ref a_19, .int i_18, .ref a_20])), (a_6, .inl (cy 1, 5, .inl (mm_g [i_19, i_20, i_21, i_22, i_23]))), (a_7, .inl (cy 1, 30, .inl (mm_g [i_24, i_25, i_26, i_27, i_28, i_29, i_30, i_31, i_32, i_33, i_34, i_35, i_36, i_37, i_38, i_39, i_40, i_41, i_42, i_43, i_44, i_45, i_46, i_47, i_48, i_49, i_50, i_51, i_52, i_53]))), (a_8, .inl (cy 1, 90, .inl f_0)), (a_9, .inl (cy 1, 15, .inl f_1)), (a_10, .inl (cy 1, 1050, .inl f_2)), (a_11, .inl (cy 1, 30, .inl f_3)), (a_12, .inl (cy 1, 240, .inl f_4)), (a_13, .inl (cy 1, 450, .inl f_5)), (a_15, .inl (cy 1, 7200, .inl u.2.2.2.1)), (a_16, .inl (cy 1, 3, .inl u.2.2.2.2.1)), (a_17, .inl (cy 1, 3, .inl u.2.2.2.2.2.1)), (a_18, .inl (cy 1, 8, .inl u.2.2.2.2.2.2))]) (fun (r : Int32) (u : Int32 × Int32 × Int32 × (Nat → Int32) × (Nat → Int32) × (Nat → Int32) × (Nat → Int32)) => mm_rg u.1 0 8 ∧ mm_ar u.2.2.2.1 0 9 ∧ mm_ar u.2.2.2.2.1 0 210 ∧ mm_ar u.2.2.2.2.2.1 0 210 ∧ mm_ar u.2.2.2.2.2.2 0 9 ∧ mm_rg r (-1000000) 1009999) 0 0 := by
  refine mm_begin (lv := [(0, .ref a_0), (1, .int i_0), (2, .int i_1)]) (by decide) (Nat.le_of_ble_eq_true rfl) rfl ?_
  intro p e s m below meth c A ls R args Q H locs hRe hQ hAe hx hb hr hlocks hml hown hnm hts hsz hA hS hP hK hD hZ hl
  have hRf : R.frames = 14 := by rw [hRe]
  have hRl : R.locals = 300 := by rw [hRe]
  have hRc : R.cells = 0 := by rw [hRe]
  have hRs : R.slots = 0 := by rw [hRe]
  refine lv_aload_n hx hb dX12_heirs_0 rfl (lv_at hl 0 rfl) ?_
  refine lv_iconst (v := 0) hx hb dX12_heirs_1 (by decide) ?_
  refine va_put (D := G) (ci := 12) (v := .int 0) (ty := tyX12 0) (C := RX12) (T := TX12) (N := 38) hx hb hts (mm_i inlX12) tyX12 tyX12_ok nmX12 hown hK.1 hP hD hS 0 rfl rfl 0 (by decide) (mm_h hts mm_w177) (fun _ h9 => h9) rfl (tyX12_ok 0 (by decide)) rfl rfl (Nat.le_of_ble_eq_true rfl) dX12_heirs_2 ?_
  clear hP hD hS
  clear H locs
  intro H locs (hP : va_P G vwCl [(a_0, .inr (12, [.int 0, .ref a_1, .ref a_2, .ref a_3, .ref a_4, .ref a_5, .int i_3, .int i_4, .int i_5, .int i_6, .int i_7, .long j_0, .int i_8, .int i_9, .int i_10, .int i_11, .ref a_6, .ref a_7, .ref a_8, .ref a_9, .ref a_10, .ref a_11, .ref a_12, .ref a_13, .ref a_14, .ref a_15, .ref a_16, .ref a_17, .ref a_18, .int i_12, .int i_13, .int i_14, .int i_15, .int i_16, .int i_17, .ref a_19, .int i_18, .ref a_20])), (a_6, .inl (cy 1, 5, .inl (mm_g [i_19, i_20, i_21, i_22, i_23]))), (a_7, .inl (cy 1, 30, .inl (mm_g [i_24, i_25, i_26, i_27, i_28, i_29, i_30, i_31, i_32, i_33, i_34, i_35, i_36, i_37, i_38, i_39, i_40, i_41, i_42, i_43, i_44, i_45, i_46, i_47, i_48, i_49, i_50, i_51, i_52, i_53]))), (a_8, .inl (cy 1, 90, .inl f_0)), (a_9, .inl (cy 1, 15, .inl f_1)), (a_10, .inl (cy 1, 1050, .inl f_2)), (a_11, .inl (cy 1, 30, .inl f_3)), (a_12, .inl (cy 1, 240, .inl f_4)), (a_13, .inl (cy 1, 450, .inl f_5)), (a_15, .inl (cy 1, 7200, .inl f_6)), (a_16, .inl (cy 1, 3, .inl f_7)), (a_17, .inl (cy 1, 3, .inl f_8)), (a_18, .inl (cy 1, 8, .inl f_9))] H) (hD : va_D A [(a_0, .inr (12, [.int 0, .ref a_1, .ref a_2, .ref a_3, .ref a_4, .ref a_5, .int i_3, .int i_4, .int i_5, .int i_6, .int i_7, .long j_0, .int i_8, .int i_9, .int i_10, .int i_11, .ref a_6, .ref a_7, .ref a_8, .ref a_9, .ref a_10, .ref a_11, .ref a_12, .ref a_13, .ref a_14, .ref a_15, .ref a_16, .ref a_17, .ref a_18, .int i_12, .int i_13, .int i_14, .int i_15, .int i_16, .int i_17, .ref a_19, .int i_18, .ref a_20])), (a_6, .inl (cy 1, 5, .inl (mm_g [i_19, i_20, i_21, i_22, i_23]))), (a_7, .inl (cy 1, 30, .inl (mm_g [i_24, i_25, i_26, i_27, i_28, i_29, i_30, i_31, i_32, i_33, i_34, i_35, i_36, i_37, i_38, i_39, i_40, i_41, i_42, i_43, i_44, i_45, i_46, i_47, i_48, i_49, i_50, i_51, i_52, i_53]))), (a_8, .inl (cy 1, 90, .inl f_0)), (a_9, .inl (cy 1, 15, .inl f_1)), (a_10, .inl (cy 1, 1050, .inl f_2)), (a_11, .inl (cy 1, 30, .inl f_3)), (a_12, .inl (cy 1, 240, .inl f_4)), (a_13, .inl (cy 1, 450, .inl f_5)), (a_15, .inl (cy 1, 7200, .inl f_6)), (a_16, .inl (cy 1, 3, .inl f_7)), (a_17, .inl (cy 1, 3, .inl f_8)), (a_18, .inl (cy 1, 8, .inl f_9))]) hS
  refine lv_aload_n hx hb dX12_heirs_5 rfl (lv_at hl 0 rfl) ?_
  refine lv_iload_n hx hb dX12_heirs_6 rfl (lv_at hl 1 rfl) ?_
  refine lv_iload_n hx hb dX12_heirs_7 rfl (lv_at hl 2 rfl) ?_
  refine mm_finir (va_runV (As := [.int i_0, .int i_1]) (rest := []) ⟨hx, hb, hml, hown, hts⟩ (M104_X12_isThen l G cy H.size a_0 i_0 i_1 0 a_1 a_2 a_3 a_4 a_5 i_3 i_4 i_5 i_6 i_7 j_0 i_8 i_9 i_10 i_11 a_6 a_7 a_8 a_9 a_10 a_11 a_12 a_13 a_14 a_15 a_16 a_17 a_18 i_12 i_13 i_14 i_15 i_16 i_17 a_19 i_18 a_20 i_24 i_25 i_26 i_27 i_28 i_29 i_30 i_31 i_32 i_33 i_34 i_35 i_36 i_37 i_38 i_39 i_40 i_41 i_42 i_43 i_44 i_45 i_46 i_47 i_48 i_49 i_50 i_51 i_52 i_53 h6 h7 h8 h9 h10 h11 h12 h13 h14 h15 h16 h17 h18 h19 h20 h21 h22 h23 h24 h25 h26 h27 h28 h29 h30 h31 h32 h33 h34 h35) (cwV 2 hts (mm_gV mm_w678 mm_w679 mm_w680 mm_w5 mm_w681) rfl rfl rfl hd_X12_isThen ⟨by rw [hRf]; exact Nat.le_of_ble_eq_true rfl, by rw [hRl]; exact Nat.le_of_ble_eq_true rfl⟩) (mm_preV hK hZ hS hA hP hD [0, 2] rfl rfl 0 rfl rfl rfl) rfl rfl hl.1 rfl (lv_room (Nat.le_of_ble_eq_true rfl)) dX12_heirs_8 ⟨by rw [hRc]; exact Nat.le_of_ble_eq_true rfl, by rw [hRs]; exact Nat.le_of_ble_eq_true rfl⟩) hP hD hS hA [0, 2] rfl (fun _ => rfl) ?_
  clear hP hD hS
  clear H locs
  intro v1 _u H locs hw hP hD hS
  rcases hw with rfl | ⟨rfl, w2, w3, w4⟩
  · refine lv_if_ne (tgt := 18) hx hb dX12_heirs_11 (by decide) (fun c5 => ?_) (fun c5 => ?_)
    · have q6 := mm_neL (lo := 1) (mm_ne c5) mm_k0 mm_k0 (by decide) (by decide)
      exact mm_no q6 (by decide)
    · refine lv_ldcw (v := (-100000)) hx hb hown (mm_h hts mm_w1455) dX12_heirs_14 ?_
      subst hAe
      rw [hQ]
      exact W.iret (v := (-100000)) hx hb hr (fun t ht hW => ⟨⟨(-100000), (i_12, i_13, i_14, f_6, f_7, f_8, f_9), rfl, ⟨h0, h42, h43, h44, h45, (mm_wk mm_km100000 (by decide))⟩, by rw [ht]; exact hP, hK.warm hW, hD⟩, hS.F ht⟩) hS.2.2 dX12_heirs_17
  · have q7 := mm_ltR (lo := 1) w4 w2 h9 (by decide)
    have q8 : mm_rg i_19 1 601 := mm_tl_3 h49 q7 h1 (by decide)
    refine lv_if_ne (tgt := 18) hx hb dX12_heirs_11 (by decide) (fun c9 => ?_) (fun c9 => ?_)
    · refine lv_aload_n hx hb dX12_heirs_18 rfl (lv_at hl 0 rfl) ?_
      refine mm_finv (va_runV (As := []) (rest := []) ⟨hx, hb, hml, hown, hts⟩ (M125_X12_lays l G cy H.size a_0 0 a_1 a_2 a_3 a_4 a_5 i_3 i_4 i_5 i_6 i_7 j_0 i_8 i_9 i_10 i_11 a_6 a_7 a_8 a_9 a_10 a_11 a_12 a_13 a_14 a_15 a_16 a_17 a_18 i_12 i_13 i_14 i_15 i_16 i_17 a_19 i_18 a_20 i_19 i_20 i_21 i_22 i_23 i_24 i_25 i_26 i_27 i_28 i_29 i_30 i_31 i_32 i_33 i_34 i_35 i_36 i_37 i_38 i_39 i_40 i_41 i_42 i_43 i_44 i_45 i_46 i_47 i_48 i_49 i_50 i_51 i_52 i_53 f_1 f_2 f_5 f_6 f_7 f_8 (mm_wk q8 (by decide)) h2 h3 h4 h5 h6 h7 h8 (mm_wk q7 (by decide)) h10 h11 h12 h13 h14 h15 h16 h17 h18 h19 h20 h21 h22 h23 h24 h25 h26 h27 h28 h29 h30 h31 h32 h33 h34 h35 h37 h38 h41 h42 h43 h44 h46 h48 h49 h50 h52 h53 h54 h56 h57 h58 h60 h61) (cwV 0 hts (mm_gV mm_w686 mm_w687 mm_w688 mm_w5 mm_w689) rfl rfl rfl hd_X12_lays ⟨by rw [hRf]; exact Nat.le_of_ble_eq_true rfl, by rw [hRl]; exact Nat.le_of_ble_eq_true rfl⟩) (mm_preV hK hZ hS hA hP hD [0, 1, 2, 4, 5, 8, 9, 10, 11] rfl rfl 0 rfl rfl rfl) rfl rfl hl.1 rfl (lv_room (Nat.le_of_ble_eq_true rfl)) dX12_heirs_19 ⟨by rw [hRc]; exact Nat.le_of_ble_eq_true rfl, by rw [hRs]; exact Nat.le_of_ble_eq_true rfl⟩) hP hD hS hA (fun u : (Nat → Int32) × (Nat → Int32) × (Nat → Int32) => [(a_0, .inr (12, [.int 0, .ref a_1, .ref a_2, .ref a_3, .ref a_4, .ref a_5, .int i_3, .int i_4, .int i_5, .int i_6, .int i_7, .long j_0, .int i_8, .int i_9, .int i_10, .int i_11, .ref a_6, .ref a_7, .ref a_8, .ref a_9, .ref a_10, .ref a_11, .ref a_12, .ref a_13, .ref a_14, .ref a_15, .ref a_16, .ref a_17, .ref a_18, .int i_12, .int i_13, .int i_14, .int i_15, .int i_16, .int i_17, .ref a_19, .int i_18, .ref a_20])), (a_6, .inl (cy 1, 5, .inl (mm_g [i_19, i_20, i_21, i_22, i_23]))), (a_7, .inl (cy 1, 30, .inl (mm_g [i_24, i_25, i_26, i_27, i_28, i_29, i_30, i_31, i_32, i_33, i_34, i_35, i_36, i_37, i_38, i_39, i_40, i_41, i_42, i_43, i_44, i_45, i_46, i_47, i_48, i_49, i_50, i_51, i_52, i_53]))), (a_8, .inl (cy 1, 90, .inl f_0)), (a_9, .inl (cy 1, 15, .inl f_1)), (a_10, .inl (cy 1, 1050, .inl f_2)), (a_11, .inl (cy 1, 30, .inl f_3)), (a_12, .inl (cy 1, 240, .inl f_4)), (a_13, .inl (cy 1, 450, .inl f_5)), (a_15, .inl (cy 1, 7200, .inl u.1)), (a_16, .inl (cy 1, 3, .inl u.2.1)), (a_17, .inl (cy 1, 3, .inl u.2.2)), (a_18, .inl (cy 1, 8, .inl f_9))]) [0, 1, 2, 4, 5, 8, 9, 10, 11] [3, 6, 7, 12] (n := 13) (fun _ => rfl) (by decide +kernel) (by decide +kernel) rfl (fun _ => rfl) (wr := [(a_8, .inl (cy 1, 90, .inl f_0)), (a_11, .inl (cy 1, 30, .inl f_3)), (a_12, .inl (cy 1, 240, .inl f_4)), (a_18, .inl (cy 1, 8, .inl f_9))]) rfl (fun _ => rfl) (fun _ => @rfl _ ([a_0, a_6, a_7, a_9, a_10, a_13, a_15, a_16, a_17] : List Nat)) ?_
      clear hP hD hS
      clear H locs
      intro u
      obtain ⟨n10, n11, n12⟩ := u
      intro H locs hw (hP : va_P G vwCl [(a_0, .inr (12, [.int 0, .ref a_1, .ref a_2, .ref a_3, .ref a_4, .ref a_5, .int i_3, .int i_4, .int i_5, .int i_6, .int i_7, .long j_0, .int i_8, .int i_9, .int i_10, .int i_11, .ref a_6, .ref a_7, .ref a_8, .ref a_9, .ref a_10, .ref a_11, .ref a_12, .ref a_13, .ref a_14, .ref a_15, .ref a_16, .ref a_17, .ref a_18, .int i_12, .int i_13, .int i_14, .int i_15, .int i_16, .int i_17, .ref a_19, .int i_18, .ref a_20])), (a_6, .inl (cy 1, 5, .inl (mm_g [i_19, i_20, i_21, i_22, i_23]))), (a_7, .inl (cy 1, 30, .inl (mm_g [i_24, i_25, i_26, i_27, i_28, i_29, i_30, i_31, i_32, i_33, i_34, i_35, i_36, i_37, i_38, i_39, i_40, i_41, i_42, i_43, i_44, i_45, i_46, i_47, i_48, i_49, i_50, i_51, i_52, i_53]))), (a_8, .inl (cy 1, 90, .inl f_0)), (a_9, .inl (cy 1, 15, .inl f_1)), (a_10, .inl (cy 1, 1050, .inl f_2)), (a_11, .inl (cy 1, 30, .inl f_3)), (a_12, .inl (cy 1, 240, .inl f_4)), (a_13, .inl (cy 1, 450, .inl f_5)), (a_15, .inl (cy 1, 7200, .inl n10)), (a_16, .inl (cy 1, 3, .inl n11)), (a_17, .inl (cy 1, 3, .inl n12)), (a_18, .inl (cy 1, 8, .inl f_9))] H) (hD : va_D A [(a_0, .inr (12, [.int 0, .ref a_1, .ref a_2, .ref a_3, .ref a_4, .ref a_5, .int i_3, .int i_4, .int i_5, .int i_6, .int i_7, .long j_0, .int i_8, .int i_9, .int i_10, .int i_11, .ref a_6, .ref a_7, .ref a_8, .ref a_9, .ref a_10, .ref a_11, .ref a_12, .ref a_13, .ref a_14, .ref a_15, .ref a_16, .ref a_17, .ref a_18, .int i_12, .int i_13, .int i_14, .int i_15, .int i_16, .int i_17, .ref a_19, .int i_18, .ref a_20])), (a_6, .inl (cy 1, 5, .inl (mm_g [i_19, i_20, i_21, i_22, i_23]))), (a_7, .inl (cy 1, 30, .inl (mm_g [i_24, i_25, i_26, i_27, i_28, i_29, i_30, i_31, i_32, i_33, i_34, i_35, i_36, i_37, i_38, i_39, i_40, i_41, i_42, i_43, i_44, i_45, i_46, i_47, i_48, i_49, i_50, i_51, i_52, i_53]))), (a_8, .inl (cy 1, 90, .inl f_0)), (a_9, .inl (cy 1, 15, .inl f_1)), (a_10, .inl (cy 1, 1050, .inl f_2)), (a_11, .inl (cy 1, 30, .inl f_3)), (a_12, .inl (cy 1, 240, .inl f_4)), (a_13, .inl (cy 1, 450, .inl f_5)), (a_15, .inl (cy 1, 7200, .inl n10)), (a_16, .inl (cy 1, 3, .inl n11)), (a_17, .inl (cy 1, 3, .inl n12)), (a_18, .inl (cy 1, 8, .inl f_9))]) hS
      obtain ⟨w13, w14, w15, w16, w17⟩ := hw
      replace w16 : mm_laid n11 n12 i_27 := w16
      replace w17 : mm_tab n10 n11 i_26 i_27 := w17
      refine lv_aload_n hx hb dX12_heirs_22 rfl (lv_at hl 0 rfl) ?_
      refine lv_iload_n hx hb dX12_heirs_23 rfl (lv_at hl 1 rfl) ?_
      refine lv_iload_n hx hb dX12_heirs_24 rfl (lv_at hl 2 rfl) ?_
      refine lv_iconst (v := 1) hx hb dX12_heirs_25 (by decide) ?_
      refine lv_aload_n hx hb dX12_heirs_26 rfl (lv_at hl 0 rfl) ?_
      refine mm_finir (va_runV (As := []) (rest := [.int 1, .int i_1, .int i_0, .ref a_0]) ⟨hx, hb, hml, hown, hts⟩ (M95_X12_texts l G cy H.size a_0 0 a_1 a_2 a_3 a_4 a_5 i_3 i_4 i_5 i_6 i_7 j_0 i_8 i_9 i_10 i_11 a_6 a_7 a_8 a_9 a_10 a_11 a_12 a_13 a_14 a_15 a_16 a_17 a_18 i_12 i_13 i_14 i_15 i_16 i_17 a_19 i_18 a_20 i_24 i_25 i_26 i_27 i_28 i_29 i_30 i_31 i_32 i_33 i_34 i_35 i_36 i_37 i_38 i_39 i_40 i_41 i_42 i_43 i_44 i_45 i_46 i_47 i_48 i_49 i_50 i_51 i_52 i_53 h6 h7 h8 (mm_wk q7 (by decide)) h10 h11 h12 h13 h14 h15 h16 h17 h18 h19 h20 h21 h22 h23 h24 h25 h26 h27 h28 h29 h30 h31 h32 h33 h34 h35) (cwV 0 hts (mm_gV mm_w617 mm_w618 mm_w619 mm_w5 mm_w620) rfl rfl rfl hd_X12_texts ⟨by rw [hRf]; exact Nat.le_of_ble_eq_true rfl, by rw [hRl]; exact Nat.le_of_ble_eq_true rfl⟩) (mm_preV hK hZ hS hA hP hD [0, 2] rfl rfl 0 rfl rfl rfl) rfl rfl hl.1 rfl (lv_room (Nat.le_of_ble_eq_true rfl)) dX12_heirs_27 ⟨by rw [hRc]; exact Nat.le_of_ble_eq_true rfl, by rw [hRs]; exact Nat.le_of_ble_eq_true rfl⟩) hP hD hS hA [0, 2] rfl (fun _ => rfl) ?_
      clear hP hD hS
      clear H locs
      intro v18 _u H locs hw hP hD hS
      subst hw
      refine lv_ishl hx hb dX12_heirs_30 ?_
      refine lv_topi (fun v19 ev19 => ?_)
      have rv19 : mm_rg v19 1 64 := mm_shl1 ev19 h10 (by decide)
      refine lv_iconst (v := 1) hx hb dX12_heirs_31 (by decide) ?_
      refine lv_isub hx hb dX12_heirs_32 ?_
      refine lv_topi (fun v20 ev20 => ?_)
      have rv20 : mm_rg v20 0 63 := mm_sub ev20 rv19 mm_k1 (by decide) (by decide)
      have tv20 := mm_subEc ev20 rv19 mm_k1 (by decide) (k := (-1)) (by decide)
      refine mm_fini (va_runV (As := [.int i_0, .int i_1, .int v20]) (rest := []) ⟨hx, hb, hml, hown, hts⟩ (M239_X12_heirsOf l G cy H.size a_0 i_0 i_1 v20 0 a_1 a_2 a_3 a_4 a_5 i_3 i_4 i_5 i_6 i_7 j_0 i_8 i_9 i_10 i_11 a_6 a_7 a_8 a_9 a_10 a_11 a_12 a_13 a_14 a_15 a_16 a_17 a_18 i_12 i_13 i_14 i_15 i_16 i_17 a_19 i_18 a_20 i_24 i_25 i_26 i_27 i_28 i_29 i_30 i_31 i_32 i_33 i_34 i_35 i_36 i_37 i_38 i_39 i_40 i_41 i_42 i_43 i_44 i_45 i_46 i_47 i_48 i_49 i_50 i_51 i_52 i_53 f_0 f_3 f_4 f_5 n10 n11 f_9 w2 (mm_wk w3 (by decide)) rv20 h0 h6 h7 h8 (mm_wk q7 (by decide)) h10 h11 h12 h13 h14 h15 h16 h17 h18 h19 h20 h21 h22 h23 h24 h25 h26 h27 h28 h29 h30 h31 h32 h33 h34 h35 h36 h39 h40 h41 w13 w14 h45 h47 h48 h51 h52 h55 h56 h59 h60 (mm_f1_l w16 w4 w2 (by decide)) (mm_pc_rg rv20 (by decide) (by decide))) (cwV 3 hts (mm_gV mm_w1456 mm_w1457 mm_w1458 mm_w5 mm_w1459) rfl rfl rfl hd_X12_heirsOf ⟨by rw [hRf]; exact Nat.le_of_ble_eq_true rfl, by rw [hRl]; exact Nat.le_of_ble_eq_true rfl⟩) (mm_preV hK hZ hS hA hP hD [0, 2, 3, 6, 7, 8, 9, 10, 12] rfl rfl 0 rfl rfl rfl) rfl rfl hl.1 rfl (lv_room (Nat.le_of_ble_eq_true rfl)) dX12_heirs_33 ⟨by rw [hRc]; exact Nat.le_of_ble_eq_true rfl, by rw [hRs]; exact Nat.le_of_ble_eq_true rfl⟩) hP hD hS hA (fun u : Int32 × Int32 × Int32 × (Nat → Int32) => [(a_0, .inr (12, [.int 0, .ref a_1, .ref a_2, .ref a_3, .ref a_4, .ref a_5, .int i_3, .int i_4, .int i_5, .int i_6, .int i_7, .long j_0, .int i_8, .int i_9, .int i_10, .int i_11, .ref a_6, .ref a_7, .ref a_8, .ref a_9, .ref a_10, .ref a_11, .ref a_12, .ref a_13, .ref a_14, .ref a_15, .ref a_16, .ref a_17, .ref a_18, .int u.1, .int u.2.1, .int u.2.2.1, .int i_15, .int i_16, .int i_17, .ref a_19, .int i_18, .ref a_20])), (a_6, .inl (cy 1, 5, .inl (mm_g [i_19, i_20, i_21, i_22, i_23]))), (a_7, .inl (cy 1, 30, .inl (mm_g [i_24, i_25, i_26, i_27, i_28, i_29, i_30, i_31, i_32, i_33, i_34, i_35, i_36, i_37, i_38, i_39, i_40, i_41, i_42, i_43, i_44, i_45, i_46, i_47, i_48, i_49, i_50, i_51, i_52, i_53]))), (a_8, .inl (cy 1, 90, .inl f_0)), (a_9, .inl (cy 1, 15, .inl f_1)), (a_10, .inl (cy 1, 1050, .inl f_2)), (a_11, .inl (cy 1, 30, .inl f_3)), (a_12, .inl (cy 1, 240, .inl f_4)), (a_13, .inl (cy 1, 450, .inl f_5)), (a_15, .inl (cy 1, 7200, .inl n10)), (a_16, .inl (cy 1, 3, .inl n11)), (a_17, .inl (cy 1, 3, .inl n12)), (a_18, .inl (cy 1, 8, .inl u.2.2.2))]) [0, 2, 3, 6, 7, 8, 9, 10, 12] [1, 4, 5, 11] (n := 13) (fun _ => rfl) (by decide +kernel) (by decide +kernel) rfl (fun _ => rfl) (wr := [(a_6, .inl (cy 1, 5, .inl (mm_g [i_19, i_20, i_21, i_22, i_23]))), (a_9, .inl (cy 1, 15, .inl f_1)), (a_10, .inl (cy 1, 1050, .inl f_2)), (a_17, .inl (cy 1, 3, .inl n12))]) rfl (fun _ => rfl) (fun _ => @rfl _ ([a_0, a_7, a_8, a_11, a_12, a_13, a_15, a_16, a_18] : List Nat)) ?_
      clear hP hD hS
      clear H locs
      intro v25 u
      obtain ⟨n21, n22, n23, n24⟩ := u
      intro H locs hw (hP : va_P G vwCl [(a_0, .inr (12, [.int 0, .ref a_1, .ref a_2, .ref a_3, .ref a_4, .ref a_5, .int i_3, .int i_4, .int i_5, .int i_6, .int i_7, .long j_0, .int i_8, .int i_9, .int i_10, .int i_11, .ref a_6, .ref a_7, .ref a_8, .ref a_9, .ref a_10, .ref a_11, .ref a_12, .ref a_13, .ref a_14, .ref a_15, .ref a_16, .ref a_17, .ref a_18, .int n21, .int n22, .int n23, .int i_15, .int i_16, .int i_17, .ref a_19, .int i_18, .ref a_20])), (a_6, .inl (cy 1, 5, .inl (mm_g [i_19, i_20, i_21, i_22, i_23]))), (a_7, .inl (cy 1, 30, .inl (mm_g [i_24, i_25, i_26, i_27, i_28, i_29, i_30, i_31, i_32, i_33, i_34, i_35, i_36, i_37, i_38, i_39, i_40, i_41, i_42, i_43, i_44, i_45, i_46, i_47, i_48, i_49, i_50, i_51, i_52, i_53]))), (a_8, .inl (cy 1, 90, .inl f_0)), (a_9, .inl (cy 1, 15, .inl f_1)), (a_10, .inl (cy 1, 1050, .inl f_2)), (a_11, .inl (cy 1, 30, .inl f_3)), (a_12, .inl (cy 1, 240, .inl f_4)), (a_13, .inl (cy 1, 450, .inl f_5)), (a_15, .inl (cy 1, 7200, .inl n10)), (a_16, .inl (cy 1, 3, .inl n11)), (a_17, .inl (cy 1, 3, .inl n12)), (a_18, .inl (cy 1, 8, .inl n24))] H) (hD : va_D A [(a_0, .inr (12, [.int 0, .ref a_1, .ref a_2, .ref a_3, .ref a_4, .ref a_5, .int i_3, .int i_4, .int i_5, .int i_6, .int i_7, .long j_0, .int i_8, .int i_9, .int i_10, .int i_11, .ref a_6, .ref a_7, .ref a_8, .ref a_9, .ref a_10, .ref a_11, .ref a_12, .ref a_13, .ref a_14, .ref a_15, .ref a_16, .ref a_17, .ref a_18, .int n21, .int n22, .int n23, .int i_15, .int i_16, .int i_17, .ref a_19, .int i_18, .ref a_20])), (a_6, .inl (cy 1, 5, .inl (mm_g [i_19, i_20, i_21, i_22, i_23]))), (a_7, .inl (cy 1, 30, .inl (mm_g [i_24, i_25, i_26, i_27, i_28, i_29, i_30, i_31, i_32, i_33, i_34, i_35, i_36, i_37, i_38, i_39, i_40, i_41, i_42, i_43, i_44, i_45, i_46, i_47, i_48, i_49, i_50, i_51, i_52, i_53]))), (a_8, .inl (cy 1, 90, .inl f_0)), (a_9, .inl (cy 1, 15, .inl f_1)), (a_10, .inl (cy 1, 1050, .inl f_2)), (a_11, .inl (cy 1, 30, .inl f_3)), (a_12, .inl (cy 1, 240, .inl f_4)), (a_13, .inl (cy 1, 450, .inl f_5)), (a_15, .inl (cy 1, 7200, .inl n10)), (a_16, .inl (cy 1, 3, .inl n11)), (a_17, .inl (cy 1, 3, .inl n12)), (a_18, .inl (cy 1, 8, .inl n24))]) hS
      obtain ⟨w26, w27, hw⟩ := hw
      have w28 := hw
      subst hAe
      rw [hQ]
      exact W.iret (v := v25) hx hb hr (fun t ht hW => ⟨⟨v25, (n21, n22, n23, n10, n11, n12, n24), rfl, ⟨w26, w13, w14, w15, w27, w28⟩, by rw [ht]; exact hP, hK.warm hW, hD⟩, hS.F ht⟩) hS.2.2 dX12_heirs_36
    · exact mm_eqN c9.symm mm_k0 mm_k1 (by decide)

set_option maxHeartbeats 4000000 in
set_option maxRecDepth 100000 in
theorem M241_X12_takes_ (l : Launch) (G : va_G) (cy : Nat → ClassId) (sz : Nat) (a_0 : Nat) (i_0 : Int32) (i_1 : Int32) (i_2 : Int32) (a_1 : Nat) (a_2 : Nat) (a_3 : Nat) (a_4 : Nat) (a_5 : Nat) (i_3 : Int32) (i_4 : Int32) (i_5 : Int32) (i_6 : Int32) (i_7 : Int32) (j_0 : Int64) (i_8 : Int32) (i_9 : Int32) (i_10 : Int32) (i_11 : Int32) (a_6 : Nat) (a_7 : Nat) (a_8 : Nat) (a_9 : Nat) (a_10 : Nat) (a_11 : Nat) (a_12 : Nat) (a_13 : Nat) (a_14 : Nat) (a_15 : Nat) (a_16 : Nat) (a_17 : Nat) (a_18 : Nat) (i_12 : Int32) (i_13 : Int32) (i_14 : Int32) (i_15 : Int32) (i_16 : Int32) (i_17 : Int32) (a_19 : Nat) (i_18 : Int32) (a_20 : Nat) (i_19 : Int32) (i_20 : Int32) (i_21 : Int32) (i_22 : Int32) (i_23 : Int32) (i_24 : Int32) (i_25 : Int32) (i_26 : Int32) (i_27 : Int32) (i_28 : Int32) (i_29 : Int32) (i_30 : Int32) (i_31 : Int32) (i_32 : Int32) (i_33 : Int32) (i_34 : Int32) (i_35 : Int32) (i_36 : Int32) (i_37 : Int32) (i_38 : Int32) (i_39 : Int32) (i_40 : Int32) (i_41 : Int32) (i_42 : Int32) (i_43 : Int32) (i_44 : Int32) (i_45 : Int32) (i_46 : Int32) (i_47 : Int32) (i_48 : Int32) (i_49 : Int32) (i_50 : Int32) (i_51 : Int32) (i_52 : Int32) (i_53 : Int32) (f_0 : Nat → Int32) (f_1 : Nat → Int32) (f_2 : Nat → Int32) (f_3 : Nat → Int32) (f_4 : Nat → Int32) (f_5 : Nat → Int32) (f_6 : Nat → Int32) (f_7 : Nat → Int32) (f_8 : Nat → Int32) (f_9 : Nat → Int32) (h0 : mm_rg i_12 0 8) (h1 : mm_rg i_19 0 601) (h2 : mm_rg i_20 0 601) (h3 : mm_rg i_21 0 601) (h4 : mm_rg i_22 0 601) (h5 : mm_rg i_23 0 601) (h6 : mm_rg i_24 0 10) (h7 : mm_rg i_25 0 99) (h8 : mm_rg i_26 0 9) (h9 : mm_rg i_27 0 3) (h10 : mm_rg i_28 0 6) (h11 : mm_rg i_29 0 30) (h12 : mm_rg i_30 0 10) (h13 : mm_rg i_31 0 99) (h14 : mm_rg i_32 0 9) (h15 : mm_rg i_33 0 3) (h16 : mm_rg i_34 0 6) (h17 : mm_rg i_35 0 30) (h18 : mm_rg i_36 0 10) (h19 : mm_rg i_37 0 99) (h20 : mm_rg i_38 0 9) (h21 : mm_rg i_39 0 3) (h22 : mm_rg i_40 0 6) (h23 : mm_rg i_41 0 30) (h24 : mm_rg i_42 0 10) (h25 : mm_rg i_43 0 99) (h26 : mm_rg i_44 0 9) (h27 : mm_rg i_45 0 3) (h28 : mm_rg i_46 0 6) (h29 : mm_rg i_47 0 30) (h30 : mm_rg i_48 0 10) (h31 : mm_rg i_49 0 99) (h32 : mm_rg i_50 0 9) (h33 : mm_rg i_51 0 3) (h34 : mm_rg i_52 0 6) (h35 : mm_rg i_53 0 30) (h36 : mm_ar f_0 0 99) (h37 : mm_ar f_1 0 7) (h38 : mm_ar f_2 0 9) (h39 : mm_ar f_3 0 8) (h40 : mm_ar f_4 0 9) (h41 : mm_ar f_5 (-1) 99) (h42 : mm_ar f_6 0 9) (h43 : mm_ar f_7 0 210) (h44 : mm_ar f_8 0 210) (h45 : mm_ar f_9 0 9) (h46 : mm_rls f_1 f_2 0 i_26 i_27) (h47 : mm_txs f_3 f_4 0 i_26 i_28) (h48 : mm_acs f_5 0 i_26 i_27 i_29) (h49 : mm_tl i_19 i_27 i_28) (h50 : mm_rls f_1 f_2 1 i_32 i_33) (h51 : mm_txs f_3 f_4 1 i_32 i_34) (h52 : mm_acs f_5 1 i_32 i_33 i_35) (h53 : mm_tl i_20 i_33 i_34) (h54 : mm_rls f_1 f_2 2 i_38 i_39) (h55 : mm_txs f_3 f_4 2 i_38 i_40) (h56 : mm_acs f_5 2 i_38 i_39 i_41) (h57 : mm_tl i_21 i_39 i_40) (h58 : mm_rls f_1 f_2 3 i_44 i_45) (h59 : mm_txs f_3 f_4 3 i_44 i_46) (h60 : mm_acs f_5 3 i_44 i_45 i_47) (h61 : mm_tl i_22 i_45 i_46)  : mm_CI l yX12_takes_ (mm_ws yX12_takes_ cX12_takes_ 6 (some .int)) ({ frames := 14, cells := 0, slots := 0, locals := 300 } : Room) G cy sz [(a_0, .inr (12, [.int i_2, .ref a_1, .ref a_2, .ref a_3, .ref a_4, .ref a_5, .int i_3, .int i_4, .int i_5, .int i_6, .int i_7, .long j_0, .int i_8, .int i_9, .int i_10, .int i_11, .ref a_6, .ref a_7, .ref a_8, .ref a_9, .ref a_10, .ref a_11, .ref a_12, .ref a_13, .ref a_14, .ref a_15, .ref a_16, .ref a_17, .ref a_18, .int i_12, .int i_13, .int i_14, .int i_15, .int i_16, .int i_17, .ref a_19, .int i_18, .ref a_20])), (a_6, .inl (cy 1, 5, .inl (mm_g [i_19, i_20, i_21, i_22, i_23]))), (a_7, .inl (cy 1, 30, .inl (mm_g [i_24, i_25, i_26, i_27, i_28, i_29, i_30, i_31, i_32, i_33, i_34, i_35, i_36, i_37, i_38, i_39, i_40, i_41, i_42, i_43, i_44, i_45, i_46, i_47, i_48, i_49, i_50, i_51, i_52, i_53]))), (a_8, .inl (cy 1, 90, .inl f_0)), (a_9, .inl (cy 1, 15, .inl f_1)), (a_10, .inl (cy 1, 1050, .inl f_2)), (a_11, .inl (cy 1, 30, .inl f_3)), (a_12, .inl (cy 1, 240, .inl f_4)), (a_13, .inl (cy 1, 450, .inl f_5)), (a_15, .inl (cy 1, 7200, .inl f_6)), (a_16, .inl (cy 1, 3, .inl f_7)), (a_17, .inl (cy 1, 3, .inl f_8)), (a_18, .inl (cy 1, 8, .inl f_9))] [.ref a_0, .int i_0, .int i_1] (fun u : Int32 × Int32 × Int32 × (Nat → Int32) × (Nat → Int32) × (Nat → Int32) × (Nat → Int32) => [(a_0, .inr (12, [.int 0, .ref a_1, .ref a_2, .ref a_3, .ref a_4, .ref a_5, .int i_3, .int i_4, .int i_5, .int i_6, .int i_7, .long j_0, .int i_8, .int i_9, .int i_10, .int i_11, .ref a_6, .ref a_7, .ref a_8, .ref a_9, .ref a_10, .ref a_11, .ref a_12, .ref a_13, .ref a_14, .ref a_15, .ref a_16, .ref a_17, .ref a_18, .int u.1, .int u.2.1, .int u.2.2.1, .int i_15, .int i_16, .int i_17, .ref a_19, .int i_18, .ref a_20])), (a_6, .inl (cy 1, 5, .inl (mm_g [i_19, i_20, i_21, i_22, i_23]))), (a_7, .inl (cy 1, 30, .inl (mm_g [i_24, i_25, i_26, i_27, i_28, i_29, i_30, i_31, i_32, i_33, i_34, i_35, i_36, i_37, i_38, i_39, i_40, i_41, i_42, i_43, i_44, i_45, i_46, i_47, i_48, i_49, i_50, i_51, i_52, i_53]))), (a_8, .inl (cy 1, 90, .inl f_0)), (a_9, .inl (cy 1, 15, .inl f_1)), (a_10, .inl (cy 1, 1050, .inl f_2)), (a_11, .inl (cy 1, 30, .inl f_3)), (a_12, .inl (cy 1, 240, .inl f_4)), (a_13, .inl (cy 1, 450, .inl f_5)), (a_15, .inl (cy 1, 7200, .inl u.2.2.2.1)), (a_16, .inl (cy 1, 3, .inl u.2.2.2.2.1)), (a_17, .inl (cy 1, 3, .inl u.2.2.2.2.2.1)), (a_18, .inl (cy 1, 8, .inl u.2.2.2.2.2.2))]) (fun (r : Int32) (u : Int32 × Int32 × Int32 × (Nat → Int32) × (Nat → Int32) × (Nat → Int32) × (Nat → Int32)) => mm_rg u.1 0 8 ∧ mm_ar u.2.2.2.1 0 9 ∧ mm_ar u.2.2.2.2.1 0 210 ∧ mm_ar u.2.2.2.2.2.1 0 210 ∧ mm_ar u.2.2.2.2.2.2 0 9 ∧ mm_rg r (-2) 5) 0 0 := by
  refine mm_begin (lv := [(0, .ref a_0), (1, .int i_0), (2, .int i_1)]) (by decide) (Nat.le_of_ble_eq_true rfl) rfl ?_
  intro p e s m below meth c A ls R args Q H locs hRe hQ hAe hx hb hr hlocks hml hown hnm hts hsz hA hS hP hK hD hZ hl
  have hRf : R.frames = 14 := by rw [hRe]
  have hRl : R.locals = 300 := by rw [hRe]
  have hRc : R.cells = 0 := by rw [hRe]
  have hRs : R.slots = 0 := by rw [hRe]
  refine lv_aload_n hx hb dX12_takes__0 rfl (lv_at hl 0 rfl) ?_
  refine lv_iconst (v := 0) hx hb dX12_takes__1 (by decide) ?_
  refine va_put (D := G) (ci := 12) (v := .int 0) (ty := tyX12 0) (C := RX12) (T := TX12) (N := 38) hx hb hts (mm_i inlX12) tyX12 tyX12_ok nmX12 hown hK.1 hP hD hS 0 rfl rfl 0 (by decide) (mm_h hts mm_w177) (fun _ h9 => h9) rfl (tyX12_ok 0 (by decide)) rfl rfl (Nat.le_of_ble_eq_true rfl) dX12_takes__2 ?_
  clear hP hD hS
  clear H locs
  intro H locs (hP : va_P G vwCl [(a_0, .inr (12, [.int 0, .ref a_1, .ref a_2, .ref a_3, .ref a_4, .ref a_5, .int i_3, .int i_4, .int i_5, .int i_6, .int i_7, .long j_0, .int i_8, .int i_9, .int i_10, .int i_11, .ref a_6, .ref a_7, .ref a_8, .ref a_9, .ref a_10, .ref a_11, .ref a_12, .ref a_13, .ref a_14, .ref a_15, .ref a_16, .ref a_17, .ref a_18, .int i_12, .int i_13, .int i_14, .int i_15, .int i_16, .int i_17, .ref a_19, .int i_18, .ref a_20])), (a_6, .inl (cy 1, 5, .inl (mm_g [i_19, i_20, i_21, i_22, i_23]))), (a_7, .inl (cy 1, 30, .inl (mm_g [i_24, i_25, i_26, i_27, i_28, i_29, i_30, i_31, i_32, i_33, i_34, i_35, i_36, i_37, i_38, i_39, i_40, i_41, i_42, i_43, i_44, i_45, i_46, i_47, i_48, i_49, i_50, i_51, i_52, i_53]))), (a_8, .inl (cy 1, 90, .inl f_0)), (a_9, .inl (cy 1, 15, .inl f_1)), (a_10, .inl (cy 1, 1050, .inl f_2)), (a_11, .inl (cy 1, 30, .inl f_3)), (a_12, .inl (cy 1, 240, .inl f_4)), (a_13, .inl (cy 1, 450, .inl f_5)), (a_15, .inl (cy 1, 7200, .inl f_6)), (a_16, .inl (cy 1, 3, .inl f_7)), (a_17, .inl (cy 1, 3, .inl f_8)), (a_18, .inl (cy 1, 8, .inl f_9))] H) (hD : va_D A [(a_0, .inr (12, [.int 0, .ref a_1, .ref a_2, .ref a_3, .ref a_4, .ref a_5, .int i_3, .int i_4, .int i_5, .int i_6, .int i_7, .long j_0, .int i_8, .int i_9, .int i_10, .int i_11, .ref a_6, .ref a_7, .ref a_8, .ref a_9, .ref a_10, .ref a_11, .ref a_12, .ref a_13, .ref a_14, .ref a_15, .ref a_16, .ref a_17, .ref a_18, .int i_12, .int i_13, .int i_14, .int i_15, .int i_16, .int i_17, .ref a_19, .int i_18, .ref a_20])), (a_6, .inl (cy 1, 5, .inl (mm_g [i_19, i_20, i_21, i_22, i_23]))), (a_7, .inl (cy 1, 30, .inl (mm_g [i_24, i_25, i_26, i_27, i_28, i_29, i_30, i_31, i_32, i_33, i_34, i_35, i_36, i_37, i_38, i_39, i_40, i_41, i_42, i_43, i_44, i_45, i_46, i_47, i_48, i_49, i_50, i_51, i_52, i_53]))), (a_8, .inl (cy 1, 90, .inl f_0)), (a_9, .inl (cy 1, 15, .inl f_1)), (a_10, .inl (cy 1, 1050, .inl f_2)), (a_11, .inl (cy 1, 30, .inl f_3)), (a_12, .inl (cy 1, 240, .inl f_4)), (a_13, .inl (cy 1, 450, .inl f_5)), (a_15, .inl (cy 1, 7200, .inl f_6)), (a_16, .inl (cy 1, 3, .inl f_7)), (a_17, .inl (cy 1, 3, .inl f_8)), (a_18, .inl (cy 1, 8, .inl f_9))]) hS
  refine lv_aload_n hx hb dX12_takes__5 rfl (lv_at hl 0 rfl) ?_
  refine lv_iload_n hx hb dX12_takes__6 rfl (lv_at hl 1 rfl) ?_
  refine lv_iload_n hx hb dX12_takes__7 rfl (lv_at hl 2 rfl) ?_
  refine mm_finir (va_runV (As := [.int i_0, .int i_1]) (rest := []) ⟨hx, hb, hml, hown, hts⟩ (M104_X12_isThen l G cy H.size a_0 i_0 i_1 0 a_1 a_2 a_3 a_4 a_5 i_3 i_4 i_5 i_6 i_7 j_0 i_8 i_9 i_10 i_11 a_6 a_7 a_8 a_9 a_10 a_11 a_12 a_13 a_14 a_15 a_16 a_17 a_18 i_12 i_13 i_14 i_15 i_16 i_17 a_19 i_18 a_20 i_24 i_25 i_26 i_27 i_28 i_29 i_30 i_31 i_32 i_33 i_34 i_35 i_36 i_37 i_38 i_39 i_40 i_41 i_42 i_43 i_44 i_45 i_46 i_47 i_48 i_49 i_50 i_51 i_52 i_53 h6 h7 h8 h9 h10 h11 h12 h13 h14 h15 h16 h17 h18 h19 h20 h21 h22 h23 h24 h25 h26 h27 h28 h29 h30 h31 h32 h33 h34 h35) (cwV 2 hts (mm_gV mm_w678 mm_w679 mm_w680 mm_w5 mm_w681) rfl rfl rfl hd_X12_isThen ⟨by rw [hRf]; exact Nat.le_of_ble_eq_true rfl, by rw [hRl]; exact Nat.le_of_ble_eq_true rfl⟩) (mm_preV hK hZ hS hA hP hD [0, 2] rfl rfl 0 rfl rfl rfl) rfl rfl hl.1 rfl (lv_room (Nat.le_of_ble_eq_true rfl)) dX12_takes__8 ⟨by rw [hRc]; exact Nat.le_of_ble_eq_true rfl, by rw [hRs]; exact Nat.le_of_ble_eq_true rfl⟩) hP hD hS hA [0, 2] rfl (fun _ => rfl) ?_
  clear hP hD hS
  clear H locs
  intro v1 _u H locs hw hP hD hS
  rcases hw with rfl | ⟨rfl, w2, w3, w4⟩
  · refine lv_if_ne (tgt := 17) hx hb dX12_takes__11 (by decide) (fun c5 => ?_) (fun c5 => ?_)
    · have q6 := mm_neL (lo := 1) (mm_ne c5) mm_k0 mm_k0 (by decide) (by decide)
      exact mm_no q6 (by decide)
    · refine lv_bipush (v := (-2)) hx hb dX12_takes__14 (by decide) ?_
      subst hAe
      rw [hQ]
      exact W.iret (v := (-2)) hx hb hr (fun t ht hW => ⟨⟨(-2), (i_12, i_13, i_14, f_6, f_7, f_8, f_9), rfl, ⟨h0, h42, h43, h44, h45, (mm_wk mm_km2 (by decide))⟩, by rw [ht]; exact hP, hK.warm hW, hD⟩, hS.F ht⟩) hS.2.2 dX12_takes__16
  · have q7 := mm_ltR (lo := 1) w4 w2 h9 (by decide)
    have q8 : mm_rg i_19 1 601 := mm_tl_3 h49 q7 h1 (by decide)
    refine lv_if_ne (tgt := 17) hx hb dX12_takes__11 (by decide) (fun c9 => ?_) (fun c9 => ?_)
    · refine lv_aload_n hx hb dX12_takes__17 rfl (lv_at hl 0 rfl) ?_
      refine mm_finv (va_runV (As := []) (rest := []) ⟨hx, hb, hml, hown, hts⟩ (M125_X12_lays l G cy H.size a_0 0 a_1 a_2 a_3 a_4 a_5 i_3 i_4 i_5 i_6 i_7 j_0 i_8 i_9 i_10 i_11 a_6 a_7 a_8 a_9 a_10 a_11 a_12 a_13 a_14 a_15 a_16 a_17 a_18 i_12 i_13 i_14 i_15 i_16 i_17 a_19 i_18 a_20 i_19 i_20 i_21 i_22 i_23 i_24 i_25 i_26 i_27 i_28 i_29 i_30 i_31 i_32 i_33 i_34 i_35 i_36 i_37 i_38 i_39 i_40 i_41 i_42 i_43 i_44 i_45 i_46 i_47 i_48 i_49 i_50 i_51 i_52 i_53 f_1 f_2 f_5 f_6 f_7 f_8 (mm_wk q8 (by decide)) h2 h3 h4 h5 h6 h7 h8 (mm_wk q7 (by decide)) h10 h11 h12 h13 h14 h15 h16 h17 h18 h19 h20 h21 h22 h23 h24 h25 h26 h27 h28 h29 h30 h31 h32 h33 h34 h35 h37 h38 h41 h42 h43 h44 h46 h48 h49 h50 h52 h53 h54 h56 h57 h58 h60 h61) (cwV 0 hts (mm_gV mm_w686 mm_w687 mm_w688 mm_w5 mm_w689) rfl rfl rfl hd_X12_lays ⟨by rw [hRf]; exact Nat.le_of_ble_eq_true rfl, by rw [hRl]; exact Nat.le_of_ble_eq_true rfl⟩) (mm_preV hK hZ hS hA hP hD [0, 1, 2, 4, 5, 8, 9, 10, 11] rfl rfl 0 rfl rfl rfl) rfl rfl hl.1 rfl (lv_room (Nat.le_of_ble_eq_true rfl)) dX12_takes__18 ⟨by rw [hRc]; exact Nat.le_of_ble_eq_true rfl, by rw [hRs]; exact Nat.le_of_ble_eq_true rfl⟩) hP hD hS hA (fun u : (Nat → Int32) × (Nat → Int32) × (Nat → Int32) => [(a_0, .inr (12, [.int 0, .ref a_1, .ref a_2, .ref a_3, .ref a_4, .ref a_5, .int i_3, .int i_4, .int i_5, .int i_6, .int i_7, .long j_0, .int i_8, .int i_9, .int i_10, .int i_11, .ref a_6, .ref a_7, .ref a_8, .ref a_9, .ref a_10, .ref a_11, .ref a_12, .ref a_13, .ref a_14, .ref a_15, .ref a_16, .ref a_17, .ref a_18, .int i_12, .int i_13, .int i_14, .int i_15, .int i_16, .int i_17, .ref a_19, .int i_18, .ref a_20])), (a_6, .inl (cy 1, 5, .inl (mm_g [i_19, i_20, i_21, i_22, i_23]))), (a_7, .inl (cy 1, 30, .inl (mm_g [i_24, i_25, i_26, i_27, i_28, i_29, i_30, i_31, i_32, i_33, i_34, i_35, i_36, i_37, i_38, i_39, i_40, i_41, i_42, i_43, i_44, i_45, i_46, i_47, i_48, i_49, i_50, i_51, i_52, i_53]))), (a_8, .inl (cy 1, 90, .inl f_0)), (a_9, .inl (cy 1, 15, .inl f_1)), (a_10, .inl (cy 1, 1050, .inl f_2)), (a_11, .inl (cy 1, 30, .inl f_3)), (a_12, .inl (cy 1, 240, .inl f_4)), (a_13, .inl (cy 1, 450, .inl f_5)), (a_15, .inl (cy 1, 7200, .inl u.1)), (a_16, .inl (cy 1, 3, .inl u.2.1)), (a_17, .inl (cy 1, 3, .inl u.2.2)), (a_18, .inl (cy 1, 8, .inl f_9))]) [0, 1, 2, 4, 5, 8, 9, 10, 11] [3, 6, 7, 12] (n := 13) (fun _ => rfl) (by decide +kernel) (by decide +kernel) rfl (fun _ => rfl) (wr := [(a_8, .inl (cy 1, 90, .inl f_0)), (a_11, .inl (cy 1, 30, .inl f_3)), (a_12, .inl (cy 1, 240, .inl f_4)), (a_18, .inl (cy 1, 8, .inl f_9))]) rfl (fun _ => rfl) (fun _ => @rfl _ ([a_0, a_6, a_7, a_9, a_10, a_13, a_15, a_16, a_17] : List Nat)) ?_
      clear hP hD hS
      clear H locs
      intro u
      obtain ⟨n10, n11, n12⟩ := u
      intro H locs hw (hP : va_P G vwCl [(a_0, .inr (12, [.int 0, .ref a_1, .ref a_2, .ref a_3, .ref a_4, .ref a_5, .int i_3, .int i_4, .int i_5, .int i_6, .int i_7, .long j_0, .int i_8, .int i_9, .int i_10, .int i_11, .ref a_6, .ref a_7, .ref a_8, .ref a_9, .ref a_10, .ref a_11, .ref a_12, .ref a_13, .ref a_14, .ref a_15, .ref a_16, .ref a_17, .ref a_18, .int i_12, .int i_13, .int i_14, .int i_15, .int i_16, .int i_17, .ref a_19, .int i_18, .ref a_20])), (a_6, .inl (cy 1, 5, .inl (mm_g [i_19, i_20, i_21, i_22, i_23]))), (a_7, .inl (cy 1, 30, .inl (mm_g [i_24, i_25, i_26, i_27, i_28, i_29, i_30, i_31, i_32, i_33, i_34, i_35, i_36, i_37, i_38, i_39, i_40, i_41, i_42, i_43, i_44, i_45, i_46, i_47, i_48, i_49, i_50, i_51, i_52, i_53]))), (a_8, .inl (cy 1, 90, .inl f_0)), (a_9, .inl (cy 1, 15, .inl f_1)), (a_10, .inl (cy 1, 1050, .inl f_2)), (a_11, .inl (cy 1, 30, .inl f_3)), (a_12, .inl (cy 1, 240, .inl f_4)), (a_13, .inl (cy 1, 450, .inl f_5)), (a_15, .inl (cy 1, 7200, .inl n10)), (a_16, .inl (cy 1, 3, .inl n11)), (a_17, .inl (cy 1, 3, .inl n12)), (a_18, .inl (cy 1, 8, .inl f_9))] H) (hD : va_D A [(a_0, .inr (12, [.int 0, .ref a_1, .ref a_2, .ref a_3, .ref a_4, .ref a_5, .int i_3, .int i_4, .int i_5, .int i_6, .int i_7, .long j_0, .int i_8, .int i_9, .int i_10, .int i_11, .ref a_6, .ref a_7, .ref a_8, .ref a_9, .ref a_10, .ref a_11, .ref a_12, .ref a_13, .ref a_14, .ref a_15, .ref a_16, .ref a_17, .ref a_18, .int i_12, .int i_13, .int i_14, .int i_15, .int i_16, .int i_17, .ref a_19, .int i_18, .ref a_20])), (a_6, .inl (cy 1, 5, .inl (mm_g [i_19, i_20, i_21, i_22, i_23]))), (a_7, .inl (cy 1, 30, .inl (mm_g [i_24, i_25, i_26, i_27, i_28, i_29, i_30, i_31, i_32, i_33, i_34, i_35, i_36, i_37, i_38, i_39, i_40, i_41, i_42, i_43, i_44, i_45, i_46, i_47, i_48, i_49, i_50, i_51, i_52, i_53]))), (a_8, .inl (cy 1, 90, .inl f_0)), (a_9, .inl (cy 1, 15, .inl f_1)), (a_10, .inl (cy 1, 1050, .inl f_2)), (a_11, .inl (cy 1, 30, .inl f_3)), (a_12, .inl (cy 1, 240, .inl f_4)), (a_13, .inl (cy 1, 450, .inl f_5)), (a_15, .inl (cy 1, 7200, .inl n10)), (a_16, .inl (cy 1, 3, .inl n11)), (a_17, .inl (cy 1, 3, .inl n12)), (a_18, .inl (cy 1, 8, .inl f_9))]) hS
      obtain ⟨w13, w14, w15, w16, w17⟩ := hw
      replace w16 : mm_laid n11 n12 i_27 := w16
      replace w17 : mm_tab n10 n11 i_26 i_27 := w17
      refine lv_iconst (v := 1) hx hb dX12_takes__21 (by decide) ?_
      refine lv_aload_n hx hb dX12_takes__22 rfl (lv_at hl 0 rfl) ?_
      refine mm_finir (va_runV (As := []) (rest := [.int 1]) ⟨hx, hb, hml, hown, hts⟩ (M95_X12_texts l G cy H.size a_0 0 a_1 a_2 a_3 a_4 a_5 i_3 i_4 i_5 i_6 i_7 j_0 i_8 i_9 i_10 i_11 a_6 a_7 a_8 a_9 a_10 a_11 a_12 a_13 a_14 a_15 a_16 a_17 a_18 i_12 i_13 i_14 i_15 i_16 i_17 a_19 i_18 a_20 i_24 i_25 i_26 i_27 i_28 i_29 i_30 i_31 i_32 i_33 i_34 i_35 i_36 i_37 i_38 i_39 i_40 i_41 i_42 i_43 i_44 i_45 i_46 i_47 i_48 i_49 i_50 i_51 i_52 i_53 h6 h7 h8 (mm_wk q7 (by decide)) h10 h11 h12 h13 h14 h15 h16 h17 h18 h19 h20 h21 h22 h23 h24 h25 h26 h27 h28 h29 h30 h31 h32 h33 h34 h35) (cwV 0 hts (mm_gV mm_w617 mm_w618 mm_w619 mm_w5 mm_w620) rfl rfl rfl hd_X12_texts ⟨by rw [hRf]; exact Nat.le_of_ble_eq_true rfl, by rw [hRl]; exact Nat.le_of_ble_eq_true rfl⟩) (mm_preV hK hZ hS hA hP hD [0, 2] rfl rfl 0 rfl rfl rfl) rfl rfl hl.1 rfl (lv_room (Nat.le_of_ble_eq_true rfl)) dX12_takes__23 ⟨by rw [hRc]; exact Nat.le_of_ble_eq_true rfl, by rw [hRs]; exact Nat.le_of_ble_eq_true rfl⟩) hP hD hS hA [0, 2] rfl (fun _ => rfl) ?_
      clear hP hD hS
      clear H locs
      intro v18 _u H locs hw hP hD hS
      subst hw
      refine lv_ishl hx hb dX12_takes__26 ?_
      refine lv_topi (fun v19 ev19 => ?_)
      have rv19 : mm_rg v19 1 64 := mm_shl1 ev19 h10 (by decide)
      refine lv_iconst (v := 1) hx hb dX12_takes__27 (by decide) ?_
      refine lv_isub hx hb dX12_takes__28 ?_
      refine lv_topi (fun v20 ev20 => ?_)
      have rv20 : mm_rg v20 0 63 := mm_sub ev20 rv19 mm_k1 (by decide) (by decide)
      have tv20 := mm_subEc ev20 rv19 mm_k1 (by decide) (k := (-1)) (by decide)
      refine lv_istore_n (lv' := [(3, .int v20), (0, .ref a_0), (1, .int i_0), (2, .int i_1)]) hx hb dX12_takes__29 rfl hl (by decide) rfl ?_
      clear hl
      clear ls
      intro ls hl
      refine lv_aload_n hx hb dX12_takes__30 rfl (lv_at hl 1 rfl) ?_
      refine lv_iload_n hx hb dX12_takes__31 rfl (lv_at hl 2 rfl) ?_
      refine lv_iload_n hx hb dX12_takes__32 rfl (lv_at hl 3 rfl) ?_
      refine lv_iload_n hx hb dX12_takes__33 rfl (lv_at hl 0 rfl) ?_
      refine mm_fini (va_runV (As := [.int i_0, .int i_1, .int v20]) (rest := []) ⟨hx, hb, hml, hown, hts⟩ (M239_X12_heirsOf l G cy H.size a_0 i_0 i_1 v20 0 a_1 a_2 a_3 a_4 a_5 i_3 i_4 i_5 i_6 i_7 j_0 i_8 i_9 i_10 i_11 a_6 a_7 a_8 a_9 a_10 a_11 a_12 a_13 a_14 a_15 a_16 a_17 a_18 i_12 i_13 i_14 i_15 i_16 i_17 a_19 i_18 a_20 i_24 i_25 i_26 i_27 i_28 i_29 i_30 i_31 i_32 i_33 i_34 i_35 i_36 i_37 i_38 i_39 i_40 i_41 i_42 i_43 i_44 i_45 i_46 i_47 i_48 i_49 i_50 i_51 i_52 i_53 f_0 f_3 f_4 f_5 n10 n11 f_9 w2 (mm_wk w3 (by decide)) rv20 h0 h6 h7 h8 (mm_wk q7 (by decide)) h10 h11 h12 h13 h14 h15 h16 h17 h18 h19 h20 h21 h22 h23 h24 h25 h26 h27 h28 h29 h30 h31 h32 h33 h34 h35 h36 h39 h40 h41 w13 w14 h45 h47 h48 h51 h52 h55 h56 h59 h60 (mm_f1_l w16 w4 w2 (by decide)) (mm_pc_rg rv20 (by decide) (by decide))) (cwV 3 hts (mm_gV mm_w1456 mm_w1457 mm_w1458 mm_w5 mm_w1459) rfl rfl rfl hd_X12_heirsOf ⟨by rw [hRf]; exact Nat.le_of_ble_eq_true rfl, by rw [hRl]; exact Nat.le_of_ble_eq_true rfl⟩) (mm_preV hK hZ hS hA hP hD [0, 2, 3, 6, 7, 8, 9, 10, 12] rfl rfl 0 rfl rfl rfl) rfl rfl hl.1 rfl (lv_room (Nat.le_of_ble_eq_true rfl)) dX12_takes__34 ⟨by rw [hRc]; exact Nat.le_of_ble_eq_true rfl, by rw [hRs]; exact Nat.le_of_ble_eq_true rfl⟩) hP hD hS hA (fun u : Int32 × Int32 × Int32 × (Nat → Int32) => [(a_0, .inr (12, [.int 0, .ref a_1, .ref a_2, .ref a_3, .ref a_4, .ref a_5, .int i_3, .int i_4, .int i_5, .int i_6, .int i_7, .long j_0, .int i_8, .int i_9, .int i_10, .int i_11, .ref a_6, .ref a_7, .ref a_8, .ref a_9, .ref a_10, .ref a_11, .ref a_12, .ref a_13, .ref a_14, .ref a_15, .ref a_16, .ref a_17, .ref a_18, .int u.1, .int u.2.1, .int u.2.2.1, .int i_15, .int i_16, .int i_17, .ref a_19, .int i_18, .ref a_20])), (a_6, .inl (cy 1, 5, .inl (mm_g [i_19, i_20, i_21, i_22, i_23]))), (a_7, .inl (cy 1, 30, .inl (mm_g [i_24, i_25, i_26, i_27, i_28, i_29, i_30, i_31, i_32, i_33, i_34, i_35, i_36, i_37, i_38, i_39, i_40, i_41, i_42, i_43, i_44, i_45, i_46, i_47, i_48, i_49, i_50, i_51, i_52, i_53]))), (a_8, .inl (cy 1, 90, .inl f_0)), (a_9, .inl (cy 1, 15, .inl f_1)), (a_10, .inl (cy 1, 1050, .inl f_2)), (a_11, .inl (cy 1, 30, .inl f_3)), (a_12, .inl (cy 1, 240, .inl f_4)), (a_13, .inl (cy 1, 450, .inl f_5)), (a_15, .inl (cy 1, 7200, .inl n10)), (a_16, .inl (cy 1, 3, .inl n11)), (a_17, .inl (cy 1, 3, .inl n12)), (a_18, .inl (cy 1, 8, .inl u.2.2.2))]) [0, 2, 3, 6, 7, 8, 9, 10, 12] [1, 4, 5, 11] (n := 13) (fun _ => rfl) (by decide +kernel) (by decide +kernel) rfl (fun _ => rfl) (wr := [(a_6, .inl (cy 1, 5, .inl (mm_g [i_19, i_20, i_21, i_22, i_23]))), (a_9, .inl (cy 1, 15, .inl f_1)), (a_10, .inl (cy 1, 1050, .inl f_2)), (a_17, .inl (cy 1, 3, .inl n12))]) rfl (fun _ => rfl) (fun _ => @rfl _ ([a_0, a_7, a_8, a_11, a_12, a_13, a_15, a_16, a_18] : List Nat)) ?_
      clear hP hD hS
      clear H locs
      intro v25 u
      obtain ⟨n21, n22, n23, n24⟩ := u
      intro H locs hw (hP : va_P G vwCl [(a_0, .inr (12, [.int 0, .ref a_1, .ref a_2, .ref a_3, .ref a_4, .ref a_5, .int i_3, .int i_4, .int i_5, .int i_6, .int i_7, .long j_0, .int i_8, .int i_9, .int i_10, .int i_11, .ref a_6, .ref a_7, .ref a_8, .ref a_9, .ref a_10, .ref a_11, .ref a_12, .ref a_13, .ref a_14, .ref a_15, .ref a_16, .ref a_17, .ref a_18, .int n21, .int n22, .int n23, .int i_15, .int i_16, .int i_17, .ref a_19, .int i_18, .ref a_20])), (a_6, .inl (cy 1, 5, .inl (mm_g [i_19, i_20, i_21, i_22, i_23]))), (a_7, .inl (cy 1, 30, .inl (mm_g [i_24, i_25, i_26, i_27, i_28, i_29, i_30, i_31, i_32, i_33, i_34, i_35, i_36, i_37, i_38, i_39, i_40, i_41, i_42, i_43, i_44, i_45, i_46, i_47, i_48, i_49, i_50, i_51, i_52, i_53]))), (a_8, .inl (cy 1, 90, .inl f_0)), (a_9, .inl (cy 1, 15, .inl f_1)), (a_10, .inl (cy 1, 1050, .inl f_2)), (a_11, .inl (cy 1, 30, .inl f_3)), (a_12, .inl (cy 1, 240, .inl f_4)), (a_13, .inl (cy 1, 450, .inl f_5)), (a_15, .inl (cy 1, 7200, .inl n10)), (a_16, .inl (cy 1, 3, .inl n11)), (a_17, .inl (cy 1, 3, .inl n12)), (a_18, .inl (cy 1, 8, .inl n24))] H) (hD : va_D A [(a_0, .inr (12, [.int 0, .ref a_1, .ref a_2, .ref a_3, .ref a_4, .ref a_5, .int i_3, .int i_4, .int i_5, .int i_6, .int i_7, .long j_0, .int i_8, .int i_9, .int i_10, .int i_11, .ref a_6, .ref a_7, .ref a_8, .ref a_9, .ref a_10, .ref a_11, .ref a_12, .ref a_13, .ref a_14, .ref a_15, .ref a_16, .ref a_17, .ref a_18, .int n21, .int n22, .int n23, .int i_15, .int i_16, .int i_17, .ref a_19, .int i_18, .ref a_20])), (a_6, .inl (cy 1, 5, .inl (mm_g [i_19, i_20, i_21, i_22, i_23]))), (a_7, .inl (cy 1, 30, .inl (mm_g [i_24, i_25, i_26, i_27, i_28, i_29, i_30, i_31, i_32, i_33, i_34, i_35, i_36, i_37, i_38, i_39, i_40, i_41, i_42, i_43, i_44, i_45, i_46, i_47, i_48, i_49, i_50, i_51, i_52, i_53]))), (a_8, .inl (cy 1, 90, .inl f_0)), (a_9, .inl (cy 1, 15, .inl f_1)), (a_10, .inl (cy 1, 1050, .inl f_2)), (a_11, .inl (cy 1, 30, .inl f_3)), (a_12, .inl (cy 1, 240, .inl f_4)), (a_13, .inl (cy 1, 450, .inl f_5)), (a_15, .inl (cy 1, 7200, .inl n10)), (a_16, .inl (cy 1, 3, .inl n11)), (a_17, .inl (cy 1, 3, .inl n12)), (a_18, .inl (cy 1, 8, .inl n24))]) hS
      obtain ⟨w26, w27, hw⟩ := hw
      have w28 := hw
      refine lv_istore (lv' := [(4, .int v25), (3, .int v20), (0, .ref a_0), (1, .int i_0), (2, .int i_1)]) hx hb dX12_takes__37 hl (by decide) rfl ?_
      clear hl
      clear ls
      intro ls hl
      refine lv_iconst (v := 0) hx hb dX12_takes__39 (by decide) ?_
      refine lv_istore (lv' := [(5, .int 0), (4, .int v25), (3, .int v20), (0, .ref a_0), (1, .int i_0), (2, .int i_1)]) hx hb dX12_takes__40 hl (by decide) rfl ?_
      clear hl
      clear ls
      intro ls hl
      have L42_264 : ∀ (n : Nat) (x42_5_260 : Int32) (y42_0_29_261 : Int32) (y42_0_30_262 : Int32) (y42_0_31_263 : Int32) (z42_12_264 : Nat → Int32), mm_rg x42_5_260 0 6 → mm_rg y42_0_29_261 0 8 → mm_ar z42_12_264 0 9 → (6 - x42_5_260.toInt).toNat < n → ∀ (H : Heap) (locs : List Loc), va_P G vwCl [(a_0, .inr (12, [.int 0, .ref a_1, .ref a_2, .ref a_3, .ref a_4, .ref a_5, .int i_3, .int i_4, .int i_5, .int i_6, .int i_7, .long j_0, .int i_8, .int i_9, .int i_10, .int i_11, .ref a_6, .ref a_7, .ref a_8, .ref a_9, .ref a_10, .ref a_11, .ref a_12, .ref a_13, .ref a_14, .ref a_15, .ref a_16, .ref a_17, .ref a_18, .int y42_0_29_261, .int y42_0_30_262, .int y42_0_31_263, .int i_15, .int i_16, .int i_17, .ref a_19, .int i_18, .ref a_20])), (a_6, .inl (cy 1, 5, .inl (mm_g [i_19, i_20, i_21, i_22, i_23]))), (a_7, .inl (cy 1, 30, .inl (mm_g [i_24, i_25, i_26, i_27, i_28, i_29, i_30, i_31, i_32, i_33, i_34, i_35, i_36, i_37, i_38, i_39, i_40, i_41, i_42, i_43, i_44, i_45, i_46, i_47, i_48, i_49, i_50, i_51, i_52, i_53]))), (a_8, .inl (cy 1, 90, .inl f_0)), (a_9, .inl (cy 1, 15, .inl f_1)), (a_10, .inl (cy 1, 1050, .inl f_2)), (a_11, .inl (cy 1, 30, .inl f_3)), (a_12, .inl (cy 1, 240, .inl f_4)), (a_13, .inl (cy 1, 450, .inl f_5)), (a_15, .inl (cy 1, 7200, .inl n10)), (a_16, .inl (cy 1, 3, .inl n11)), (a_17, .inl (cy 1, 3, .inl n12)), (a_18, .inl (cy 1, 8, .inl z42_12_264))] H → va_D A [(a_0, .inr (12, [.int 0, .ref a_1, .ref a_2, .ref a_3, .ref a_4, .ref a_5, .int i_3, .int i_4, .int i_5, .int i_6, .int i_7, .long j_0, .int i_8, .int i_9, .int i_10, .int i_11, .ref a_6, .ref a_7, .ref a_8, .ref a_9, .ref a_10, .ref a_11, .ref a_12, .ref a_13, .ref a_14, .ref a_15, .ref a_16, .ref a_17, .ref a_18, .int y42_0_29_261, .int y42_0_30_262, .int y42_0_31_263, .int i_15, .int i_16, .int i_17, .ref a_19, .int i_18, .ref a_20])), (a_6, .inl (cy 1, 5, .inl (mm_g [i_19, i_20, i_21, i_22, i_23]))), (a_7, .inl (cy 1, 30, .inl (mm_g [i_24, i_25, i_26, i_27, i_28, i_29, i_30, i_31, i_32, i_33, i_34, i_35, i_36, i_37, i_38, i_39, i_40, i_41, i_42, i_43, i_44, i_45, i_46, i_47, i_48, i_49, i_50, i_51, i_52, i_53]))), (a_8, .inl (cy 1, 90, .inl f_0)), (a_9, .inl (cy 1, 15, .inl f_1)), (a_10, .inl (cy 1, 1050, .inl f_2)), (a_11, .inl (cy 1, 30, .inl f_3)), (a_12, .inl (cy 1, 240, .inl f_4)), (a_13, .inl (cy 1, 450, .inl f_5)), (a_15, .inl (cy 1, 7200, .inl n10)), (a_16, .inl (cy 1, 3, .inl n11)), (a_17, .inl (cy 1, 3, .inl n12)), (a_18, .inl (cy 1, 8, .inl z42_12_264))] → va_S A s.heap H locs → ∀ (ls : Array Slot), lv_has ls 6 [(5, .int x42_5_260), (4, .int v25), (3, .int v20), (0, .ref a_0), (1, .int i_0), (2, .int i_1)] → W p l e R s m args below meth c H locs 0 0 Q (F0 m 42 ls []) := by
        intro n
        induction n with
        | zero => intro x42_5_260 y42_0_29_261 y42_0_30_262 y42_0_31_263 z42_12_264 rx42_5_260 ry42_0_29_261 rz42_12_264 hm; exact absurd hm (Nat.not_lt_zero _)
        | succ n ih42 =>
          intro x42_5_260 y42_0_29_261 y42_0_30_262 y42_0_31_263 z42_12_264 rx42_5_260 ry42_0_29_261 rz42_12_264 hm42 H locs hP hD hS ls hl
          refine lv_iload hx hb dX12_takes__42 (lv_at hl 0 rfl) ?_
          refine lv_aload_n hx hb dX12_takes__44 rfl (lv_at hl 3 rfl) ?_
          refine mm_finir (va_runV (As := []) (rest := [.int x42_5_260]) ⟨hx, hb, hml, hown, hts⟩ (M95_X12_texts l G cy H.size a_0 0 a_1 a_2 a_3 a_4 a_5 i_3 i_4 i_5 i_6 i_7 j_0 i_8 i_9 i_10 i_11 a_6 a_7 a_8 a_9 a_10 a_11 a_12 a_13 a_14 a_15 a_16 a_17 a_18 y42_0_29_261 y42_0_30_262 y42_0_31_263 i_15 i_16 i_17 a_19 i_18 a_20 i_24 i_25 i_26 i_27 i_28 i_29 i_30 i_31 i_32 i_33 i_34 i_35 i_36 i_37 i_38 i_39 i_40 i_41 i_42 i_43 i_44 i_45 i_46 i_47 i_48 i_49 i_50 i_51 i_52 i_53 h6 h7 h8 (mm_wk q7 (by decide)) h10 h11 h12 h13 h14 h15 h16 h17 h18 h19 h20 h21 h22 h23 h24 h25 h26 h27 h28 h29 h30 h31 h32 h33 h34 h35) (cwV 0 hts (mm_gV mm_w617 mm_w618 mm_w619 mm_w5 mm_w620) rfl rfl rfl hd_X12_texts ⟨by rw [hRf]; exact Nat.le_of_ble_eq_true rfl, by rw [hRl]; exact Nat.le_of_ble_eq_true rfl⟩) (mm_preV hK hZ hS hA hP hD [0, 2] rfl rfl 0 rfl rfl rfl) rfl rfl hl.1 rfl (lv_room (Nat.le_of_ble_eq_true rfl)) dX12_takes__45 ⟨by rw [hRc]; exact Nat.le_of_ble_eq_true rfl, by rw [hRs]; exact Nat.le_of_ble_eq_true rfl⟩) hP hD hS hA [0, 2] rfl (fun _ => rfl) ?_
          clear hP hD hS
          clear H locs
          intro v266 _u H locs hw hP hD hS
          subst hw
          refine lv_icmp_ge (tgt := 90) hx hb dX12_takes__48 (by decide) (fun c267 => ?_) (fun c267 => ?_)
          · refine lv_iconst (v := (-1)) hx hb dX12_takes__90 (by decide) ?_
            subst hAe
            rw [hQ]
            exact W.iret (v := (-1)) hx hb hr (fun t ht hW => ⟨⟨(-1), (y42_0_29_261, y42_0_30_262, y42_0_31_263, n10, n11, n12, z42_12_264), rfl, ⟨ry42_0_29_261, w13, w14, w15, rz42_12_264, (mm_wk mm_km1 (by decide))⟩, by rw [ht]; exact hP, hK.warm hW, hD⟩, hS.F ht⟩) hS.2.2 dX12_takes__91
          · have q268 := mm_ltL (h := 5) (mm_nle c267) rx42_5_260 h10 (by decide)
            have q269 := mm_ltR (lo := 1) (mm_nle c267) rx42_5_260 h10 (by decide)
            refine lv_aload_n hx hb dX12_takes__51 rfl (lv_at hl 3 rfl) ?_
            refine lv_iload_n hx hb dX12_takes__52 rfl (lv_at hl 4 rfl) ?_
            refine lv_iload_n hx hb dX12_takes__53 rfl (lv_at hl 5 rfl) ?_
            refine lv_iload hx hb dX12_takes__54 (lv_at hl 0 rfl) ?_
            refine mm_fini (va_runV (As := [.int i_0, .int i_1, .int x42_5_260]) (rest := []) ⟨hx, hb, hml, hown, hts⟩ (M141_X12_reads l G cy H.size a_0 i_0 i_1 x42_5_260 0 a_1 a_2 a_3 a_4 a_5 i_3 i_4 i_5 i_6 i_7 j_0 i_8 i_9 i_10 i_11 a_6 a_7 a_8 a_9 a_10 a_11 a_12 a_13 a_14 a_15 a_16 a_17 a_18 y42_0_29_261 y42_0_30_262 y42_0_31_263 i_15 i_16 i_17 a_19 i_18 a_20 i_24 i_25 i_26 i_27 i_28 i_29 i_30 i_31 i_32 i_33 i_34 i_35 i_36 i_37 i_38 i_39 i_40 i_41 i_42 i_43 i_44 i_45 i_46 i_47 i_48 i_49 i_50 i_51 i_52 i_53 f_0 f_3 f_4 f_5 n10 n11 z42_12_264 w2 (mm_wk w3 (by decide)) q268 ry42_0_29_261 h6 h7 h8 (mm_wk q7 (by decide)) (mm_wk q269 (by decide)) h11 h12 h13 h14 h15 h16 h17 h18 h19 h20 h21 h22 h23 h24 h25 h26 h27 h28 h29 h30 h31 h32 h33 h34 h35 h36 h39 h40 h41 w13 w14 rz42_12_264 h47 h48 h51 h52 h55 h56 h59 h60 (mm_f1_l w16 w4 w2 (by decide))) (cwV 3 hts (mm_gV mm_w852 mm_w853 mm_w854 mm_w5 mm_w855) rfl rfl rfl hd_X12_reads ⟨by rw [hRf]; exact Nat.le_of_ble_eq_true rfl, by rw [hRl]; exact Nat.le_of_ble_eq_true rfl⟩) (mm_preV hK hZ hS hA hP hD [0, 2, 3, 6, 7, 8, 9, 10, 12] rfl rfl 0 rfl rfl rfl) rfl rfl hl.1 rfl (lv_room (Nat.le_of_ble_eq_true rfl)) dX12_takes__56 ⟨by rw [hRc]; exact Nat.le_of_ble_eq_true rfl, by rw [hRs]; exact Nat.le_of_ble_eq_true rfl⟩) hP hD hS hA (fun u : Int32 × Int32 × Int32 × (Nat → Int32) => [(a_0, .inr (12, [.int 0, .ref a_1, .ref a_2, .ref a_3, .ref a_4, .ref a_5, .int i_3, .int i_4, .int i_5, .int i_6, .int i_7, .long j_0, .int i_8, .int i_9, .int i_10, .int i_11, .ref a_6, .ref a_7, .ref a_8, .ref a_9, .ref a_10, .ref a_11, .ref a_12, .ref a_13, .ref a_14, .ref a_15, .ref a_16, .ref a_17, .ref a_18, .int u.1, .int u.2.1, .int u.2.2.1, .int i_15, .int i_16, .int i_17, .ref a_19, .int i_18, .ref a_20])), (a_6, .inl (cy 1, 5, .inl (mm_g [i_19, i_20, i_21, i_22, i_23]))), (a_7, .inl (cy 1, 30, .inl (mm_g [i_24, i_25, i_26, i_27, i_28, i_29, i_30, i_31, i_32, i_33, i_34, i_35, i_36, i_37, i_38, i_39, i_40, i_41, i_42, i_43, i_44, i_45, i_46, i_47, i_48, i_49, i_50, i_51, i_52, i_53]))), (a_8, .inl (cy 1, 90, .inl f_0)), (a_9, .inl (cy 1, 15, .inl f_1)), (a_10, .inl (cy 1, 1050, .inl f_2)), (a_11, .inl (cy 1, 30, .inl f_3)), (a_12, .inl (cy 1, 240, .inl f_4)), (a_13, .inl (cy 1, 450, .inl f_5)), (a_15, .inl (cy 1, 7200, .inl n10)), (a_16, .inl (cy 1, 3, .inl n11)), (a_17, .inl (cy 1, 3, .inl n12)), (a_18, .inl (cy 1, 8, .inl u.2.2.2))]) [0, 2, 3, 6, 7, 8, 9, 10, 12] [1, 4, 5, 11] (n := 13) (fun _ => rfl) (by decide +kernel) (by decide +kernel) rfl (fun _ => rfl) (wr := [(a_6, .inl (cy 1, 5, .inl (mm_g [i_19, i_20, i_21, i_22, i_23]))), (a_9, .inl (cy 1, 15, .inl f_1)), (a_10, .inl (cy 1, 1050, .inl f_2)), (a_17, .inl (cy 1, 3, .inl n12))]) rfl (fun _ => rfl) (fun _ => @rfl _ ([a_0, a_7, a_8, a_11, a_12, a_13, a_15, a_16, a_18] : List Nat)) ?_
            clear hP hD hS
            clear H locs
            intro v274 u
            obtain ⟨n270, n271, n272, n273⟩ := u
            intro H locs hw (hP : va_P G vwCl [(a_0, .inr (12, [.int 0, .ref a_1, .ref a_2, .ref a_3, .ref a_4, .ref a_5, .int i_3, .int i_4, .int i_5, .int i_6, .int i_7, .long j_0, .int i_8, .int i_9, .int i_10, .int i_11, .ref a_6, .ref a_7, .ref a_8, .ref a_9, .ref a_10, .ref a_11, .ref a_12, .ref a_13, .ref a_14, .ref a_15, .ref a_16, .ref a_17, .ref a_18, .int n270, .int n271, .int n272, .int i_15, .int i_16, .int i_17, .ref a_19, .int i_18, .ref a_20])), (a_6, .inl (cy 1, 5, .inl (mm_g [i_19, i_20, i_21, i_22, i_23]))), (a_7, .inl (cy 1, 30, .inl (mm_g [i_24, i_25, i_26, i_27, i_28, i_29, i_30, i_31, i_32, i_33, i_34, i_35, i_36, i_37, i_38, i_39, i_40, i_41, i_42, i_43, i_44, i_45, i_46, i_47, i_48, i_49, i_50, i_51, i_52, i_53]))), (a_8, .inl (cy 1, 90, .inl f_0)), (a_9, .inl (cy 1, 15, .inl f_1)), (a_10, .inl (cy 1, 1050, .inl f_2)), (a_11, .inl (cy 1, 30, .inl f_3)), (a_12, .inl (cy 1, 240, .inl f_4)), (a_13, .inl (cy 1, 450, .inl f_5)), (a_15, .inl (cy 1, 7200, .inl n10)), (a_16, .inl (cy 1, 3, .inl n11)), (a_17, .inl (cy 1, 3, .inl n12)), (a_18, .inl (cy 1, 8, .inl n273))] H) (hD : va_D A [(a_0, .inr (12, [.int 0, .ref a_1, .ref a_2, .ref a_3, .ref a_4, .ref a_5, .int i_3, .int i_4, .int i_5, .int i_6, .int i_7, .long j_0, .int i_8, .int i_9, .int i_10, .int i_11, .ref a_6, .ref a_7, .ref a_8, .ref a_9, .ref a_10, .ref a_11, .ref a_12, .ref a_13, .ref a_14, .ref a_15, .ref a_16, .ref a_17, .ref a_18, .int n270, .int n271, .int n272, .int i_15, .int i_16, .int i_17, .ref a_19, .int i_18, .ref a_20])), (a_6, .inl (cy 1, 5, .inl (mm_g [i_19, i_20, i_21, i_22, i_23]))), (a_7, .inl (cy 1, 30, .inl (mm_g [i_24, i_25, i_26, i_27, i_28, i_29, i_30, i_31, i_32, i_33, i_34, i_35, i_36, i_37, i_38, i_39, i_40, i_41, i_42, i_43, i_44, i_45, i_46, i_47, i_48, i_49, i_50, i_51, i_52, i_53]))), (a_8, .inl (cy 1, 90, .inl f_0)), (a_9, .inl (cy 1, 15, .inl f_1)), (a_10, .inl (cy 1, 1050, .inl f_2)), (a_11, .inl (cy 1, 30, .inl f_3)), (a_12, .inl (cy 1, 240, .inl f_4)), (a_13, .inl (cy 1, 450, .inl f_5)), (a_15, .inl (cy 1, 7200, .inl n10)), (a_16, .inl (cy 1, 3, .inl n11)), (a_17, .inl (cy 1, 3, .inl n12)), (a_18, .inl (cy 1, 8, .inl n273))]) hS
            obtain ⟨w275, w276, hw⟩ := hw
            obtain ⟨w277, w278⟩ := hw
            replace w278 : mm_rd n10 n11 f_0 f_3 f_4 f_5 i_0 i_1 x42_5_260 i_25 i_26 i_29 v274 := w278
            refine lv_aload_n hx hb dX12_takes__59 rfl (lv_at hl 3 rfl) ?_
            refine lv_iload_n hx hb dX12_takes__60 rfl (lv_at hl 4 rfl) ?_
            refine lv_iload_n hx hb dX12_takes__61 rfl (lv_at hl 5 rfl) ?_
            refine lv_iconst (v := 1) hx hb dX12_takes__62 (by decide) ?_
            refine lv_iadd hx hb dX12_takes__63 ?_
            refine lv_topi (fun v279 ev279 => ?_)
            have rv279 : mm_rg v279 1 1000000001 := mm_add ev279 w3 mm_k1 (by decide) (by decide)
            have tv279 := mm_addEc ev279 w3 mm_k1 (by decide) (k := 1) (by decide)
            refine lv_iload_n hx hb dX12_takes__64 rfl (lv_at hl 2 rfl) ?_
            refine lv_iconst (v := 1) hx hb dX12_takes__65 (by decide) ?_
            refine lv_iload hx hb dX12_takes__66 (lv_at hl 0 rfl) ?_
            refine lv_ishl hx hb dX12_takes__68 ?_
            refine lv_topi (fun v280 ev280 => ?_)
            have rv280 : mm_rg v280 1 32 := mm_shl1 ev280 q268 (by decide)
            refine lv_iconst (v := (-1)) hx hb dX12_takes__69 (by decide) ?_
            refine lv_ixor hx hb dX12_takes__70 ?_
            refine lv_topi (fun v281 ev281 => ?_)
            refine lv_iand hx hb dX12_takes__71 ?_
            refine lv_topi (fun v282 ev282 => ?_)
            have rv282 : mm_rg v282 0 63 := mm_andL ev282 rv20 (by decide)
            refine mm_fini (va_runV (As := [.int i_0, .int v279, .int v282]) (rest := [.int v274]) ⟨hx, hb, hml, hown, hts⟩ (M239_X12_heirsOf l G cy H.size a_0 i_0 v279 v282 0 a_1 a_2 a_3 a_4 a_5 i_3 i_4 i_5 i_6 i_7 j_0 i_8 i_9 i_10 i_11 a_6 a_7 a_8 a_9 a_10 a_11 a_12 a_13 a_14 a_15 a_16 a_17 a_18 n270 n271 n272 i_15 i_16 i_17 a_19 i_18 a_20 i_24 i_25 i_26 i_27 i_28 i_29 i_30 i_31 i_32 i_33 i_34 i_35 i_36 i_37 i_38 i_39 i_40 i_41 i_42 i_43 i_44 i_45 i_46 i_47 i_48 i_49 i_50 i_51 i_52 i_53 f_0 f_3 f_4 f_5 n10 n11 n273 w2 (mm_wk rv279 (by decide)) rv282 w275 h6 h7 h8 (mm_wk q7 (by decide)) (mm_wk q269 (by decide)) h11 h12 h13 h14 h15 h16 h17 h18 h19 h20 h21 h22 h23 h24 h25 h26 h27 h28 h29 h30 h31 h32 h33 h34 h35 h36 h39 h40 h41 w13 w14 w276 h47 h48 h51 h52 h55 h56 h59 h60 (mm_f1_l w16 w4 w2 (by decide)) (mm_pc_rg rv282 (by decide) (by decide))) (cwV 3 hts (mm_gV mm_w1456 mm_w1457 mm_w1458 mm_w5 mm_w1459) rfl rfl rfl hd_X12_heirsOf ⟨by rw [hRf]; exact Nat.le_of_ble_eq_true rfl, by rw [hRl]; exact Nat.le_of_ble_eq_true rfl⟩) (mm_preV hK hZ hS hA hP hD [0, 2, 3, 6, 7, 8, 9, 10, 12] rfl rfl 0 rfl rfl rfl) rfl rfl hl.1 rfl (lv_room (Nat.le_of_ble_eq_true rfl)) dX12_takes__72 ⟨by rw [hRc]; exact Nat.le_of_ble_eq_true rfl, by rw [hRs]; exact Nat.le_of_ble_eq_true rfl⟩) hP hD hS hA (fun u : Int32 × Int32 × Int32 × (Nat → Int32) => [(a_0, .inr (12, [.int 0, .ref a_1, .ref a_2, .ref a_3, .ref a_4, .ref a_5, .int i_3, .int i_4, .int i_5, .int i_6, .int i_7, .long j_0, .int i_8, .int i_9, .int i_10, .int i_11, .ref a_6, .ref a_7, .ref a_8, .ref a_9, .ref a_10, .ref a_11, .ref a_12, .ref a_13, .ref a_14, .ref a_15, .ref a_16, .ref a_17, .ref a_18, .int u.1, .int u.2.1, .int u.2.2.1, .int i_15, .int i_16, .int i_17, .ref a_19, .int i_18, .ref a_20])), (a_6, .inl (cy 1, 5, .inl (mm_g [i_19, i_20, i_21, i_22, i_23]))), (a_7, .inl (cy 1, 30, .inl (mm_g [i_24, i_25, i_26, i_27, i_28, i_29, i_30, i_31, i_32, i_33, i_34, i_35, i_36, i_37, i_38, i_39, i_40, i_41, i_42, i_43, i_44, i_45, i_46, i_47, i_48, i_49, i_50, i_51, i_52, i_53]))), (a_8, .inl (cy 1, 90, .inl f_0)), (a_9, .inl (cy 1, 15, .inl f_1)), (a_10, .inl (cy 1, 1050, .inl f_2)), (a_11, .inl (cy 1, 30, .inl f_3)), (a_12, .inl (cy 1, 240, .inl f_4)), (a_13, .inl (cy 1, 450, .inl f_5)), (a_15, .inl (cy 1, 7200, .inl n10)), (a_16, .inl (cy 1, 3, .inl n11)), (a_17, .inl (cy 1, 3, .inl n12)), (a_18, .inl (cy 1, 8, .inl u.2.2.2))]) [0, 2, 3, 6, 7, 8, 9, 10, 12] [1, 4, 5, 11] (n := 13) (fun _ => rfl) (by decide +kernel) (by decide +kernel) rfl (fun _ => rfl) (wr := [(a_6, .inl (cy 1, 5, .inl (mm_g [i_19, i_20, i_21, i_22, i_23]))), (a_9, .inl (cy 1, 15, .inl f_1)), (a_10, .inl (cy 1, 1050, .inl f_2)), (a_17, .inl (cy 1, 3, .inl n12))]) rfl (fun _ => rfl) (fun _ => @rfl _ ([a_0, a_7, a_8, a_11, a_12, a_13, a_15, a_16, a_18] : List Nat)) ?_
            clear hP hD hS
            clear H locs
            intro v287 u
            obtain ⟨n283, n284, n285, n286⟩ := u
            intro H locs hw (hP : va_P G vwCl [(a_0, .inr (12, [.int 0, .ref a_1, .ref a_2, .ref a_3, .ref a_4, .ref a_5, .int i_3, .int i_4, .int i_5, .int i_6, .int i_7, .long j_0, .int i_8, .int i_9, .int i_10, .int i_11, .ref a_6, .ref a_7, .ref a_8, .ref a_9, .ref a_10, .ref a_11, .ref a_12, .ref a_13, .ref a_14, .ref a_15, .ref a_16, .ref a_17, .ref a_18, .int n283, .int n284, .int n285, .int i_15, .int i_16, .int i_17, .ref a_19, .int i_18, .ref a_20])), (a_6, .inl (cy 1, 5, .inl (mm_g [i_19, i_20, i_21, i_22, i_23]))), (a_7, .inl (cy 1, 30, .inl (mm_g [i_24, i_25, i_26, i_27, i_28, i_29, i_30, i_31, i_32, i_33, i_34, i_35, i_36, i_37, i_38, i_39, i_40, i_41, i_42, i_43, i_44, i_45, i_46, i_47, i_48, i_49, i_50, i_51, i_52, i_53]))), (a_8, .inl (cy 1, 90, .inl f_0)), (a_9, .inl (cy 1, 15, .inl f_1)), (a_10, .inl (cy 1, 1050, .inl f_2)), (a_11, .inl (cy 1, 30, .inl f_3)), (a_12, .inl (cy 1, 240, .inl f_4)), (a_13, .inl (cy 1, 450, .inl f_5)), (a_15, .inl (cy 1, 7200, .inl n10)), (a_16, .inl (cy 1, 3, .inl n11)), (a_17, .inl (cy 1, 3, .inl n12)), (a_18, .inl (cy 1, 8, .inl n286))] H) (hD : va_D A [(a_0, .inr (12, [.int 0, .ref a_1, .ref a_2, .ref a_3, .ref a_4, .ref a_5, .int i_3, .int i_4, .int i_5, .int i_6, .int i_7, .long j_0, .int i_8, .int i_9, .int i_10, .int i_11, .ref a_6, .ref a_7, .ref a_8, .ref a_9, .ref a_10, .ref a_11, .ref a_12, .ref a_13, .ref a_14, .ref a_15, .ref a_16, .ref a_17, .ref a_18, .int n283, .int n284, .int n285, .int i_15, .int i_16, .int i_17, .ref a_19, .int i_18, .ref a_20])), (a_6, .inl (cy 1, 5, .inl (mm_g [i_19, i_20, i_21, i_22, i_23]))), (a_7, .inl (cy 1, 30, .inl (mm_g [i_24, i_25, i_26, i_27, i_28, i_29, i_30, i_31, i_32, i_33, i_34, i_35, i_36, i_37, i_38, i_39, i_40, i_41, i_42, i_43, i_44, i_45, i_46, i_47, i_48, i_49, i_50, i_51, i_52, i_53]))), (a_8, .inl (cy 1, 90, .inl f_0)), (a_9, .inl (cy 1, 15, .inl f_1)), (a_10, .inl (cy 1, 1050, .inl f_2)), (a_11, .inl (cy 1, 30, .inl f_3)), (a_12, .inl (cy 1, 240, .inl f_4)), (a_13, .inl (cy 1, 450, .inl f_5)), (a_15, .inl (cy 1, 7200, .inl n10)), (a_16, .inl (cy 1, 3, .inl n11)), (a_17, .inl (cy 1, 3, .inl n12)), (a_18, .inl (cy 1, 8, .inl n286))]) hS
            obtain ⟨w288, w289, hw⟩ := hw
            have w290 := hw
            refine lv_isub hx hb dX12_takes__75 ?_
            refine lv_topi (fun v291 ev291 => ?_)
            have rv291 : mm_rg v291 (-1009999) 1009999 := mm_sub ev291 w277 w290 (by decide) (by decide)
            have tv291 := mm_subE ev291 w277 w290 (by decide)
            refine lv_iload hx hb dX12_takes__76 (lv_at hl 1 rfl) ?_
            refine lv_icmp_ne (tgt := 84) hx hb dX12_takes__78 (by decide) (fun c292 => ?_) (fun c292 => ?_)
            · obtain ⟨v293, ev293⟩ : ∃ y : Int32, y = x42_5_260 + 1 := ⟨_, rfl⟩
              refine lv_iinc (v := v293) (lv' := [(5, .int v293), (4, .int v25), (3, .int v20), (0, .ref a_0), (1, .int i_0), (2, .int i_1)]) hx hb dX12_takes__84 hl (k := 0) rfl (by rw [ev293]; rfl) (by decide) rfl ?_
              clear hl
              clear ls
              intro ls hl
              have rv293 : mm_rg v293 1 6 := mm_add ev293 q268 mm_k1 (by decide) (by decide)
              have tv293 := mm_addEc ev293 q268 mm_k1 (by decide) (k := 1) (by decide)
              refine lv_goto (tgt := 42) hx hb dX12_takes__87 (by decide) ?_
              exact ih42 v293 n283 n284 n285 n286 (mm_wk rv293 (by decide)) w288 w289 (mm_mu hm42 tv293 (by decide) (rv293).2 (by decide)) H locs hP hD hS ls (lv_sub hl [0, 1, 2, 3, 4, 5] rfl)
            · have q294 := mm_eqI (lo := (-1000000)) (hi := 1009999) c292 rv291 w28 (by decide)
              refine lv_iload hx hb dX12_takes__81 (lv_at hl 0 rfl) ?_
              subst hAe
              rw [hQ]
              exact W.iret (v := x42_5_260) hx hb hr (fun t ht hW => ⟨⟨x42_5_260, (n283, n284, n285, n10, n11, n12, n286), rfl, ⟨w288, w13, w14, w15, w289, (mm_wk q268 (by decide))⟩, by rw [ht]; exact hP, hK.warm hW, hD⟩, hS.F ht⟩) hS.2.2 dX12_takes__83
      exact L42_264 _ 0 n21 n22 n23 n24 (mm_wk mm_k0 (by decide)) w26 w27 (Nat.lt_succ_self _) H locs hP hD hS ls (lv_sub hl [0, 1, 2, 3, 4, 5] rfl)
    · exact mm_eqN c9.symm mm_k0 mm_k1 (by decide)

set_option maxHeartbeats 4000000 in
set_option maxRecDepth 100000 in
theorem M242_X12_greedy (l : Launch) (G : va_G) (cy : Nat → ClassId) (sz : Nat) (a_0 : Nat) (i_0 : Int32) (i_1 : Int32) (i_2 : Int32) (a_1 : Nat) (a_2 : Nat) (a_3 : Nat) (a_4 : Nat) (a_5 : Nat) (i_3 : Int32) (i_4 : Int32) (i_5 : Int32) (i_6 : Int32) (i_7 : Int32) (j_0 : Int64) (i_8 : Int32) (i_9 : Int32) (i_10 : Int32) (i_11 : Int32) (a_6 : Nat) (a_7 : Nat) (a_8 : Nat) (a_9 : Nat) (a_10 : Nat) (a_11 : Nat) (a_12 : Nat) (a_13 : Nat) (a_14 : Nat) (a_15 : Nat) (a_16 : Nat) (a_17 : Nat) (a_18 : Nat) (i_12 : Int32) (i_13 : Int32) (i_14 : Int32) (i_15 : Int32) (i_16 : Int32) (i_17 : Int32) (a_19 : Nat) (i_18 : Int32) (a_20 : Nat) (i_19 : Int32) (i_20 : Int32) (i_21 : Int32) (i_22 : Int32) (i_23 : Int32) (i_24 : Int32) (i_25 : Int32) (i_26 : Int32) (i_27 : Int32) (i_28 : Int32) (i_29 : Int32) (i_30 : Int32) (i_31 : Int32) (i_32 : Int32) (i_33 : Int32) (i_34 : Int32) (i_35 : Int32) (i_36 : Int32) (i_37 : Int32) (i_38 : Int32) (i_39 : Int32) (i_40 : Int32) (i_41 : Int32) (i_42 : Int32) (i_43 : Int32) (i_44 : Int32) (i_45 : Int32) (i_46 : Int32) (i_47 : Int32) (i_48 : Int32) (i_49 : Int32) (i_50 : Int32) (i_51 : Int32) (i_52 : Int32) (i_53 : Int32) (f_0 : Nat → Int32) (f_1 : Nat → Int32) (f_2 : Nat → Int32) (f_3 : Nat → Int32) (f_4 : Nat → Int32) (f_5 : Nat → Int32) (f_6 : Nat → Int32) (f_7 : Nat → Int32) (f_8 : Nat → Int32) (f_9 : Nat → Int32) (h0 : mm_rg i_12 0 8) (h1 : mm_rg i_19 0 601) (h2 : mm_rg i_20 0 601) (h3 : mm_rg i_21 0 601) (h4 : mm_rg i_22 0 601) (h5 : mm_rg i_23 0 601) (h6 : mm_rg i_24 0 10) (h7 : mm_rg i_25 0 99) (h8 : mm_rg i_26 0 9) (h9 : mm_rg i_27 0 3) (h10 : mm_rg i_28 0 6) (h11 : mm_rg i_29 0 30) (h12 : mm_rg i_30 0 10) (h13 : mm_rg i_31 0 99) (h14 : mm_rg i_32 0 9) (h15 : mm_rg i_33 0 3) (h16 : mm_rg i_34 0 6) (h17 : mm_rg i_35 0 30) (h18 : mm_rg i_36 0 10) (h19 : mm_rg i_37 0 99) (h20 : mm_rg i_38 0 9) (h21 : mm_rg i_39 0 3) (h22 : mm_rg i_40 0 6) (h23 : mm_rg i_41 0 30) (h24 : mm_rg i_42 0 10) (h25 : mm_rg i_43 0 99) (h26 : mm_rg i_44 0 9) (h27 : mm_rg i_45 0 3) (h28 : mm_rg i_46 0 6) (h29 : mm_rg i_47 0 30) (h30 : mm_rg i_48 0 10) (h31 : mm_rg i_49 0 99) (h32 : mm_rg i_50 0 9) (h33 : mm_rg i_51 0 3) (h34 : mm_rg i_52 0 6) (h35 : mm_rg i_53 0 30) (h36 : mm_ar f_0 0 99) (h37 : mm_ar f_1 0 7) (h38 : mm_ar f_2 0 9) (h39 : mm_ar f_3 0 8) (h40 : mm_ar f_4 0 9) (h41 : mm_ar f_5 (-1) 99) (h42 : mm_ar f_6 0 9) (h43 : mm_ar f_7 0 210) (h44 : mm_ar f_8 0 210) (h45 : mm_ar f_9 0 9) (h46 : mm_rls f_1 f_2 0 i_26 i_27) (h47 : mm_txs f_3 f_4 0 i_26 i_28) (h48 : mm_acs f_5 0 i_26 i_27 i_29) (h49 : mm_tl i_19 i_27 i_28) (h50 : mm_rls f_1 f_2 1 i_32 i_33) (h51 : mm_txs f_3 f_4 1 i_32 i_34) (h52 : mm_acs f_5 1 i_32 i_33 i_35) (h53 : mm_tl i_20 i_33 i_34) (h54 : mm_rls f_1 f_2 2 i_38 i_39) (h55 : mm_txs f_3 f_4 2 i_38 i_40) (h56 : mm_acs f_5 2 i_38 i_39 i_41) (h57 : mm_tl i_21 i_39 i_40) (h58 : mm_rls f_1 f_2 3 i_44 i_45) (h59 : mm_txs f_3 f_4 3 i_44 i_46) (h60 : mm_acs f_5 3 i_44 i_45 i_47) (h61 : mm_tl i_22 i_45 i_46)  : mm_CI l yX12_greedy (mm_ws yX12_greedy cX12_greedy 9 (some .int)) ({ frames := 14, cells := 0, slots := 0, locals := 300 } : Room) G cy sz [(a_0, .inr (12, [.int i_2, .ref a_1, .ref a_2, .ref a_3, .ref a_4, .ref a_5, .int i_3, .int i_4, .int i_5, .int i_6, .int i_7, .long j_0, .int i_8, .int i_9, .int i_10, .int i_11, .ref a_6, .ref a_7, .ref a_8, .ref a_9, .ref a_10, .ref a_11, .ref a_12, .ref a_13, .ref a_14, .ref a_15, .ref a_16, .ref a_17, .ref a_18, .int i_12, .int i_13, .int i_14, .int i_15, .int i_16, .int i_17, .ref a_19, .int i_18, .ref a_20])), (a_6, .inl (cy 1, 5, .inl (mm_g [i_19, i_20, i_21, i_22, i_23]))), (a_7, .inl (cy 1, 30, .inl (mm_g [i_24, i_25, i_26, i_27, i_28, i_29, i_30, i_31, i_32, i_33, i_34, i_35, i_36, i_37, i_38, i_39, i_40, i_41, i_42, i_43, i_44, i_45, i_46, i_47, i_48, i_49, i_50, i_51, i_52, i_53]))), (a_8, .inl (cy 1, 90, .inl f_0)), (a_9, .inl (cy 1, 15, .inl f_1)), (a_10, .inl (cy 1, 1050, .inl f_2)), (a_11, .inl (cy 1, 30, .inl f_3)), (a_12, .inl (cy 1, 240, .inl f_4)), (a_13, .inl (cy 1, 450, .inl f_5)), (a_15, .inl (cy 1, 7200, .inl f_6)), (a_16, .inl (cy 1, 3, .inl f_7)), (a_17, .inl (cy 1, 3, .inl f_8)), (a_18, .inl (cy 1, 8, .inl f_9))] [.ref a_0, .int i_0, .int i_1] (fun u : Int32 × Int32 × Int32 × (Nat → Int32) × (Nat → Int32) × (Nat → Int32) × (Nat → Int32) => [(a_0, .inr (12, [.int 0, .ref a_1, .ref a_2, .ref a_3, .ref a_4, .ref a_5, .int i_3, .int i_4, .int i_5, .int i_6, .int i_7, .long j_0, .int i_8, .int i_9, .int i_10, .int i_11, .ref a_6, .ref a_7, .ref a_8, .ref a_9, .ref a_10, .ref a_11, .ref a_12, .ref a_13, .ref a_14, .ref a_15, .ref a_16, .ref a_17, .ref a_18, .int u.1, .int u.2.1, .int u.2.2.1, .int i_15, .int i_16, .int i_17, .ref a_19, .int i_18, .ref a_20])), (a_6, .inl (cy 1, 5, .inl (mm_g [i_19, i_20, i_21, i_22, i_23]))), (a_7, .inl (cy 1, 30, .inl (mm_g [i_24, i_25, i_26, i_27, i_28, i_29, i_30, i_31, i_32, i_33, i_34, i_35, i_36, i_37, i_38, i_39, i_40, i_41, i_42, i_43, i_44, i_45, i_46, i_47, i_48, i_49, i_50, i_51, i_52, i_53]))), (a_8, .inl (cy 1, 90, .inl f_0)), (a_9, .inl (cy 1, 15, .inl f_1)), (a_10, .inl (cy 1, 1050, .inl f_2)), (a_11, .inl (cy 1, 30, .inl f_3)), (a_12, .inl (cy 1, 240, .inl f_4)), (a_13, .inl (cy 1, 450, .inl f_5)), (a_15, .inl (cy 1, 7200, .inl u.2.2.2.1)), (a_16, .inl (cy 1, 3, .inl u.2.2.2.2.1)), (a_17, .inl (cy 1, 3, .inl u.2.2.2.2.2.1)), (a_18, .inl (cy 1, 8, .inl u.2.2.2.2.2.2))]) (fun (r : Int32) (u : Int32 × Int32 × Int32 × (Nat → Int32) × (Nat → Int32) × (Nat → Int32) × (Nat → Int32)) => mm_rg u.1 0 8 ∧ mm_ar u.2.2.2.1 0 9 ∧ mm_ar u.2.2.2.2.1 0 210 ∧ mm_ar u.2.2.2.2.2.1 0 210 ∧ mm_ar u.2.2.2.2.2.2 0 9 ∧ True) 0 0 := by
  refine mm_begin (lv := [(0, .ref a_0), (1, .int i_0), (2, .int i_1)]) (by decide) (Nat.le_of_ble_eq_true rfl) rfl ?_
  intro p e s m below meth c A ls R args Q H locs hRe hQ hAe hx hb hr hlocks hml hown hnm hts hsz hA hS hP hK hD hZ hl
  have hRf : R.frames = 14 := by rw [hRe]
  have hRl : R.locals = 300 := by rw [hRe]
  have hRc : R.cells = 0 := by rw [hRe]
  have hRs : R.slots = 0 := by rw [hRe]
  refine lv_aload_n hx hb dX12_greedy_0 rfl (lv_at hl 0 rfl) ?_
  refine lv_iconst (v := 0) hx hb dX12_greedy_1 (by decide) ?_
  refine va_put (D := G) (ci := 12) (v := .int 0) (ty := tyX12 0) (C := RX12) (T := TX12) (N := 38) hx hb hts (mm_i inlX12) tyX12 tyX12_ok nmX12 hown hK.1 hP hD hS 0 rfl rfl 0 (by decide) (mm_h hts mm_w177) (fun _ h9 => h9) rfl (tyX12_ok 0 (by decide)) rfl rfl (Nat.le_of_ble_eq_true rfl) dX12_greedy_2 ?_
  clear hP hD hS
  clear H locs
  intro H locs (hP : va_P G vwCl [(a_0, .inr (12, [.int 0, .ref a_1, .ref a_2, .ref a_3, .ref a_4, .ref a_5, .int i_3, .int i_4, .int i_5, .int i_6, .int i_7, .long j_0, .int i_8, .int i_9, .int i_10, .int i_11, .ref a_6, .ref a_7, .ref a_8, .ref a_9, .ref a_10, .ref a_11, .ref a_12, .ref a_13, .ref a_14, .ref a_15, .ref a_16, .ref a_17, .ref a_18, .int i_12, .int i_13, .int i_14, .int i_15, .int i_16, .int i_17, .ref a_19, .int i_18, .ref a_20])), (a_6, .inl (cy 1, 5, .inl (mm_g [i_19, i_20, i_21, i_22, i_23]))), (a_7, .inl (cy 1, 30, .inl (mm_g [i_24, i_25, i_26, i_27, i_28, i_29, i_30, i_31, i_32, i_33, i_34, i_35, i_36, i_37, i_38, i_39, i_40, i_41, i_42, i_43, i_44, i_45, i_46, i_47, i_48, i_49, i_50, i_51, i_52, i_53]))), (a_8, .inl (cy 1, 90, .inl f_0)), (a_9, .inl (cy 1, 15, .inl f_1)), (a_10, .inl (cy 1, 1050, .inl f_2)), (a_11, .inl (cy 1, 30, .inl f_3)), (a_12, .inl (cy 1, 240, .inl f_4)), (a_13, .inl (cy 1, 450, .inl f_5)), (a_15, .inl (cy 1, 7200, .inl f_6)), (a_16, .inl (cy 1, 3, .inl f_7)), (a_17, .inl (cy 1, 3, .inl f_8)), (a_18, .inl (cy 1, 8, .inl f_9))] H) (hD : va_D A [(a_0, .inr (12, [.int 0, .ref a_1, .ref a_2, .ref a_3, .ref a_4, .ref a_5, .int i_3, .int i_4, .int i_5, .int i_6, .int i_7, .long j_0, .int i_8, .int i_9, .int i_10, .int i_11, .ref a_6, .ref a_7, .ref a_8, .ref a_9, .ref a_10, .ref a_11, .ref a_12, .ref a_13, .ref a_14, .ref a_15, .ref a_16, .ref a_17, .ref a_18, .int i_12, .int i_13, .int i_14, .int i_15, .int i_16, .int i_17, .ref a_19, .int i_18, .ref a_20])), (a_6, .inl (cy 1, 5, .inl (mm_g [i_19, i_20, i_21, i_22, i_23]))), (a_7, .inl (cy 1, 30, .inl (mm_g [i_24, i_25, i_26, i_27, i_28, i_29, i_30, i_31, i_32, i_33, i_34, i_35, i_36, i_37, i_38, i_39, i_40, i_41, i_42, i_43, i_44, i_45, i_46, i_47, i_48, i_49, i_50, i_51, i_52, i_53]))), (a_8, .inl (cy 1, 90, .inl f_0)), (a_9, .inl (cy 1, 15, .inl f_1)), (a_10, .inl (cy 1, 1050, .inl f_2)), (a_11, .inl (cy 1, 30, .inl f_3)), (a_12, .inl (cy 1, 240, .inl f_4)), (a_13, .inl (cy 1, 450, .inl f_5)), (a_15, .inl (cy 1, 7200, .inl f_6)), (a_16, .inl (cy 1, 3, .inl f_7)), (a_17, .inl (cy 1, 3, .inl f_8)), (a_18, .inl (cy 1, 8, .inl f_9))]) hS
  refine lv_aload_n hx hb dX12_greedy_5 rfl (lv_at hl 0 rfl) ?_
  refine lv_iload_n hx hb dX12_greedy_6 rfl (lv_at hl 1 rfl) ?_
  refine lv_iload_n hx hb dX12_greedy_7 rfl (lv_at hl 2 rfl) ?_
  refine mm_finir (va_runV (As := [.int i_0, .int i_1]) (rest := []) ⟨hx, hb, hml, hown, hts⟩ (M104_X12_isThen l G cy H.size a_0 i_0 i_1 0 a_1 a_2 a_3 a_4 a_5 i_3 i_4 i_5 i_6 i_7 j_0 i_8 i_9 i_10 i_11 a_6 a_7 a_8 a_9 a_10 a_11 a_12 a_13 a_14 a_15 a_16 a_17 a_18 i_12 i_13 i_14 i_15 i_16 i_17 a_19 i_18 a_20 i_24 i_25 i_26 i_27 i_28 i_29 i_30 i_31 i_32 i_33 i_34 i_35 i_36 i_37 i_38 i_39 i_40 i_41 i_42 i_43 i_44 i_45 i_46 i_47 i_48 i_49 i_50 i_51 i_52 i_53 h6 h7 h8 h9 h10 h11 h12 h13 h14 h15 h16 h17 h18 h19 h20 h21 h22 h23 h24 h25 h26 h27 h28 h29 h30 h31 h32 h33 h34 h35) (cwV 2 hts (mm_gV mm_w678 mm_w679 mm_w680 mm_w5 mm_w681) rfl rfl rfl hd_X12_isThen ⟨by rw [hRf]; exact Nat.le_of_ble_eq_true rfl, by rw [hRl]; exact Nat.le_of_ble_eq_true rfl⟩) (mm_preV hK hZ hS hA hP hD [0, 2] rfl rfl 0 rfl rfl rfl) rfl rfl hl.1 rfl (lv_room (Nat.le_of_ble_eq_true rfl)) dX12_greedy_8 ⟨by rw [hRc]; exact Nat.le_of_ble_eq_true rfl, by rw [hRs]; exact Nat.le_of_ble_eq_true rfl⟩) hP hD hS hA [0, 2] rfl (fun _ => rfl) ?_
  clear hP hD hS
  clear H locs
  intro v1 _u H locs hw hP hD hS
  rcases hw with rfl | ⟨rfl, w2, w3, w4⟩
  · refine lv_if_ne (tgt := 18) hx hb dX12_greedy_11 (by decide) (fun c5 => ?_) (fun c5 => ?_)
    · have q6 := mm_neL (lo := 1) (mm_ne c5) mm_k0 mm_k0 (by decide) (by decide)
      exact mm_no q6 (by decide)
    · refine lv_ldcw (v := (-100000)) hx hb hown (mm_h hts mm_w1455) dX12_greedy_14 ?_
      subst hAe
      rw [hQ]
      exact W.iret (v := (-100000)) hx hb hr (fun t ht hW => ⟨⟨(-100000), (i_12, i_13, i_14, f_6, f_7, f_8, f_9), rfl, ⟨h0, h42, h43, h44, h45, trivial⟩, by rw [ht]; exact hP, hK.warm hW, hD⟩, hS.F ht⟩) hS.2.2 dX12_greedy_17
  · have q7 := mm_ltR (lo := 1) w4 w2 h9 (by decide)
    have q8 : mm_rg i_19 1 601 := mm_tl_3 h49 q7 h1 (by decide)
    refine lv_if_ne (tgt := 18) hx hb dX12_greedy_11 (by decide) (fun c9 => ?_) (fun c9 => ?_)
    · refine lv_aload_n hx hb dX12_greedy_18 rfl (lv_at hl 0 rfl) ?_
      refine mm_finv (va_runV (As := []) (rest := []) ⟨hx, hb, hml, hown, hts⟩ (M125_X12_lays l G cy H.size a_0 0 a_1 a_2 a_3 a_4 a_5 i_3 i_4 i_5 i_6 i_7 j_0 i_8 i_9 i_10 i_11 a_6 a_7 a_8 a_9 a_10 a_11 a_12 a_13 a_14 a_15 a_16 a_17 a_18 i_12 i_13 i_14 i_15 i_16 i_17 a_19 i_18 a_20 i_19 i_20 i_21 i_22 i_23 i_24 i_25 i_26 i_27 i_28 i_29 i_30 i_31 i_32 i_33 i_34 i_35 i_36 i_37 i_38 i_39 i_40 i_41 i_42 i_43 i_44 i_45 i_46 i_47 i_48 i_49 i_50 i_51 i_52 i_53 f_1 f_2 f_5 f_6 f_7 f_8 (mm_wk q8 (by decide)) h2 h3 h4 h5 h6 h7 h8 (mm_wk q7 (by decide)) h10 h11 h12 h13 h14 h15 h16 h17 h18 h19 h20 h21 h22 h23 h24 h25 h26 h27 h28 h29 h30 h31 h32 h33 h34 h35 h37 h38 h41 h42 h43 h44 h46 h48 h49 h50 h52 h53 h54 h56 h57 h58 h60 h61) (cwV 0 hts (mm_gV mm_w686 mm_w687 mm_w688 mm_w5 mm_w689) rfl rfl rfl hd_X12_lays ⟨by rw [hRf]; exact Nat.le_of_ble_eq_true rfl, by rw [hRl]; exact Nat.le_of_ble_eq_true rfl⟩) (mm_preV hK hZ hS hA hP hD [0, 1, 2, 4, 5, 8, 9, 10, 11] rfl rfl 0 rfl rfl rfl) rfl rfl hl.1 rfl (lv_room (Nat.le_of_ble_eq_true rfl)) dX12_greedy_19 ⟨by rw [hRc]; exact Nat.le_of_ble_eq_true rfl, by rw [hRs]; exact Nat.le_of_ble_eq_true rfl⟩) hP hD hS hA (fun u : (Nat → Int32) × (Nat → Int32) × (Nat → Int32) => [(a_0, .inr (12, [.int 0, .ref a_1, .ref a_2, .ref a_3, .ref a_4, .ref a_5, .int i_3, .int i_4, .int i_5, .int i_6, .int i_7, .long j_0, .int i_8, .int i_9, .int i_10, .int i_11, .ref a_6, .ref a_7, .ref a_8, .ref a_9, .ref a_10, .ref a_11, .ref a_12, .ref a_13, .ref a_14, .ref a_15, .ref a_16, .ref a_17, .ref a_18, .int i_12, .int i_13, .int i_14, .int i_15, .int i_16, .int i_17, .ref a_19, .int i_18, .ref a_20])), (a_6, .inl (cy 1, 5, .inl (mm_g [i_19, i_20, i_21, i_22, i_23]))), (a_7, .inl (cy 1, 30, .inl (mm_g [i_24, i_25, i_26, i_27, i_28, i_29, i_30, i_31, i_32, i_33, i_34, i_35, i_36, i_37, i_38, i_39, i_40, i_41, i_42, i_43, i_44, i_45, i_46, i_47, i_48, i_49, i_50, i_51, i_52, i_53]))), (a_8, .inl (cy 1, 90, .inl f_0)), (a_9, .inl (cy 1, 15, .inl f_1)), (a_10, .inl (cy 1, 1050, .inl f_2)), (a_11, .inl (cy 1, 30, .inl f_3)), (a_12, .inl (cy 1, 240, .inl f_4)), (a_13, .inl (cy 1, 450, .inl f_5)), (a_15, .inl (cy 1, 7200, .inl u.1)), (a_16, .inl (cy 1, 3, .inl u.2.1)), (a_17, .inl (cy 1, 3, .inl u.2.2)), (a_18, .inl (cy 1, 8, .inl f_9))]) [0, 1, 2, 4, 5, 8, 9, 10, 11] [3, 6, 7, 12] (n := 13) (fun _ => rfl) (by decide +kernel) (by decide +kernel) rfl (fun _ => rfl) (wr := [(a_8, .inl (cy 1, 90, .inl f_0)), (a_11, .inl (cy 1, 30, .inl f_3)), (a_12, .inl (cy 1, 240, .inl f_4)), (a_18, .inl (cy 1, 8, .inl f_9))]) rfl (fun _ => rfl) (fun _ => @rfl _ ([a_0, a_6, a_7, a_9, a_10, a_13, a_15, a_16, a_17] : List Nat)) ?_
      clear hP hD hS
      clear H locs
      intro u
      obtain ⟨n10, n11, n12⟩ := u
      intro H locs hw (hP : va_P G vwCl [(a_0, .inr (12, [.int 0, .ref a_1, .ref a_2, .ref a_3, .ref a_4, .ref a_5, .int i_3, .int i_4, .int i_5, .int i_6, .int i_7, .long j_0, .int i_8, .int i_9, .int i_10, .int i_11, .ref a_6, .ref a_7, .ref a_8, .ref a_9, .ref a_10, .ref a_11, .ref a_12, .ref a_13, .ref a_14, .ref a_15, .ref a_16, .ref a_17, .ref a_18, .int i_12, .int i_13, .int i_14, .int i_15, .int i_16, .int i_17, .ref a_19, .int i_18, .ref a_20])), (a_6, .inl (cy 1, 5, .inl (mm_g [i_19, i_20, i_21, i_22, i_23]))), (a_7, .inl (cy 1, 30, .inl (mm_g [i_24, i_25, i_26, i_27, i_28, i_29, i_30, i_31, i_32, i_33, i_34, i_35, i_36, i_37, i_38, i_39, i_40, i_41, i_42, i_43, i_44, i_45, i_46, i_47, i_48, i_49, i_50, i_51, i_52, i_53]))), (a_8, .inl (cy 1, 90, .inl f_0)), (a_9, .inl (cy 1, 15, .inl f_1)), (a_10, .inl (cy 1, 1050, .inl f_2)), (a_11, .inl (cy 1, 30, .inl f_3)), (a_12, .inl (cy 1, 240, .inl f_4)), (a_13, .inl (cy 1, 450, .inl f_5)), (a_15, .inl (cy 1, 7200, .inl n10)), (a_16, .inl (cy 1, 3, .inl n11)), (a_17, .inl (cy 1, 3, .inl n12)), (a_18, .inl (cy 1, 8, .inl f_9))] H) (hD : va_D A [(a_0, .inr (12, [.int 0, .ref a_1, .ref a_2, .ref a_3, .ref a_4, .ref a_5, .int i_3, .int i_4, .int i_5, .int i_6, .int i_7, .long j_0, .int i_8, .int i_9, .int i_10, .int i_11, .ref a_6, .ref a_7, .ref a_8, .ref a_9, .ref a_10, .ref a_11, .ref a_12, .ref a_13, .ref a_14, .ref a_15, .ref a_16, .ref a_17, .ref a_18, .int i_12, .int i_13, .int i_14, .int i_15, .int i_16, .int i_17, .ref a_19, .int i_18, .ref a_20])), (a_6, .inl (cy 1, 5, .inl (mm_g [i_19, i_20, i_21, i_22, i_23]))), (a_7, .inl (cy 1, 30, .inl (mm_g [i_24, i_25, i_26, i_27, i_28, i_29, i_30, i_31, i_32, i_33, i_34, i_35, i_36, i_37, i_38, i_39, i_40, i_41, i_42, i_43, i_44, i_45, i_46, i_47, i_48, i_49, i_50, i_51, i_52, i_53]))), (a_8, .inl (cy 1, 90, .inl f_0)), (a_9, .inl (cy 1, 15, .inl f_1)), (a_10, .inl (cy 1, 1050, .inl f_2)), (a_11, .inl (cy 1, 30, .inl f_3)), (a_12, .inl (cy 1, 240, .inl f_4)), (a_13, .inl (cy 1, 450, .inl f_5)), (a_15, .inl (cy 1, 7200, .inl n10)), (a_16, .inl (cy 1, 3, .inl n11)), (a_17, .inl (cy 1, 3, .inl n12)), (a_18, .inl (cy 1, 8, .inl f_9))]) hS
      obtain ⟨w13, w14, w15, w16, w17⟩ := hw
      replace w16 : mm_laid n11 n12 i_27 := w16
      replace w17 : mm_tab n10 n11 i_26 i_27 := w17
      refine lv_iconst (v := 1) hx hb dX12_greedy_22 (by decide) ?_
      refine lv_aload_n hx hb dX12_greedy_23 rfl (lv_at hl 0 rfl) ?_
      refine mm_finir (va_runV (As := []) (rest := [.int 1]) ⟨hx, hb, hml, hown, hts⟩ (M95_X12_texts l G cy H.size a_0 0 a_1 a_2 a_3 a_4 a_5 i_3 i_4 i_5 i_6 i_7 j_0 i_8 i_9 i_10 i_11 a_6 a_7 a_8 a_9 a_10 a_11 a_12 a_13 a_14 a_15 a_16 a_17 a_18 i_12 i_13 i_14 i_15 i_16 i_17 a_19 i_18 a_20 i_24 i_25 i_26 i_27 i_28 i_29 i_30 i_31 i_32 i_33 i_34 i_35 i_36 i_37 i_38 i_39 i_40 i_41 i_42 i_43 i_44 i_45 i_46 i_47 i_48 i_49 i_50 i_51 i_52 i_53 h6 h7 h8 (mm_wk q7 (by decide)) h10 h11 h12 h13 h14 h15 h16 h17 h18 h19 h20 h21 h22 h23 h24 h25 h26 h27 h28 h29 h30 h31 h32 h33 h34 h35) (cwV 0 hts (mm_gV mm_w617 mm_w618 mm_w619 mm_w5 mm_w620) rfl rfl rfl hd_X12_texts ⟨by rw [hRf]; exact Nat.le_of_ble_eq_true rfl, by rw [hRl]; exact Nat.le_of_ble_eq_true rfl⟩) (mm_preV hK hZ hS hA hP hD [0, 2] rfl rfl 0 rfl rfl rfl) rfl rfl hl.1 rfl (lv_room (Nat.le_of_ble_eq_true rfl)) dX12_greedy_24 ⟨by rw [hRc]; exact Nat.le_of_ble_eq_true rfl, by rw [hRs]; exact Nat.le_of_ble_eq_true rfl⟩) hP hD hS hA [0, 2] rfl (fun _ => rfl) ?_
      clear hP hD hS
      clear H locs
      intro v18 _u H locs hw hP hD hS
      subst hw
      refine lv_ishl hx hb dX12_greedy_27 ?_
      refine lv_topi (fun v19 ev19 => ?_)
      have rv19 : mm_rg v19 1 64 := mm_shl1 ev19 h10 (by decide)
      refine lv_iconst (v := 1) hx hb dX12_greedy_28 (by decide) ?_
      refine lv_isub hx hb dX12_greedy_29 ?_
      refine lv_topi (fun v20 ev20 => ?_)
      have rv20 : mm_rg v20 0 63 := mm_sub ev20 rv19 mm_k1 (by decide) (by decide)
      have tv20 := mm_subEc ev20 rv19 mm_k1 (by decide) (k := (-1)) (by decide)
      refine lv_istore_n (lv' := [(3, .int v20), (0, .ref a_0), (1, .int i_0), (2, .int i_1)]) hx hb dX12_greedy_30 rfl hl (by decide) rfl ?_
      clear hl
      clear ls
      intro ls hl
      refine lv_iconst (v := 0) hx hb dX12_greedy_31 (by decide) ?_
      refine lv_istore (lv' := [(4, .int 0), (3, .int v20), (0, .ref a_0), (1, .int i_0), (2, .int i_1)]) hx hb dX12_greedy_32 hl (by decide) rfl ?_
      clear hl
      clear ls
      intro ls hl
      refine lv_iconst (v := 1) hx hb dX12_greedy_34 (by decide) ?_
      refine lv_istore (lv' := [(5, .int 1), (4, .int 0), (3, .int v20), (0, .ref a_0), (1, .int i_0), (2, .int i_1)]) hx hb dX12_greedy_35 hl (by decide) rfl ?_
      clear hl
      clear ls
      intro ls hl
      refine lv_iconst (v := 0) hx hb dX12_greedy_37 (by decide) ?_
      refine lv_istore (lv' := [(6, .int 0), (5, .int 1), (4, .int 0), (3, .int v20), (0, .ref a_0), (1, .int i_0), (2, .int i_1)]) hx hb dX12_greedy_38 hl (by decide) rfl ?_
      clear hl
      clear ls
      intro ls hl
      have L40_1670 : ∀ (n : Nat) (x40_6_1661 : Int32) (x40_5_1662 : Int32) (x40_4_1663 : Int32) (x40_3_1664 : Int32) (y40_0_29_1665 : Int32) (y40_0_30_1666 : Int32) (y40_0_31_1667 : Int32) (z40_12_1668 : Nat → Int32), mm_rg x40_6_1661 0 6 → mm_rg x40_3_1664 0 63 → mm_rg y40_0_29_1665 0 8 → mm_ar z40_12_1668 0 9 → mm_pck x40_6_1661 x40_3_1664 → mm_stx x40_3_1664 i_28 → (x40_3_1664 : Int32).toInt.toNat < n → ∀ (H : Heap) (locs : List Loc), va_P G vwCl [(a_0, .inr (12, [.int 0, .ref a_1, .ref a_2, .ref a_3, .ref a_4, .ref a_5, .int i_3, .int i_4, .int i_5, .int i_6, .int i_7, .long j_0, .int i_8, .int i_9, .int i_10, .int i_11, .ref a_6, .ref a_7, .ref a_8, .ref a_9, .ref a_10, .ref a_11, .ref a_12, .ref a_13, .ref a_14, .ref a_15, .ref a_16, .ref a_17, .ref a_18, .int y40_0_29_1665, .int y40_0_30_1666, .int y40_0_31_1667, .int i_15, .int i_16, .int i_17, .ref a_19, .int i_18, .ref a_20])), (a_6, .inl (cy 1, 5, .inl (mm_g [i_19, i_20, i_21, i_22, i_23]))), (a_7, .inl (cy 1, 30, .inl (mm_g [i_24, i_25, i_26, i_27, i_28, i_29, i_30, i_31, i_32, i_33, i_34, i_35, i_36, i_37, i_38, i_39, i_40, i_41, i_42, i_43, i_44, i_45, i_46, i_47, i_48, i_49, i_50, i_51, i_52, i_53]))), (a_8, .inl (cy 1, 90, .inl f_0)), (a_9, .inl (cy 1, 15, .inl f_1)), (a_10, .inl (cy 1, 1050, .inl f_2)), (a_11, .inl (cy 1, 30, .inl f_3)), (a_12, .inl (cy 1, 240, .inl f_4)), (a_13, .inl (cy 1, 450, .inl f_5)), (a_15, .inl (cy 1, 7200, .inl n10)), (a_16, .inl (cy 1, 3, .inl n11)), (a_17, .inl (cy 1, 3, .inl n12)), (a_18, .inl (cy 1, 8, .inl z40_12_1668))] H → va_D A [(a_0, .inr (12, [.int 0, .ref a_1, .ref a_2, .ref a_3, .ref a_4, .ref a_5, .int i_3, .int i_4, .int i_5, .int i_6, .int i_7, .long j_0, .int i_8, .int i_9, .int i_10, .int i_11, .ref a_6, .ref a_7, .ref a_8, .ref a_9, .ref a_10, .ref a_11, .ref a_12, .ref a_13, .ref a_14, .ref a_15, .ref a_16, .ref a_17, .ref a_18, .int y40_0_29_1665, .int y40_0_30_1666, .int y40_0_31_1667, .int i_15, .int i_16, .int i_17, .ref a_19, .int i_18, .ref a_20])), (a_6, .inl (cy 1, 5, .inl (mm_g [i_19, i_20, i_21, i_22, i_23]))), (a_7, .inl (cy 1, 30, .inl (mm_g [i_24, i_25, i_26, i_27, i_28, i_29, i_30, i_31, i_32, i_33, i_34, i_35, i_36, i_37, i_38, i_39, i_40, i_41, i_42, i_43, i_44, i_45, i_46, i_47, i_48, i_49, i_50, i_51, i_52, i_53]))), (a_8, .inl (cy 1, 90, .inl f_0)), (a_9, .inl (cy 1, 15, .inl f_1)), (a_10, .inl (cy 1, 1050, .inl f_2)), (a_11, .inl (cy 1, 30, .inl f_3)), (a_12, .inl (cy 1, 240, .inl f_4)), (a_13, .inl (cy 1, 450, .inl f_5)), (a_15, .inl (cy 1, 7200, .inl n10)), (a_16, .inl (cy 1, 3, .inl n11)), (a_17, .inl (cy 1, 3, .inl n12)), (a_18, .inl (cy 1, 8, .inl z40_12_1668))] → va_S A s.heap H locs → ∀ (ls : Array Slot), lv_has ls 9 [(6, .int x40_6_1661), (5, .int x40_5_1662), (4, .int x40_4_1663), (3, .int x40_3_1664), (0, .ref a_0), (1, .int i_0), (2, .int i_1)] → W p l e R s m args below meth c H locs 0 0 Q (F0 m 40 ls []) := by
        intro n
        induction n with
        | zero => intro x40_6_1661 x40_5_1662 x40_4_1663 x40_3_1664 y40_0_29_1665 y40_0_30_1666 y40_0_31_1667 z40_12_1668 rx40_6_1661 rx40_3_1664 ry40_0_29_1665 rz40_12_1668 w1669 w1670 hm; exact absurd hm (Nat.not_lt_zero _)
        | succ n ih40 =>
          intro x40_6_1661 x40_5_1662 x40_4_1663 x40_3_1664 y40_0_29_1665 y40_0_30_1666 y40_0_31_1667 z40_12_1668 rx40_6_1661 rx40_3_1664 ry40_0_29_1665 rz40_12_1668 w1669 w1670 hm40 H locs hP hD hS ls hl
          refine lv_iload_n hx hb dX12_greedy_40 rfl (lv_at hl 3 rfl) ?_
          refine lv_if_eq (tgt := 148) hx hb dX12_greedy_41 (by decide) (fun c1672 => ?_) (fun c1672 => ?_)
          · have q1673 := mm_eqI (lo := 0) (hi := 0) c1672 rx40_3_1664 mm_k0 (by decide)
            refine lv_iload hx hb dX12_greedy_148 (lv_at hl 2 rfl) ?_
            subst hAe
            rw [hQ]
            exact W.iret (v := x40_4_1663) hx hb hr (fun t ht hW => ⟨⟨x40_4_1663, (y40_0_29_1665, y40_0_30_1666, y40_0_31_1667, n10, n11, n12, z40_12_1668), rfl, ⟨ry40_0_29_1665, w13, w14, w15, rz40_12_1668, trivial⟩, by rw [ht]; exact hP, hK.warm hW, hD⟩, hS.F ht⟩) hS.2.2 dX12_greedy_150
          · have q1674 := mm_neL (lo := 1) (mm_ne c1672) rx40_3_1664 mm_k0 (by decide) (by decide)
            have q1675 : mm_rg x40_6_1661 0 5 := mm_pck_k w1669 rx40_6_1661 q1674 (by decide)
            refine lv_iconst (v := (-1)) hx hb dX12_greedy_44 (by decide) ?_
            refine lv_istore (lv' := [(7, .int (-1)), (6, .int x40_6_1661), (5, .int x40_5_1662), (4, .int x40_4_1663), (3, .int x40_3_1664), (0, .ref a_0), (1, .int i_0), (2, .int i_1)]) hx hb dX12_greedy_45 hl (by decide) rfl ?_
            clear hl
            clear ls
            intro ls hl
            refine lv_iconst (v := 0) hx hb dX12_greedy_47 (by decide) ?_
            refine lv_istore (lv' := [(8, .int 0), (7, .int (-1)), (6, .int x40_6_1661), (5, .int x40_5_1662), (4, .int x40_4_1663), (3, .int x40_3_1664), (0, .ref a_0), (1, .int i_0), (2, .int i_1)]) hx hb dX12_greedy_48 hl (by decide) rfl ?_
            clear hl
            clear ls
            intro ls hl
            have L50_2022 : ∀ (n : Nat) (x50_8_2016 : Int32) (x50_7_2017 : Int32) (y50_0_29_2018 : Int32) (y50_0_30_2019 : Int32) (y50_0_31_2020 : Int32) (z50_12_2021 : Nat → Int32), mm_rg x50_8_2016 0 6 → mm_rg x50_7_2017 (-1) 5 → mm_rg y50_0_29_2018 0 8 → mm_ar z50_12_2021 0 9 → mm_gb x40_3_1664 i_28 x50_8_2016 x50_7_2017 → (6 - x50_8_2016.toInt).toNat < n → ∀ (H : Heap) (locs : List Loc), va_P G vwCl [(a_0, .inr (12, [.int 0, .ref a_1, .ref a_2, .ref a_3, .ref a_4, .ref a_5, .int i_3, .int i_4, .int i_5, .int i_6, .int i_7, .long j_0, .int i_8, .int i_9, .int i_10, .int i_11, .ref a_6, .ref a_7, .ref a_8, .ref a_9, .ref a_10, .ref a_11, .ref a_12, .ref a_13, .ref a_14, .ref a_15, .ref a_16, .ref a_17, .ref a_18, .int y50_0_29_2018, .int y50_0_30_2019, .int y50_0_31_2020, .int i_15, .int i_16, .int i_17, .ref a_19, .int i_18, .ref a_20])), (a_6, .inl (cy 1, 5, .inl (mm_g [i_19, i_20, i_21, i_22, i_23]))), (a_7, .inl (cy 1, 30, .inl (mm_g [i_24, i_25, i_26, i_27, i_28, i_29, i_30, i_31, i_32, i_33, i_34, i_35, i_36, i_37, i_38, i_39, i_40, i_41, i_42, i_43, i_44, i_45, i_46, i_47, i_48, i_49, i_50, i_51, i_52, i_53]))), (a_8, .inl (cy 1, 90, .inl f_0)), (a_9, .inl (cy 1, 15, .inl f_1)), (a_10, .inl (cy 1, 1050, .inl f_2)), (a_11, .inl (cy 1, 30, .inl f_3)), (a_12, .inl (cy 1, 240, .inl f_4)), (a_13, .inl (cy 1, 450, .inl f_5)), (a_15, .inl (cy 1, 7200, .inl n10)), (a_16, .inl (cy 1, 3, .inl n11)), (a_17, .inl (cy 1, 3, .inl n12)), (a_18, .inl (cy 1, 8, .inl z50_12_2021))] H → va_D A [(a_0, .inr (12, [.int 0, .ref a_1, .ref a_2, .ref a_3, .ref a_4, .ref a_5, .int i_3, .int i_4, .int i_5, .int i_6, .int i_7, .long j_0, .int i_8, .int i_9, .int i_10, .int i_11, .ref a_6, .ref a_7, .ref a_8, .ref a_9, .ref a_10, .ref a_11, .ref a_12, .ref a_13, .ref a_14, .ref a_15, .ref a_16, .ref a_17, .ref a_18, .int y50_0_29_2018, .int y50_0_30_2019, .int y50_0_31_2020, .int i_15, .int i_16, .int i_17, .ref a_19, .int i_18, .ref a_20])), (a_6, .inl (cy 1, 5, .inl (mm_g [i_19, i_20, i_21, i_22, i_23]))), (a_7, .inl (cy 1, 30, .inl (mm_g [i_24, i_25, i_26, i_27, i_28, i_29, i_30, i_31, i_32, i_33, i_34, i_35, i_36, i_37, i_38, i_39, i_40, i_41, i_42, i_43, i_44, i_45, i_46, i_47, i_48, i_49, i_50, i_51, i_52, i_53]))), (a_8, .inl (cy 1, 90, .inl f_0)), (a_9, .inl (cy 1, 15, .inl f_1)), (a_10, .inl (cy 1, 1050, .inl f_2)), (a_11, .inl (cy 1, 30, .inl f_3)), (a_12, .inl (cy 1, 240, .inl f_4)), (a_13, .inl (cy 1, 450, .inl f_5)), (a_15, .inl (cy 1, 7200, .inl n10)), (a_16, .inl (cy 1, 3, .inl n11)), (a_17, .inl (cy 1, 3, .inl n12)), (a_18, .inl (cy 1, 8, .inl z50_12_2021))] → va_S A s.heap H locs → ∀ (ls : Array Slot), lv_has ls 9 [(8, .int x50_8_2016), (7, .int x50_7_2017), (6, .int x40_6_1661), (5, .int x40_5_1662), (4, .int x40_4_1663), (3, .int x40_3_1664), (0, .ref a_0), (1, .int i_0), (2, .int i_1)] → W p l e R s m args below meth c H locs 0 0 Q (F0 m 50 ls []) := by
              intro n
              induction n with
              | zero => intro x50_8_2016 x50_7_2017 y50_0_29_2018 y50_0_30_2019 y50_0_31_2020 z50_12_2021 rx50_8_2016 rx50_7_2017 ry50_0_29_2018 rz50_12_2021 w2022 hm; exact absurd hm (Nat.not_lt_zero _)
              | succ n ih50 =>
                intro x50_8_2016 x50_7_2017 y50_0_29_2018 y50_0_30_2019 y50_0_31_2020 z50_12_2021 rx50_8_2016 rx50_7_2017 ry50_0_29_2018 rz50_12_2021 w2022 hm50 H locs hP hD hS ls hl
                refine lv_iload hx hb dX12_greedy_50 (lv_at hl 0 rfl) ?_
                refine lv_aload_n hx hb dX12_greedy_52 rfl (lv_at hl 6 rfl) ?_
                refine mm_finir (va_runV (As := []) (rest := [.int x50_8_2016]) ⟨hx, hb, hml, hown, hts⟩ (M95_X12_texts l G cy H.size a_0 0 a_1 a_2 a_3 a_4 a_5 i_3 i_4 i_5 i_6 i_7 j_0 i_8 i_9 i_10 i_11 a_6 a_7 a_8 a_9 a_10 a_11 a_12 a_13 a_14 a_15 a_16 a_17 a_18 y50_0_29_2018 y50_0_30_2019 y50_0_31_2020 i_15 i_16 i_17 a_19 i_18 a_20 i_24 i_25 i_26 i_27 i_28 i_29 i_30 i_31 i_32 i_33 i_34 i_35 i_36 i_37 i_38 i_39 i_40 i_41 i_42 i_43 i_44 i_45 i_46 i_47 i_48 i_49 i_50 i_51 i_52 i_53 h6 h7 h8 (mm_wk q7 (by decide)) h10 h11 h12 h13 h14 h15 h16 h17 h18 h19 h20 h21 h22 h23 h24 h25 h26 h27 h28 h29 h30 h31 h32 h33 h34 h35) (cwV 0 hts (mm_gV mm_w617 mm_w618 mm_w619 mm_w5 mm_w620) rfl rfl rfl hd_X12_texts ⟨by rw [hRf]; exact Nat.le_of_ble_eq_true rfl, by rw [hRl]; exact Nat.le_of_ble_eq_true rfl⟩) (mm_preV hK hZ hS hA hP hD [0, 2] rfl rfl 0 rfl rfl rfl) rfl rfl hl.1 rfl (lv_room (Nat.le_of_ble_eq_true rfl)) dX12_greedy_53 ⟨by rw [hRc]; exact Nat.le_of_ble_eq_true rfl, by rw [hRs]; exact Nat.le_of_ble_eq_true rfl⟩) hP hD hS hA [0, 2] rfl (fun _ => rfl) ?_
                clear hP hD hS
                clear H locs
                intro v2024 _u H locs hw hP hD hS
                subst hw
                refine lv_icmp_ge (tgt := 109) hx hb dX12_greedy_56 (by decide) (fun c2025 => ?_) (fun c2025 => ?_)
                · have q2026 : mm_rg x50_7_2017 0 5 := mm_gb_ex w2022 w1670 (mm_le c2025) q1674 h10 rx50_7_2017 (by decide)
                  refine lv_iload hx hb dX12_greedy_109 (lv_at hl 4 rfl) ?_
                  refine lv_iload hx hb dX12_greedy_111 (lv_at hl 3 rfl) ?_
                  refine lv_aload_n hx hb dX12_greedy_113 rfl (lv_at hl 6 rfl) ?_
                  refine lv_iload_n hx hb dX12_greedy_114 rfl (lv_at hl 7 rfl) ?_
                  refine lv_iload_n hx hb dX12_greedy_115 rfl (lv_at hl 8 rfl) ?_
                  refine lv_iload hx hb dX12_greedy_116 (lv_at hl 2 rfl) ?_
                  refine lv_iadd hx hb dX12_greedy_118 ?_
                  refine lv_topi (fun v2027 ev2027 => ?_)
                  have rv2027 : mm_rg v2027 0 1000000005 := mm_add ev2027 w3 q1675 (by decide) (by decide)
                  have tv2027 := mm_addE ev2027 w3 q1675 (by decide)
                  refine lv_iload hx hb dX12_greedy_119 (lv_at hl 1 rfl) ?_
                  refine mm_fini (va_runV (As := [.int i_0, .int v2027, .int x50_7_2017]) (rest := [.int x40_5_1662, .int x40_4_1663]) ⟨hx, hb, hml, hown, hts⟩ (M141_X12_reads l G cy H.size a_0 i_0 v2027 x50_7_2017 0 a_1 a_2 a_3 a_4 a_5 i_3 i_4 i_5 i_6 i_7 j_0 i_8 i_9 i_10 i_11 a_6 a_7 a_8 a_9 a_10 a_11 a_12 a_13 a_14 a_15 a_16 a_17 a_18 y50_0_29_2018 y50_0_30_2019 y50_0_31_2020 i_15 i_16 i_17 a_19 i_18 a_20 i_24 i_25 i_26 i_27 i_28 i_29 i_30 i_31 i_32 i_33 i_34 i_35 i_36 i_37 i_38 i_39 i_40 i_41 i_42 i_43 i_44 i_45 i_46 i_47 i_48 i_49 i_50 i_51 i_52 i_53 f_0 f_3 f_4 f_5 n10 n11 z50_12_2021 w2 (mm_wk rv2027 (by decide)) q2026 ry50_0_29_2018 h6 h7 h8 (mm_wk q7 (by decide)) h10 h11 h12 h13 h14 h15 h16 h17 h18 h19 h20 h21 h22 h23 h24 h25 h26 h27 h28 h29 h30 h31 h32 h33 h34 h35 h36 h39 h40 h41 w13 w14 rz50_12_2021 h47 h48 h51 h52 h55 h56 h59 h60 (mm_f1_l w16 w4 w2 (by decide))) (cwV 3 hts (mm_gV mm_w852 mm_w853 mm_w854 mm_w5 mm_w855) rfl rfl rfl hd_X12_reads ⟨by rw [hRf]; exact Nat.le_of_ble_eq_true rfl, by rw [hRl]; exact Nat.le_of_ble_eq_true rfl⟩) (mm_preV hK hZ hS hA hP hD [0, 2, 3, 6, 7, 8, 9, 10, 12] rfl rfl 0 rfl rfl rfl) rfl rfl hl.1 rfl (lv_room (Nat.le_of_ble_eq_true rfl)) dX12_greedy_121 ⟨by rw [hRc]; exact Nat.le_of_ble_eq_true rfl, by rw [hRs]; exact Nat.le_of_ble_eq_true rfl⟩) hP hD hS hA (fun u : Int32 × Int32 × Int32 × (Nat → Int32) => [(a_0, .inr (12, [.int 0, .ref a_1, .ref a_2, .ref a_3, .ref a_4, .ref a_5, .int i_3, .int i_4, .int i_5, .int i_6, .int i_7, .long j_0, .int i_8, .int i_9, .int i_10, .int i_11, .ref a_6, .ref a_7, .ref a_8, .ref a_9, .ref a_10, .ref a_11, .ref a_12, .ref a_13, .ref a_14, .ref a_15, .ref a_16, .ref a_17, .ref a_18, .int u.1, .int u.2.1, .int u.2.2.1, .int i_15, .int i_16, .int i_17, .ref a_19, .int i_18, .ref a_20])), (a_6, .inl (cy 1, 5, .inl (mm_g [i_19, i_20, i_21, i_22, i_23]))), (a_7, .inl (cy 1, 30, .inl (mm_g [i_24, i_25, i_26, i_27, i_28, i_29, i_30, i_31, i_32, i_33, i_34, i_35, i_36, i_37, i_38, i_39, i_40, i_41, i_42, i_43, i_44, i_45, i_46, i_47, i_48, i_49, i_50, i_51, i_52, i_53]))), (a_8, .inl (cy 1, 90, .inl f_0)), (a_9, .inl (cy 1, 15, .inl f_1)), (a_10, .inl (cy 1, 1050, .inl f_2)), (a_11, .inl (cy 1, 30, .inl f_3)), (a_12, .inl (cy 1, 240, .inl f_4)), (a_13, .inl (cy 1, 450, .inl f_5)), (a_15, .inl (cy 1, 7200, .inl n10)), (a_16, .inl (cy 1, 3, .inl n11)), (a_17, .inl (cy 1, 3, .inl n12)), (a_18, .inl (cy 1, 8, .inl u.2.2.2))]) [0, 2, 3, 6, 7, 8, 9, 10, 12] [1, 4, 5, 11] (n := 13) (fun _ => rfl) (by decide +kernel) (by decide +kernel) rfl (fun _ => rfl) (wr := [(a_6, .inl (cy 1, 5, .inl (mm_g [i_19, i_20, i_21, i_22, i_23]))), (a_9, .inl (cy 1, 15, .inl f_1)), (a_10, .inl (cy 1, 1050, .inl f_2)), (a_17, .inl (cy 1, 3, .inl n12))]) rfl (fun _ => rfl) (fun _ => @rfl _ ([a_0, a_7, a_8, a_11, a_12, a_13, a_15, a_16, a_18] : List Nat)) ?_
                  clear hP hD hS
                  clear H locs
                  intro v2032 u
                  obtain ⟨n2028, n2029, n2030, n2031⟩ := u
                  intro H locs hw (hP : va_P G vwCl [(a_0, .inr (12, [.int 0, .ref a_1, .ref a_2, .ref a_3, .ref a_4, .ref a_5, .int i_3, .int i_4, .int i_5, .int i_6, .int i_7, .long j_0, .int i_8, .int i_9, .int i_10, .int i_11, .ref a_6, .ref a_7, .ref a_8, .ref a_9, .ref a_10, .ref a_11, .ref a_12, .ref a_13, .ref a_14, .ref a_15, .ref a_16, .ref a_17, .ref a_18, .int n2028, .int n2029, .int n2030, .int i_15, .int i_16, .int i_17, .ref a_19, .int i_18, .ref a_20])), (a_6, .inl (cy 1, 5, .inl (mm_g [i_19, i_20, i_21, i_22, i_23]))), (a_7, .inl (cy 1, 30, .inl (mm_g [i_24, i_25, i_26, i_27, i_28, i_29, i_30, i_31, i_32, i_33, i_34, i_35, i_36, i_37, i_38, i_39, i_40, i_41, i_42, i_43, i_44, i_45, i_46, i_47, i_48, i_49, i_50, i_51, i_52, i_53]))), (a_8, .inl (cy 1, 90, .inl f_0)), (a_9, .inl (cy 1, 15, .inl f_1)), (a_10, .inl (cy 1, 1050, .inl f_2)), (a_11, .inl (cy 1, 30, .inl f_3)), (a_12, .inl (cy 1, 240, .inl f_4)), (a_13, .inl (cy 1, 450, .inl f_5)), (a_15, .inl (cy 1, 7200, .inl n10)), (a_16, .inl (cy 1, 3, .inl n11)), (a_17, .inl (cy 1, 3, .inl n12)), (a_18, .inl (cy 1, 8, .inl n2031))] H) (hD : va_D A [(a_0, .inr (12, [.int 0, .ref a_1, .ref a_2, .ref a_3, .ref a_4, .ref a_5, .int i_3, .int i_4, .int i_5, .int i_6, .int i_7, .long j_0, .int i_8, .int i_9, .int i_10, .int i_11, .ref a_6, .ref a_7, .ref a_8, .ref a_9, .ref a_10, .ref a_11, .ref a_12, .ref a_13, .ref a_14, .ref a_15, .ref a_16, .ref a_17, .ref a_18, .int n2028, .int n2029, .int n2030, .int i_15, .int i_16, .int i_17, .ref a_19, .int i_18, .ref a_20])), (a_6, .inl (cy 1, 5, .inl (mm_g [i_19, i_20, i_21, i_22, i_23]))), (a_7, .inl (cy 1, 30, .inl (mm_g [i_24, i_25, i_26, i_27, i_28, i_29, i_30, i_31, i_32, i_33, i_34, i_35, i_36, i_37, i_38, i_39, i_40, i_41, i_42, i_43, i_44, i_45, i_46, i_47, i_48, i_49, i_50, i_51, i_52, i_53]))), (a_8, .inl (cy 1, 90, .inl f_0)), (a_9, .inl (cy 1, 15, .inl f_1)), (a_10, .inl (cy 1, 1050, .inl f_2)), (a_11, .inl (cy 1, 30, .inl f_3)), (a_12, .inl (cy 1, 240, .inl f_4)), (a_13, .inl (cy 1, 450, .inl f_5)), (a_15, .inl (cy 1, 7200, .inl n10)), (a_16, .inl (cy 1, 3, .inl n11)), (a_17, .inl (cy 1, 3, .inl n12)), (a_18, .inl (cy 1, 8, .inl n2031))]) hS
                  obtain ⟨w2033, w2034, hw⟩ := hw
                  obtain ⟨w2035, w2036⟩ := hw
                  replace w2036 : mm_rd n10 n11 f_0 f_3 f_4 f_5 i_0 v2027 x50_7_2017 i_25 i_26 i_29 v2032 := w2036
                  refine lv_imul hx hb dX12_greedy_124 ?_
                  refine lv_topi (fun v2037 ev2037 => ?_)
                  refine lv_iadd hx hb dX12_greedy_125 ?_
                  refine lv_topi (fun v2038 ev2038 => ?_)
                  refine lv_istore (lv' := [(4, .int v2038), (8, .int x50_8_2016), (7, .int x50_7_2017), (6, .int x40_6_1661), (5, .int x40_5_1662), (3, .int x40_3_1664), (0, .ref a_0), (1, .int i_0), (2, .int i_1)]) hx hb dX12_greedy_126 hl (by decide) rfl ?_
                  clear hl
                  clear ls
                  intro ls hl
                  refine lv_iload hx hb dX12_greedy_128 (lv_at hl 4 rfl) ?_
                  refine lv_ineg hx hb dX12_greedy_130 ?_
                  refine lv_topi (fun v2039 ev2039 => ?_)
                  refine lv_istore (lv' := [(5, .int v2039), (4, .int v2038), (8, .int x50_8_2016), (7, .int x50_7_2017), (6, .int x40_6_1661), (3, .int x40_3_1664), (0, .ref a_0), (1, .int i_0), (2, .int i_1)]) hx hb dX12_greedy_131 hl (by decide) rfl ?_
                  clear hl
                  clear ls
                  intro ls hl
                  refine lv_iload_n hx hb dX12_greedy_133 rfl (lv_at hl 5 rfl) ?_
                  refine lv_iconst (v := 1) hx hb dX12_greedy_134 (by decide) ?_
                  refine lv_iload hx hb dX12_greedy_135 (lv_at hl 3 rfl) ?_
                  refine lv_ishl hx hb dX12_greedy_137 ?_
                  refine lv_topi (fun v2040 ev2040 => ?_)
                  have rv2040 : mm_rg v2040 1 32 := mm_shl1 ev2040 q2026 (by decide)
                  refine lv_iconst (v := (-1)) hx hb dX12_greedy_138 (by decide) ?_
                  refine lv_ixor hx hb dX12_greedy_139 ?_
                  refine lv_topi (fun v2041 ev2041 => ?_)
                  refine lv_iand hx hb dX12_greedy_140 ?_
                  refine lv_topi (fun v2042 ev2042 => ?_)
                  have rv2042 : mm_rg v2042 0 63 := mm_andL ev2042 q1674 (by decide)
                  refine lv_istore_n (lv' := [(3, .int v2042), (5, .int v2039), (4, .int v2038), (8, .int x50_8_2016), (7, .int x50_7_2017), (6, .int x40_6_1661), (0, .ref a_0), (1, .int i_0), (2, .int i_1)]) hx hb dX12_greedy_141 rfl hl (by decide) rfl ?_
                  clear hl
                  clear ls
                  intro ls hl
                  obtain ⟨v2043, ev2043⟩ : ∃ y : Int32, y = x40_6_1661 + 1 := ⟨_, rfl⟩
                  refine lv_iinc (v := v2043) (lv' := [(6, .int v2043), (3, .int v2042), (5, .int v2039), (4, .int v2038), (8, .int x50_8_2016), (7, .int x50_7_2017), (0, .ref a_0), (1, .int i_0), (2, .int i_1)]) hx hb dX12_greedy_142 hl (k := 5) rfl (by rw [ev2043]; rfl) (by decide) rfl ?_
                  clear hl
                  clear ls
                  intro ls hl
                  have rv2043 : mm_rg v2043 1 6 := mm_add ev2043 q1675 mm_k1 (by decide) (by decide)
                  have tv2043 := mm_addEc ev2043 q1675 mm_k1 (by decide) (k := 1) (by decide)
                  refine lv_goto (tgt := 40) hx hb dX12_greedy_145 (by decide) ?_
                  exact ih40 v2043 v2039 v2038 v2042 n2028 n2029 n2030 n2031 (mm_wk rv2043 (by decide)) rv2042 w2033 w2034 (mm_pck_s w1669 tv2043 (mm_gb_bit w2022 q2026 (by decide)) ev2040 ev2041 ev2042 q1674 q2026 (by decide)) (mm_stx_s w1670 ev2042 q1674 (by decide)) (mm_grM hm40 (mm_gb_bit w2022 q2026 (by decide)) ev2040 ev2041 ev2042 q1674 q2026 (by decide)) H locs hP hD hS ls (lv_sub hl [0, 2, 3, 1, 6, 7, 8] rfl)
                · have q2044 := mm_ltL (h := 5) (mm_nle c2025) rx50_8_2016 h10 (by decide)
                  have q2045 := mm_ltR (lo := 1) (mm_nle c2025) rx50_8_2016 h10 (by decide)
                  refine lv_iload_n hx hb dX12_greedy_59 rfl (lv_at hl 5 rfl) ?_
                  refine lv_iload hx hb dX12_greedy_60 (lv_at hl 0 rfl) ?_
                  refine mm_finir (va_runS (As := [.int x40_3_1664, .int x50_8_2016]) (rest := []) ⟨hx, hb, hml, hown, hts⟩ (M232_X12_isBit l G cy H.size x40_3_1664 x50_8_2016 (mm_wk q1674 (by decide)) q2044) (va_cwS 2 hts (mm_gS mm_w1461 mm_w1462 mm_w5 mm_w1463) rfl rfl rfl hs_X12_isBit ⟨by rw [hRf]; exact Nat.le_of_ble_eq_true rfl, by rw [hRl]; exact Nat.le_of_ble_eq_true rfl⟩) (mm_preS hK hZ hS hA hP hD [] rfl rfl) rfl rfl hl.1 rfl (lv_room (Nat.le_of_ble_eq_true rfl)) dX12_greedy_62 ⟨by rw [hRc]; exact Nat.le_of_ble_eq_true rfl, by rw [hRs]; exact Nat.le_of_ble_eq_true rfl⟩) hP hD hS hA [] rfl (fun _ => rfl) ?_
                  clear hP hD hS
                  clear H locs
                  intro v2046 _u H locs hw hP hD hS
                  rcases hw with ⟨rfl, w2047⟩ | ⟨rfl, w2048⟩
                  · refine lv_if_eq (tgt := 103) hx hb dX12_greedy_65 (by decide) (fun c2049 => ?_) (fun c2049 => ?_)
                    · obtain ⟨v2050, ev2050⟩ : ∃ y : Int32, y = x50_8_2016 + 1 := ⟨_, rfl⟩
                      refine lv_iinc (v := v2050) (lv' := [(8, .int v2050), (7, .int x50_7_2017), (6, .int x40_6_1661), (5, .int x40_5_1662), (4, .int x40_4_1663), (3, .int x40_3_1664), (0, .ref a_0), (1, .int i_0), (2, .int i_1)]) hx hb dX12_greedy_103 hl (k := 0) rfl (by rw [ev2050]; rfl) (by decide) rfl ?_
                      clear hl
                      clear ls
                      intro ls hl
                      have rv2050 : mm_rg v2050 1 6 := mm_add ev2050 q2044 mm_k1 (by decide) (by decide)
                      have tv2050 := mm_addEc ev2050 q2044 mm_k1 (by decide) (k := 1) (by decide)
                      refine lv_goto (tgt := 50) hx hb dX12_greedy_106 (by decide) ?_
                      exact ih50 v2050 x50_7_2017 y50_0_29_2018 y50_0_30_2019 y50_0_31_2020 z50_12_2021 (mm_wk rv2050 (by decide)) rx50_7_2017 ry50_0_29_2018 rz50_12_2021 (mm_gb_n w2022 w2047 tv2050 q2044 (by decide)) (mm_mu hm50 tv2050 (by decide) (rv2050).2 (by decide)) H locs hP hD hS ls (lv_sub hl [0, 1, 2, 3, 4, 5, 6, 7, 8] rfl)
                    · have q2051 := mm_neL (lo := 1) (mm_ne c2049) mm_k0 mm_k0 (by decide) (by decide)
                      exact mm_no q2051 (by decide)
                  · refine lv_if_eq (tgt := 103) hx hb dX12_greedy_65 (by decide) (fun c2052 => ?_) (fun c2052 => ?_)
                    · exact mm_eqN c2052.symm mm_k0 mm_k1 (by decide)
                    · refine lv_iload hx hb dX12_greedy_68 (lv_at hl 1 rfl) ?_
                      refine lv_iconst (v := (-1)) hx hb dX12_greedy_70 (by decide) ?_
                      refine lv_icmp_eq (tgt := 99) hx hb dX12_greedy_71 (by decide) (fun c2053 => ?_) (fun c2053 => ?_)
                      · have q2054 := mm_eqI (lo := (-1)) (hi := (-1)) c2053 rx50_7_2017 mm_km1 (by decide)
                        refine lv_iload hx hb dX12_greedy_99 (lv_at hl 0 rfl) ?_
                        refine lv_istore (lv' := [(7, .int x50_8_2016), (8, .int x50_8_2016), (6, .int x40_6_1661), (5, .int x40_5_1662), (4, .int x40_4_1663), (3, .int x40_3_1664), (0, .ref a_0), (1, .int i_0), (2, .int i_1)]) hx hb dX12_greedy_101 hl (by decide) rfl ?_
                        clear hl
                        clear ls
                        intro ls hl
                        obtain ⟨v2055, ev2055⟩ : ∃ y : Int32, y = x50_8_2016 + 1 := ⟨_, rfl⟩
                        refine lv_iinc (v := v2055) (lv' := [(8, .int v2055), (7, .int x50_8_2016), (6, .int x40_6_1661), (5, .int x40_5_1662), (4, .int x40_4_1663), (3, .int x40_3_1664), (0, .ref a_0), (1, .int i_0), (2, .int i_1)]) hx hb dX12_greedy_103 hl (k := 1) rfl (by rw [ev2055]; rfl) (by decide) rfl ?_
                        clear hl
                        clear ls
                        intro ls hl
                        have rv2055 : mm_rg v2055 1 6 := mm_add ev2055 q2044 mm_k1 (by decide) (by decide)
                        have tv2055 := mm_addEc ev2055 q2044 mm_k1 (by decide) (k := 1) (by decide)
                        refine lv_goto (tgt := 50) hx hb dX12_greedy_106 (by decide) ?_
                        exact ih50 v2055 x50_8_2016 y50_0_29_2018 y50_0_30_2019 y50_0_31_2020 z50_12_2021 (mm_wk rv2055 (by decide)) (mm_wk q2044 (by decide)) ry50_0_29_2018 rz50_12_2021 (mm_gb_y w2048 (mm_nle c2025) q2044 (by decide)) (mm_mu hm50 tv2055 (by decide) (rv2055).2 (by decide)) H locs hP hD hS ls (lv_sub hl [0, 1, 2, 3, 4, 5, 6, 7, 8] rfl)
                      · have q2056 := mm_neL (lo := 0) (mm_ne c2053) rx50_7_2017 mm_km1 (by decide) (by decide)
                        refine lv_aload_n hx hb dX12_greedy_74 rfl (lv_at hl 6 rfl) ?_
                        refine lv_iload_n hx hb dX12_greedy_75 rfl (lv_at hl 7 rfl) ?_
                        refine lv_iload_n hx hb dX12_greedy_76 rfl (lv_at hl 8 rfl) ?_
                        refine lv_iload hx hb dX12_greedy_77 (lv_at hl 2 rfl) ?_
                        refine lv_iadd hx hb dX12_greedy_79 ?_
                        refine lv_topi (fun v2057 ev2057 => ?_)
                        have rv2057 : mm_rg v2057 0 1000000005 := mm_add ev2057 w3 q1675 (by decide) (by decide)
                        have tv2057 := mm_addE ev2057 w3 q1675 (by decide)
                        refine lv_iload hx hb dX12_greedy_80 (lv_at hl 0 rfl) ?_
                        refine mm_fini (va_runV (As := [.int i_0, .int v2057, .int x50_8_2016]) (rest := []) ⟨hx, hb, hml, hown, hts⟩ (M141_X12_reads l G cy H.size a_0 i_0 v2057 x50_8_2016 0 a_1 a_2 a_3 a_4 a_5 i_3 i_4 i_5 i_6 i_7 j_0 i_8 i_9 i_10 i_11 a_6 a_7 a_8 a_9 a_10 a_11 a_12 a_13 a_14 a_15 a_16 a_17 a_18 y50_0_29_2018 y50_0_30_2019 y50_0_31_2020 i_15 i_16 i_17 a_19 i_18 a_20 i_24 i_25 i_26 i_27 i_28 i_29 i_30 i_31 i_32 i_33 i_34 i_35 i_36 i_37 i_38 i_39 i_40 i_41 i_42 i_43 i_44 i_45 i_46 i_47 i_48 i_49 i_50 i_51 i_52 i_53 f_0 f_3 f_4 f_5 n10 n11 z50_12_2021 w2 (mm_wk rv2057 (by decide)) q2044 ry50_0_29_2018 h6 h7 h8 (mm_wk q7 (by decide)) (mm_wk q2045 (by decide)) h11 h12 h13 h14 h15 h16 h17 h18 h19 h20 h21 h22 h23 h24 h25 h26 h27 h28 h29 h30 h31 h32 h33 h34 h35 h36 h39 h40 h41 w13 w14 rz50_12_2021 h47 h48 h51 h52 h55 h56 h59 h60 (mm_f1_l w16 w4 w2 (by decide))) (cwV 3 hts (mm_gV mm_w852 mm_w853 mm_w854 mm_w5 mm_w855) rfl rfl rfl hd_X12_reads ⟨by rw [hRf]; exact Nat.le_of_ble_eq_true rfl, by rw [hRl]; exact Nat.le_of_ble_eq_true rfl⟩) (mm_preV hK hZ hS hA hP hD [0, 2, 3, 6, 7, 8, 9, 10, 12] rfl rfl 0 rfl rfl rfl) rfl rfl hl.1 rfl (lv_room (Nat.le_of_ble_eq_true rfl)) dX12_greedy_82 ⟨by rw [hRc]; exact Nat.le_of_ble_eq_true rfl, by rw [hRs]; exact Nat.le_of_ble_eq_true rfl⟩) hP hD hS hA (fun u : Int32 × Int32 × Int32 × (Nat → Int32) => [(a_0, .inr (12, [.int 0, .ref a_1, .ref a_2, .ref a_3, .ref a_4, .ref a_5, .int i_3, .int i_4, .int i_5, .int i_6, .int i_7, .long j_0, .int i_8, .int i_9, .int i_10, .int i_11, .ref a_6, .ref a_7, .ref a_8, .ref a_9, .ref a_10, .ref a_11, .ref a_12, .ref a_13, .ref a_14, .ref a_15, .ref a_16, .ref a_17, .ref a_18, .int u.1, .int u.2.1, .int u.2.2.1, .int i_15, .int i_16, .int i_17, .ref a_19, .int i_18, .ref a_20])), (a_6, .inl (cy 1, 5, .inl (mm_g [i_19, i_20, i_21, i_22, i_23]))), (a_7, .inl (cy 1, 30, .inl (mm_g [i_24, i_25, i_26, i_27, i_28, i_29, i_30, i_31, i_32, i_33, i_34, i_35, i_36, i_37, i_38, i_39, i_40, i_41, i_42, i_43, i_44, i_45, i_46, i_47, i_48, i_49, i_50, i_51, i_52, i_53]))), (a_8, .inl (cy 1, 90, .inl f_0)), (a_9, .inl (cy 1, 15, .inl f_1)), (a_10, .inl (cy 1, 1050, .inl f_2)), (a_11, .inl (cy 1, 30, .inl f_3)), (a_12, .inl (cy 1, 240, .inl f_4)), (a_13, .inl (cy 1, 450, .inl f_5)), (a_15, .inl (cy 1, 7200, .inl n10)), (a_16, .inl (cy 1, 3, .inl n11)), (a_17, .inl (cy 1, 3, .inl n12)), (a_18, .inl (cy 1, 8, .inl u.2.2.2))]) [0, 2, 3, 6, 7, 8, 9, 10, 12] [1, 4, 5, 11] (n := 13) (fun _ => rfl) (by decide +kernel) (by decide +kernel) rfl (fun _ => rfl) (wr := [(a_6, .inl (cy 1, 5, .inl (mm_g [i_19, i_20, i_21, i_22, i_23]))), (a_9, .inl (cy 1, 15, .inl f_1)), (a_10, .inl (cy 1, 1050, .inl f_2)), (a_17, .inl (cy 1, 3, .inl n12))]) rfl (fun _ => rfl) (fun _ => @rfl _ ([a_0, a_7, a_8, a_11, a_12, a_13, a_15, a_16, a_18] : List Nat)) ?_
                        clear hP hD hS
                        clear H locs
                        intro v2062 u
                        obtain ⟨n2058, n2059, n2060, n2061⟩ := u
                        intro H locs hw (hP : va_P G vwCl [(a_0, .inr (12, [.int 0, .ref a_1, .ref a_2, .ref a_3, .ref a_4, .ref a_5, .int i_3, .int i_4, .int i_5, .int i_6, .int i_7, .long j_0, .int i_8, .int i_9, .int i_10, .int i_11, .ref a_6, .ref a_7, .ref a_8, .ref a_9, .ref a_10, .ref a_11, .ref a_12, .ref a_13, .ref a_14, .ref a_15, .ref a_16, .ref a_17, .ref a_18, .int n2058, .int n2059, .int n2060, .int i_15, .int i_16, .int i_17, .ref a_19, .int i_18, .ref a_20])), (a_6, .inl (cy 1, 5, .inl (mm_g [i_19, i_20, i_21, i_22, i_23]))), (a_7, .inl (cy 1, 30, .inl (mm_g [i_24, i_25, i_26, i_27, i_28, i_29, i_30, i_31, i_32, i_33, i_34, i_35, i_36, i_37, i_38, i_39, i_40, i_41, i_42, i_43, i_44, i_45, i_46, i_47, i_48, i_49, i_50, i_51, i_52, i_53]))), (a_8, .inl (cy 1, 90, .inl f_0)), (a_9, .inl (cy 1, 15, .inl f_1)), (a_10, .inl (cy 1, 1050, .inl f_2)), (a_11, .inl (cy 1, 30, .inl f_3)), (a_12, .inl (cy 1, 240, .inl f_4)), (a_13, .inl (cy 1, 450, .inl f_5)), (a_15, .inl (cy 1, 7200, .inl n10)), (a_16, .inl (cy 1, 3, .inl n11)), (a_17, .inl (cy 1, 3, .inl n12)), (a_18, .inl (cy 1, 8, .inl n2061))] H) (hD : va_D A [(a_0, .inr (12, [.int 0, .ref a_1, .ref a_2, .ref a_3, .ref a_4, .ref a_5, .int i_3, .int i_4, .int i_5, .int i_6, .int i_7, .long j_0, .int i_8, .int i_9, .int i_10, .int i_11, .ref a_6, .ref a_7, .ref a_8, .ref a_9, .ref a_10, .ref a_11, .ref a_12, .ref a_13, .ref a_14, .ref a_15, .ref a_16, .ref a_17, .ref a_18, .int n2058, .int n2059, .int n2060, .int i_15, .int i_16, .int i_17, .ref a_19, .int i_18, .ref a_20])), (a_6, .inl (cy 1, 5, .inl (mm_g [i_19, i_20, i_21, i_22, i_23]))), (a_7, .inl (cy 1, 30, .inl (mm_g [i_24, i_25, i_26, i_27, i_28, i_29, i_30, i_31, i_32, i_33, i_34, i_35, i_36, i_37, i_38, i_39, i_40, i_41, i_42, i_43, i_44, i_45, i_46, i_47, i_48, i_49, i_50, i_51, i_52, i_53]))), (a_8, .inl (cy 1, 90, .inl f_0)), (a_9, .inl (cy 1, 15, .inl f_1)), (a_10, .inl (cy 1, 1050, .inl f_2)), (a_11, .inl (cy 1, 30, .inl f_3)), (a_12, .inl (cy 1, 240, .inl f_4)), (a_13, .inl (cy 1, 450, .inl f_5)), (a_15, .inl (cy 1, 7200, .inl n10)), (a_16, .inl (cy 1, 3, .inl n11)), (a_17, .inl (cy 1, 3, .inl n12)), (a_18, .inl (cy 1, 8, .inl n2061))]) hS
                        obtain ⟨w2063, w2064, hw⟩ := hw
                        obtain ⟨w2065, w2066⟩ := hw
                        replace w2066 : mm_rd n10 n11 f_0 f_3 f_4 f_5 i_0 v2057 x50_8_2016 i_25 i_26 i_29 v2062 := w2066
                        refine lv_aload_n hx hb dX12_greedy_85 rfl (lv_at hl 6 rfl) ?_
                        refine lv_iload_n hx hb dX12_greedy_86 rfl (lv_at hl 7 rfl) ?_
                        refine lv_iload_n hx hb dX12_greedy_87 rfl (lv_at hl 8 rfl) ?_
                        refine lv_iload hx hb dX12_greedy_88 (lv_at hl 2 rfl) ?_
                        refine lv_iadd hx hb dX12_greedy_90 ?_
                        refine lv_topi (fun v2067 ev2067 => ?_)
                        have rv2067 : mm_rg v2067 0 1000000005 := mm_add ev2067 w3 q1675 (by decide) (by decide)
                        have tv2067 := mm_addE ev2067 w3 q1675 (by decide)
                        refine lv_iload hx hb dX12_greedy_91 (lv_at hl 1 rfl) ?_
                        refine mm_fini (va_runV (As := [.int i_0, .int v2067, .int x50_7_2017]) (rest := [.int v2062]) ⟨hx, hb, hml, hown, hts⟩ (M141_X12_reads l G cy H.size a_0 i_0 v2067 x50_7_2017 0 a_1 a_2 a_3 a_4 a_5 i_3 i_4 i_5 i_6 i_7 j_0 i_8 i_9 i_10 i_11 a_6 a_7 a_8 a_9 a_10 a_11 a_12 a_13 a_14 a_15 a_16 a_17 a_18 n2058 n2059 n2060 i_15 i_16 i_17 a_19 i_18 a_20 i_24 i_25 i_26 i_27 i_28 i_29 i_30 i_31 i_32 i_33 i_34 i_35 i_36 i_37 i_38 i_39 i_40 i_41 i_42 i_43 i_44 i_45 i_46 i_47 i_48 i_49 i_50 i_51 i_52 i_53 f_0 f_3 f_4 f_5 n10 n11 n2061 w2 (mm_wk rv2067 (by decide)) q2056 w2063 h6 h7 h8 (mm_wk q7 (by decide)) (mm_wk q2045 (by decide)) h11 h12 h13 h14 h15 h16 h17 h18 h19 h20 h21 h22 h23 h24 h25 h26 h27 h28 h29 h30 h31 h32 h33 h34 h35 h36 h39 h40 h41 w13 w14 w2064 h47 h48 h51 h52 h55 h56 h59 h60 (mm_f1_l w16 w4 w2 (by decide))) (cwV 3 hts (mm_gV mm_w852 mm_w853 mm_w854 mm_w5 mm_w855) rfl rfl rfl hd_X12_reads ⟨by rw [hRf]; exact Nat.le_of_ble_eq_true rfl, by rw [hRl]; exact Nat.le_of_ble_eq_true rfl⟩) (mm_preV hK hZ hS hA hP hD [0, 2, 3, 6, 7, 8, 9, 10, 12] rfl rfl 0 rfl rfl rfl) rfl rfl hl.1 rfl (lv_room (Nat.le_of_ble_eq_true rfl)) dX12_greedy_93 ⟨by rw [hRc]; exact Nat.le_of_ble_eq_true rfl, by rw [hRs]; exact Nat.le_of_ble_eq_true rfl⟩) hP hD hS hA (fun u : Int32 × Int32 × Int32 × (Nat → Int32) => [(a_0, .inr (12, [.int 0, .ref a_1, .ref a_2, .ref a_3, .ref a_4, .ref a_5, .int i_3, .int i_4, .int i_5, .int i_6, .int i_7, .long j_0, .int i_8, .int i_9, .int i_10, .int i_11, .ref a_6, .ref a_7, .ref a_8, .ref a_9, .ref a_10, .ref a_11, .ref a_12, .ref a_13, .ref a_14, .ref a_15, .ref a_16, .ref a_17, .ref a_18, .int u.1, .int u.2.1, .int u.2.2.1, .int i_15, .int i_16, .int i_17, .ref a_19, .int i_18, .ref a_20])), (a_6, .inl (cy 1, 5, .inl (mm_g [i_19, i_20, i_21, i_22, i_23]))), (a_7, .inl (cy 1, 30, .inl (mm_g [i_24, i_25, i_26, i_27, i_28, i_29, i_30, i_31, i_32, i_33, i_34, i_35, i_36, i_37, i_38, i_39, i_40, i_41, i_42, i_43, i_44, i_45, i_46, i_47, i_48, i_49, i_50, i_51, i_52, i_53]))), (a_8, .inl (cy 1, 90, .inl f_0)), (a_9, .inl (cy 1, 15, .inl f_1)), (a_10, .inl (cy 1, 1050, .inl f_2)), (a_11, .inl (cy 1, 30, .inl f_3)), (a_12, .inl (cy 1, 240, .inl f_4)), (a_13, .inl (cy 1, 450, .inl f_5)), (a_15, .inl (cy 1, 7200, .inl n10)), (a_16, .inl (cy 1, 3, .inl n11)), (a_17, .inl (cy 1, 3, .inl n12)), (a_18, .inl (cy 1, 8, .inl u.2.2.2))]) [0, 2, 3, 6, 7, 8, 9, 10, 12] [1, 4, 5, 11] (n := 13) (fun _ => rfl) (by decide +kernel) (by decide +kernel) rfl (fun _ => rfl) (wr := [(a_6, .inl (cy 1, 5, .inl (mm_g [i_19, i_20, i_21, i_22, i_23]))), (a_9, .inl (cy 1, 15, .inl f_1)), (a_10, .inl (cy 1, 1050, .inl f_2)), (a_17, .inl (cy 1, 3, .inl n12))]) rfl (fun _ => rfl) (fun _ => @rfl _ ([a_0, a_7, a_8, a_11, a_12, a_13, a_15, a_16, a_18] : List Nat)) ?_
                        clear hP hD hS
                        clear H locs
                        intro v2072 u
                        obtain ⟨n2068, n2069, n2070, n2071⟩ := u
                        intro H locs hw (hP : va_P G vwCl [(a_0, .inr (12, [.int 0, .ref a_1, .ref a_2, .ref a_3, .ref a_4, .ref a_5, .int i_3, .int i_4, .int i_5, .int i_6, .int i_7, .long j_0, .int i_8, .int i_9, .int i_10, .int i_11, .ref a_6, .ref a_7, .ref a_8, .ref a_9, .ref a_10, .ref a_11, .ref a_12, .ref a_13, .ref a_14, .ref a_15, .ref a_16, .ref a_17, .ref a_18, .int n2068, .int n2069, .int n2070, .int i_15, .int i_16, .int i_17, .ref a_19, .int i_18, .ref a_20])), (a_6, .inl (cy 1, 5, .inl (mm_g [i_19, i_20, i_21, i_22, i_23]))), (a_7, .inl (cy 1, 30, .inl (mm_g [i_24, i_25, i_26, i_27, i_28, i_29, i_30, i_31, i_32, i_33, i_34, i_35, i_36, i_37, i_38, i_39, i_40, i_41, i_42, i_43, i_44, i_45, i_46, i_47, i_48, i_49, i_50, i_51, i_52, i_53]))), (a_8, .inl (cy 1, 90, .inl f_0)), (a_9, .inl (cy 1, 15, .inl f_1)), (a_10, .inl (cy 1, 1050, .inl f_2)), (a_11, .inl (cy 1, 30, .inl f_3)), (a_12, .inl (cy 1, 240, .inl f_4)), (a_13, .inl (cy 1, 450, .inl f_5)), (a_15, .inl (cy 1, 7200, .inl n10)), (a_16, .inl (cy 1, 3, .inl n11)), (a_17, .inl (cy 1, 3, .inl n12)), (a_18, .inl (cy 1, 8, .inl n2071))] H) (hD : va_D A [(a_0, .inr (12, [.int 0, .ref a_1, .ref a_2, .ref a_3, .ref a_4, .ref a_5, .int i_3, .int i_4, .int i_5, .int i_6, .int i_7, .long j_0, .int i_8, .int i_9, .int i_10, .int i_11, .ref a_6, .ref a_7, .ref a_8, .ref a_9, .ref a_10, .ref a_11, .ref a_12, .ref a_13, .ref a_14, .ref a_15, .ref a_16, .ref a_17, .ref a_18, .int n2068, .int n2069, .int n2070, .int i_15, .int i_16, .int i_17, .ref a_19, .int i_18, .ref a_20])), (a_6, .inl (cy 1, 5, .inl (mm_g [i_19, i_20, i_21, i_22, i_23]))), (a_7, .inl (cy 1, 30, .inl (mm_g [i_24, i_25, i_26, i_27, i_28, i_29, i_30, i_31, i_32, i_33, i_34, i_35, i_36, i_37, i_38, i_39, i_40, i_41, i_42, i_43, i_44, i_45, i_46, i_47, i_48, i_49, i_50, i_51, i_52, i_53]))), (a_8, .inl (cy 1, 90, .inl f_0)), (a_9, .inl (cy 1, 15, .inl f_1)), (a_10, .inl (cy 1, 1050, .inl f_2)), (a_11, .inl (cy 1, 30, .inl f_3)), (a_12, .inl (cy 1, 240, .inl f_4)), (a_13, .inl (cy 1, 450, .inl f_5)), (a_15, .inl (cy 1, 7200, .inl n10)), (a_16, .inl (cy 1, 3, .inl n11)), (a_17, .inl (cy 1, 3, .inl n12)), (a_18, .inl (cy 1, 8, .inl n2071))]) hS
                        obtain ⟨w2073, w2074, hw⟩ := hw
                        obtain ⟨w2075, w2076⟩ := hw
                        replace w2076 : mm_rd n10 n11 f_0 f_3 f_4 f_5 i_0 v2067 x50_7_2017 i_25 i_26 i_29 v2072 := w2076
                        refine lv_icmp_le (tgt := 103) hx hb dX12_greedy_96 (by decide) (fun c2077 => ?_) (fun c2077 => ?_)
                        · obtain ⟨v2078, ev2078⟩ : ∃ y : Int32, y = x50_8_2016 + 1 := ⟨_, rfl⟩
                          refine lv_iinc (v := v2078) (lv' := [(8, .int v2078), (7, .int x50_7_2017), (6, .int x40_6_1661), (5, .int x40_5_1662), (4, .int x40_4_1663), (3, .int x40_3_1664), (0, .ref a_0), (1, .int i_0), (2, .int i_1)]) hx hb dX12_greedy_103 hl (k := 0) rfl (by rw [ev2078]; rfl) (by decide) rfl ?_
                          clear hl
                          clear ls
                          intro ls hl
                          have rv2078 : mm_rg v2078 1 6 := mm_add ev2078 q2044 mm_k1 (by decide) (by decide)
                          have tv2078 := mm_addEc ev2078 q2044 mm_k1 (by decide) (k := 1) (by decide)
                          refine lv_goto (tgt := 50) hx hb dX12_greedy_106 (by decide) ?_
                          exact ih50 v2078 x50_7_2017 n2068 n2069 n2070 n2071 (mm_wk rv2078 (by decide)) (mm_wk q2056 (by decide)) w2073 w2074 (mm_gb_k w2022 q2056 (by decide)) (mm_mu hm50 tv2078 (by decide) (rv2078).2 (by decide)) H locs hP hD hS ls (lv_sub hl [0, 1, 2, 3, 4, 5, 6, 7, 8] rfl)
                        · have q2079 := mm_ltL (h := 9998) (mm_nle c2077) w2075 w2065 (by decide)
                          have q2080 := mm_ltR (lo := 1) (mm_nle c2077) w2075 w2065 (by decide)
                          refine lv_iload hx hb dX12_greedy_99 (lv_at hl 0 rfl) ?_
                          refine lv_istore (lv' := [(7, .int x50_8_2016), (8, .int x50_8_2016), (6, .int x40_6_1661), (5, .int x40_5_1662), (4, .int x40_4_1663), (3, .int x40_3_1664), (0, .ref a_0), (1, .int i_0), (2, .int i_1)]) hx hb dX12_greedy_101 hl (by decide) rfl ?_
                          clear hl
                          clear ls
                          intro ls hl
                          obtain ⟨v2081, ev2081⟩ : ∃ y : Int32, y = x50_8_2016 + 1 := ⟨_, rfl⟩
                          refine lv_iinc (v := v2081) (lv' := [(8, .int v2081), (7, .int x50_8_2016), (6, .int x40_6_1661), (5, .int x40_5_1662), (4, .int x40_4_1663), (3, .int x40_3_1664), (0, .ref a_0), (1, .int i_0), (2, .int i_1)]) hx hb dX12_greedy_103 hl (k := 1) rfl (by rw [ev2081]; rfl) (by decide) rfl ?_
                          clear hl
                          clear ls
                          intro ls hl
                          have rv2081 : mm_rg v2081 1 6 := mm_add ev2081 q2044 mm_k1 (by decide) (by decide)
                          have tv2081 := mm_addEc ev2081 q2044 mm_k1 (by decide) (k := 1) (by decide)
                          refine lv_goto (tgt := 50) hx hb dX12_greedy_106 (by decide) ?_
                          exact ih50 v2081 x50_8_2016 n2068 n2069 n2070 n2071 (mm_wk rv2081 (by decide)) (mm_wk q2044 (by decide)) w2073 w2074 (mm_gb_y w2048 (mm_nle c2025) q2044 (by decide)) (mm_mu hm50 tv2081 (by decide) (rv2081).2 (by decide)) H locs hP hD hS ls (lv_sub hl [0, 1, 2, 3, 4, 5, 6, 7, 8] rfl)
            exact L50_2022 _ 0 (-1) y40_0_29_1665 y40_0_30_1666 y40_0_31_1667 z40_12_1668 (mm_wk mm_k0 (by decide)) (mm_wk mm_km1 (by decide)) ry40_0_29_1665 rz40_12_1668 (mm_gb_0 _ _) (Nat.lt_succ_self _) H locs hP hD hS ls (lv_sub hl [0, 1, 2, 3, 4, 5, 6, 7, 8] rfl)
      exact L40_1670 _ 0 1 0 v20 i_12 i_13 i_14 f_9 (mm_wk mm_k0 (by decide)) rv20 h0 h45 (mm_pck_0 rv20 (by decide)) (mm_stx_0 ev19 tv20 h10 (by decide)) (Nat.lt_succ_self _) H locs hP hD hS ls (lv_sub hl [0, 1, 2, 3, 4, 5, 6] rfl)
    · exact mm_eqN c9.symm mm_k0 mm_k1 (by decide)

set_option maxHeartbeats 4000000 in
set_option maxRecDepth 100000 in
theorem M243_X12_isSent (l : Launch) (G : va_G) (cy : Nat → ClassId) (sz : Nat) (a_0 : Nat) (i_0 : Int32) (i_1 : Int32) (i_2 : Int32) (i_3 : Int32) (i_4 : Int32) (a_1 : Nat) (a_2 : Nat) (a_3 : Nat) (a_4 : Nat) (a_5 : Nat) (i_5 : Int32) (i_6 : Int32) (i_7 : Int32) (i_8 : Int32) (i_9 : Int32) (j_0 : Int64) (i_10 : Int32) (i_11 : Int32) (i_12 : Int32) (i_13 : Int32) (a_6 : Nat) (a_7 : Nat) (a_8 : Nat) (a_9 : Nat) (a_10 : Nat) (a_11 : Nat) (a_12 : Nat) (a_13 : Nat) (a_14 : Nat) (a_15 : Nat) (a_16 : Nat) (a_17 : Nat) (a_18 : Nat) (i_14 : Int32) (i_15 : Int32) (i_16 : Int32) (i_17 : Int32) (i_18 : Int32) (i_19 : Int32) (a_19 : Nat) (i_20 : Int32) (a_20 : Nat) (i_21 : Int32) (i_22 : Int32) (i_23 : Int32) (i_24 : Int32) (i_25 : Int32) (i_26 : Int32) (i_27 : Int32) (i_28 : Int32) (i_29 : Int32) (i_30 : Int32) (i_31 : Int32) (i_32 : Int32) (i_33 : Int32) (i_34 : Int32) (i_35 : Int32) (i_36 : Int32) (i_37 : Int32) (i_38 : Int32) (i_39 : Int32) (i_40 : Int32) (i_41 : Int32) (i_42 : Int32) (i_43 : Int32) (i_44 : Int32) (i_45 : Int32) (i_46 : Int32) (i_47 : Int32) (i_48 : Int32) (i_49 : Int32) (i_50 : Int32) (h0 : mm_rg i_21 0 10) (h1 : mm_rg i_22 0 99) (h2 : mm_rg i_23 0 9) (h3 : mm_rg i_24 0 3) (h4 : mm_rg i_25 0 6) (h5 : mm_rg i_26 0 30) (h6 : mm_rg i_27 0 10) (h7 : mm_rg i_28 0 99) (h8 : mm_rg i_29 0 9) (h9 : mm_rg i_30 0 3) (h10 : mm_rg i_31 0 6) (h11 : mm_rg i_32 0 30) (h12 : mm_rg i_33 0 10) (h13 : mm_rg i_34 0 99) (h14 : mm_rg i_35 0 9) (h15 : mm_rg i_36 0 3) (h16 : mm_rg i_37 0 6) (h17 : mm_rg i_38 0 30) (h18 : mm_rg i_39 0 10) (h19 : mm_rg i_40 0 99) (h20 : mm_rg i_41 0 9) (h21 : mm_rg i_42 0 3) (h22 : mm_rg i_43 0 6) (h23 : mm_rg i_44 0 30) (h24 : mm_rg i_45 0 10) (h25 : mm_rg i_46 0 99) (h26 : mm_rg i_47 0 9) (h27 : mm_rg i_48 0 3) (h28 : mm_rg i_49 0 6) (h29 : mm_rg i_50 0 30)  : mm_CI l yX12_isSent (mm_ws yX12_isSent cX12_isSent 5 (some .boolean)) ({ frames := 3, cells := 0, slots := 0, locals := 68 } : Room) G cy sz [(a_0, .inr (12, [.int i_4, .ref a_1, .ref a_2, .ref a_3, .ref a_4, .ref a_5, .int i_5, .int i_6, .int i_7, .int i_8, .int i_9, .long j_0, .int i_10, .int i_11, .int i_12, .int i_13, .ref a_6, .ref a_7, .ref a_8, .ref a_9, .ref a_10, .ref a_11, .ref a_12, .ref a_13, .ref a_14, .ref a_15, .ref a_16, .ref a_17, .ref a_18, .int i_14, .int i_15, .int i_16, .int i_17, .int i_18, .int i_19, .ref a_19, .int i_20, .ref a_20])), (a_7, .inl (cy 1, 30, .inl (mm_g [i_21, i_22, i_23, i_24, i_25, i_26, i_27, i_28, i_29, i_30, i_31, i_32, i_33, i_34, i_35, i_36, i_37, i_38, i_39, i_40, i_41, i_42, i_43, i_44, i_45, i_46, i_47, i_48, i_49, i_50])))] [.ref a_0, .int i_0, .int i_1, .int i_2, .int i_3] (fun u : Unit => [(a_0, .inr (12, [.int i_4, .ref a_1, .ref a_2, .ref a_3, .ref a_4, .ref a_5, .int i_5, .int i_6, .int i_7, .int i_8, .int i_9, .long j_0, .int i_10, .int i_11, .int i_12, .int i_13, .ref a_6, .ref a_7, .ref a_8, .ref a_9, .ref a_10, .ref a_11, .ref a_12, .ref a_13, .ref a_14, .ref a_15, .ref a_16, .ref a_17, .ref a_18, .int i_14, .int i_15, .int i_16, .int i_17, .int i_18, .int i_19, .ref a_19, .int i_20, .ref a_20])), (a_7, .inl (cy 1, 30, .inl (mm_g [i_21, i_22, i_23, i_24, i_25, i_26, i_27, i_28, i_29, i_30, i_31, i_32, i_33, i_34, i_35, i_36, i_37, i_38, i_39, i_40, i_41, i_42, i_43, i_44, i_45, i_46, i_47, i_48, i_49, i_50])))]) (fun (r : Int32) (u : Unit) => ((0 = r) ∨ (1 = r ∧ mm_rg i_0 0 2 ∧ mm_rg i_1 0 1000000000 ∧ mm_rg i_2 0 5 ∧ mm_rg i_3 0 7 ∧ (i_0 : Int32).toInt < (i_24 : Int32).toInt))) 0 0 := by
  refine mm_begin (lv := [(0, .ref a_0), (1, .int i_0), (2, .int i_1), (3, .int i_2), (4, .int i_3)]) (by decide) (Nat.le_of_ble_eq_true rfl) rfl ?_
  intro p e s m below meth c A ls R args Q H locs hRe hQ hAe hx hb hr hlocks hml hown hnm hts hsz hA hS hP hK hD hZ hl
  have hRf : R.frames = 3 := by rw [hRe]
  have hRl : R.locals = 68 := by rw [hRe]
  have hRc : R.cells = 0 := by rw [hRe]
  have hRs : R.slots = 0 := by rw [hRe]
  refine lv_aload_n hx hb dX12_isSent_0 rfl (lv_at hl 0 rfl) ?_
  refine lv_iload_n hx hb dX12_isSent_1 rfl (lv_at hl 1 rfl) ?_
  refine lv_iload_n hx hb dX12_isSent_2 rfl (lv_at hl 2 rfl) ?_
  refine mm_finir (va_runV (As := [.int i_0, .int i_1]) (rest := []) ⟨hx, hb, hml, hown, hts⟩ (M104_X12_isThen l G cy H.size a_0 i_0 i_1 i_4 a_1 a_2 a_3 a_4 a_5 i_5 i_6 i_7 i_8 i_9 j_0 i_10 i_11 i_12 i_13 a_6 a_7 a_8 a_9 a_10 a_11 a_12 a_13 a_14 a_15 a_16 a_17 a_18 i_14 i_15 i_16 i_17 i_18 i_19 a_19 i_20 a_20 i_21 i_22 i_23 i_24 i_25 i_26 i_27 i_28 i_29 i_30 i_31 i_32 i_33 i_34 i_35 i_36 i_37 i_38 i_39 i_40 i_41 i_42 i_43 i_44 i_45 i_46 i_47 i_48 i_49 i_50 h0 h1 h2 h3 h4 h5 h6 h7 h8 h9 h10 h11 h12 h13 h14 h15 h16 h17 h18 h19 h20 h21 h22 h23 h24 h25 h26 h27 h28 h29) (cwV 2 hts (mm_gV mm_w678 mm_w679 mm_w680 mm_w5 mm_w681) rfl rfl rfl hd_X12_isThen ⟨by rw [hRf]; exact Nat.le_of_ble_eq_true rfl, by rw [hRl]; exact Nat.le_of_ble_eq_true rfl⟩) (mm_preV hK hZ hS hA hP hD [0, 1] rfl rfl 0 rfl rfl rfl) rfl rfl hl.1 rfl (lv_room (Nat.le_of_ble_eq_true rfl)) dX12_isSent_3 ⟨by rw [hRc]; exact Nat.le_of_ble_eq_true rfl, by rw [hRs]; exact Nat.le_of_ble_eq_true rfl⟩) hP hD hS hA [0, 1] rfl (fun _ => rfl) ?_
  clear hP hD hS
  clear H locs
  intro v1 _u H locs hw hP hD hS
  rcases hw with rfl | ⟨rfl, w2, w3, w4⟩
  · refine lv_if_eq (tgt := 35) hx hb dX12_isSent_6 (by decide) (fun c5 => ?_) (fun c5 => ?_)
    · refine lv_iconst (v := 0) hx hb dX12_isSent_35 (by decide) ?_
      subst hAe
      rw [hQ]
      exact W.zret (v := 0) hx hb hr rfl (fun t ht hW => ⟨⟨0, (), rfl, (Or.inl rfl), by rw [ht]; exact hP, hK.warm hW, hD⟩, hS.F ht⟩) hS.2.2 dX12_isSent_36
    · have q6 := mm_neL (lo := 1) (mm_ne c5) mm_k0 mm_k0 (by decide) (by decide)
      exact mm_no q6 (by decide)
  · have q7 := mm_ltR (lo := 1) w4 w2 h3 (by decide)
    refine lv_if_eq (tgt := 35) hx hb dX12_isSent_6 (by decide) (fun c8 => ?_) (fun c8 => ?_)
    · exact mm_eqN c8.symm mm_k0 mm_k1 (by decide)
    · refine lv_aload_n hx hb dX12_isSent_9 rfl (lv_at hl 0 rfl) ?_
      refine lv_iload_n hx hb dX12_isSent_10 rfl (lv_at hl 3 rfl) ?_
      obtain ⟨v9, ev9⟩ : ∃ y : Int64, y = i_2.toInt64 := ⟨_, rfl⟩
      refine lv_i2l hx hb dX12_isSent_11 ev9.symm ?_
      have rv9 : mm_rl v9 (-2147483648) 2147483647 := mm_i2l ev9 (mm_top i_2)
      refine mm_finir (va_runV (As := [.long v9]) (rest := []) ⟨hx, hb, hml, hown, hts⟩ (M96_X12_isText l G cy H.size a_0 v9 i_4 a_1 a_2 a_3 a_4 a_5 i_5 i_6 i_7 i_8 i_9 j_0 i_10 i_11 i_12 i_13 a_6 a_7 a_8 a_9 a_10 a_11 a_12 a_13 a_14 a_15 a_16 a_17 a_18 i_14 i_15 i_16 i_17 i_18 i_19 a_19 i_20 a_20 i_21 i_22 i_23 i_24 i_25 i_26 i_27 i_28 i_29 i_30 i_31 i_32 i_33 i_34 i_35 i_36 i_37 i_38 i_39 i_40 i_41 i_42 i_43 i_44 i_45 i_46 i_47 i_48 i_49 i_50 h0 h1 h2 (mm_wk q7 (by decide)) h4 h5 h6 h7 h8 h9 h10 h11 h12 h13 h14 h15 h16 h17 h18 h19 h20 h21 h22 h23 h24 h25 h26 h27 h28 h29) (cwV 1 hts (mm_gV mm_w613 mm_w614 mm_w615 mm_w5 mm_w616) rfl rfl rfl hd_X12_isText ⟨by rw [hRf]; exact Nat.le_of_ble_eq_true rfl, by rw [hRl]; exact Nat.le_of_ble_eq_true rfl⟩) (mm_preV hK hZ hS hA hP hD [0, 1] rfl rfl 0 rfl rfl rfl) rfl rfl hl.1 rfl (lv_room (Nat.le_of_ble_eq_true rfl)) dX12_isSent_12 ⟨by rw [hRc]; exact Nat.le_of_ble_eq_true rfl, by rw [hRs]; exact Nat.le_of_ble_eq_true rfl⟩) hP hD hS hA [0, 1] rfl (fun _ => rfl) ?_
      clear hP hD hS
      clear H locs
      intro v10 _u H locs hw hP hD hS
      rcases hw with rfl | ⟨rfl, w11, w12⟩
      · refine lv_if_eq (tgt := 35) hx hb dX12_isSent_15 (by decide) (fun c13 => ?_) (fun c13 => ?_)
        · refine lv_iconst (v := 0) hx hb dX12_isSent_35 (by decide) ?_
          subst hAe
          rw [hQ]
          exact W.zret (v := 0) hx hb hr rfl (fun t ht hW => ⟨⟨0, (), rfl, (Or.inl rfl), by rw [ht]; exact hP, hK.warm hW, hD⟩, hS.F ht⟩) hS.2.2 dX12_isSent_36
        · have q14 := mm_neL (lo := 1) (mm_ne c13) mm_k0 mm_k0 (by decide) (by decide)
          exact mm_no q14 (by decide)
      · have q15 := mm_meet (lo := 0) (hi := 5) (mm_l2x ev9 w11) (mm_top i_2) (by decide)
        have w16 := mm_tx_lt w12 (mm_i2lE ev9)
        have q17 := mm_ltR (lo := 1) w16 q15 h4 (by decide)
        refine lv_if_eq (tgt := 35) hx hb dX12_isSent_15 (by decide) (fun c18 => ?_) (fun c18 => ?_)
        · exact mm_eqN c18.symm mm_k0 mm_k1 (by decide)
        · refine lv_iload hx hb dX12_isSent_18 (lv_at hl 4 rfl) ?_
          obtain ⟨v19, ev19⟩ : ∃ y : Int64, y = i_3.toInt64 := ⟨_, rfl⟩
          refine lv_i2l hx hb dX12_isSent_20 ev19.symm ?_
          have rv19 : mm_rl v19 (-2147483648) 2147483647 := mm_i2l ev19 (mm_top i_3)
          refine lv_lconst (v := 0) hx hb dX12_isSent_21 (by decide) ?_
          refine lv_ldc2 (v := 7) hx hb hown (mm_h hts mm_w1399) dX12_isSent_22 ?_
          refine mm_finir (va_runS (As := [.long v19, .long 0, .long 7]) (rest := []) ⟨hx, hb, hml, hown, hts⟩ (M7_X12_in l G cy H.size v19 7 ) (va_cwS 3 hts (mm_gS mm_w191 mm_w192 mm_w5 mm_w193) rfl rfl rfl hs_X12_in ⟨by rw [hRf]; exact Nat.le_of_ble_eq_true rfl, by rw [hRl]; exact Nat.le_of_ble_eq_true rfl⟩) (mm_preS hK hZ hS hA hP hD [] rfl rfl) rfl rfl hl.1 rfl (lv_room (Nat.le_of_ble_eq_true rfl)) dX12_isSent_25 ⟨by rw [hRc]; exact Nat.le_of_ble_eq_true rfl, by rw [hRs]; exact Nat.le_of_ble_eq_true rfl⟩) hP hD hS hA [] rfl (fun _ => rfl) ?_
          clear hP hD hS
          clear H locs
          intro v20 _u H locs hw hP hD hS
          rcases hw with ⟨rfl, w21⟩ | ⟨rfl, w22, w23, w24, w25⟩
          · refine lv_if_eq (tgt := 35) hx hb dX12_isSent_28 (by decide) (fun c26 => ?_) (fun c26 => ?_)
            · refine lv_iconst (v := 0) hx hb dX12_isSent_35 (by decide) ?_
              subst hAe
              rw [hQ]
              exact W.zret (v := 0) hx hb hr rfl (fun t ht hW => ⟨⟨0, (), rfl, (Or.inl rfl), by rw [ht]; exact hP, hK.warm hW, hD⟩, hS.F ht⟩) hS.2.2 dX12_isSent_36
            · have q27 := mm_neL (lo := 1) (mm_ne c26) mm_k0 mm_k0 (by decide) (by decide)
              exact mm_no q27 (by decide)
          · have q28 := mm_meetl (lo := 0) (hi := 2147483647) w22 rv19 (by decide)
            have q29 := mm_meet (lo := 0) (hi := 2147483647) (mm_l2x ev19 q28) (mm_top i_3) (by decide)
            have q30 := mm_leLl w24 q28 mm_kl7
            have q31 := mm_meet (lo := 0) (hi := 7) (mm_l2x ev19 q30) q29 (by decide)
            refine lv_if_eq (tgt := 35) hx hb dX12_isSent_28 (by decide) (fun c32 => ?_) (fun c32 => ?_)
            · exact mm_eqN c32.symm mm_k0 mm_k1 (by decide)
            · refine lv_iconst (v := 1) hx hb dX12_isSent_31 (by decide) ?_
              refine lv_goto (tgt := 36) hx hb dX12_isSent_32 (by decide) ?_
              subst hAe
              rw [hQ]
              exact W.zret (v := 1) hx hb hr rfl (fun t ht hW => ⟨⟨1, (), rfl, (Or.inr ⟨rfl, w2, w3, q15, q31, w4⟩), by rw [ht]; exact hP, hK.warm hW, hD⟩, hS.F ht⟩) hS.2.2 dX12_isSent_36

set_option maxHeartbeats 4000000 in
set_option maxRecDepth 100000 in
theorem M244_X12_sizeOf (l : Launch) (G : va_G) (cy : Nat → ClassId) (sz : Nat) (i_0 : Int32) (h0 : mm_rg i_0 0 127)  : mm_CI l yX12_sizeOf (mm_ws yX12_sizeOf cX12_sizeOf 3 (some .int)) ({ frames := 0, cells := 0, slots := 0, locals := 0 } : Room) G cy sz [] [.int i_0] (fun u : Unit => []) (fun (r : Int32) (u : Unit) => mm_rg r 0 7 ∧ mm_pcn i_0 r) 0 0 := by
  refine mm_begin (lv := [(0, .int i_0)]) (by decide) (Nat.le_of_ble_eq_true rfl) rfl ?_
  intro p e s m below meth c A ls R args Q H locs hRe hQ hAe hx hb hr hlocks hml hown hnm hts hsz hA hS hP hK hD hZ hl
  have hRf : R.frames = 0 := by rw [hRe]
  have hRl : R.locals = 0 := by rw [hRe]
  have hRc : R.cells = 0 := by rw [hRe]
  have hRs : R.slots = 0 := by rw [hRe]
  refine lv_iconst (v := 0) hx hb dX12_sizeOf_0 (by decide) ?_
  refine lv_istore_n (lv' := [(1, .int 0), (0, .int i_0)]) hx hb dX12_sizeOf_1 rfl hl (by decide) rfl ?_
  clear hl
  clear ls
  intro ls hl
  refine lv_iload_n hx hb dX12_sizeOf_2 rfl (lv_at hl 1 rfl) ?_
  refine lv_istore_n (lv' := [(2, .int i_0), (1, .int 0), (0, .int i_0)]) hx hb dX12_sizeOf_3 rfl hl (by decide) rfl ?_
  clear hl
  clear ls
  intro ls hl
  have L4_14 : ∀ (n : Nat) (x4_2_12 : Int32) (x4_1_13 : Int32), mm_rg x4_2_12 0 127 → mm_rg x4_1_13 0 7 → mm_pcs i_0 x4_1_13 x4_2_12 → (x4_2_12 : Int32).toInt.toNat < n → ∀ (H : Heap) (locs : List Loc), va_P G vwCl [] H → va_D A [] → va_S A s.heap H locs → ∀ (ls : Array Slot), lv_has ls 3 [(2, .int x4_2_12), (1, .int x4_1_13), (0, .int i_0)] → W p l e R s m args below meth c H locs 0 0 Q (F0 m 4 ls []) := by
    intro n
    induction n with
    | zero => intro x4_2_12 x4_1_13 rx4_2_12 rx4_1_13 w14 hm; exact absurd hm (Nat.not_lt_zero _)
    | succ n ih4 =>
      intro x4_2_12 x4_1_13 rx4_2_12 rx4_1_13 w14 hm4 H locs hP hD hS ls hl
      refine lv_iload_n hx hb dX12_sizeOf_4 rfl (lv_at hl 0 rfl) ?_
      refine lv_if_eq (tgt := 20) hx hb dX12_sizeOf_5 (by decide) (fun c16 => ?_) (fun c16 => ?_)
      · have q17 := mm_eqI (lo := 0) (hi := 0) c16 rx4_2_12 mm_k0 (by decide)
        refine lv_iload_n hx hb dX12_sizeOf_20 rfl (lv_at hl 1 rfl) ?_
        have w18 : mm_pcn i_0 x4_1_13 := (mm_pcn_of w14 q17 (by decide))
        subst hAe
        rw [hQ]
        exact W.iret (v := x4_1_13) hx hb hr (fun t ht hW => ⟨⟨x4_1_13, (), rfl, ⟨rx4_1_13, w18⟩, by rw [ht]; exact hP, hK.warm hW, hD⟩, hS.F ht⟩) hS.2.2 dX12_sizeOf_21
      · have q19 := mm_neL (lo := 1) (mm_ne c16) rx4_2_12 mm_k0 (by decide) (by decide)
        obtain ⟨v20, ev20⟩ : ∃ y : Int32, y = x4_1_13 + 1 := ⟨_, rfl⟩
        refine lv_iinc (v := v20) (lv' := [(1, .int v20), (2, .int x4_2_12), (0, .int i_0)]) hx hb dX12_sizeOf_8 hl (k := 1) rfl (by rw [ev20]; rfl) (by decide) rfl ?_
        clear hl
        clear ls
        intro ls hl
        have rv20 : mm_rg v20 1 8 := mm_add ev20 rx4_1_13 mm_k1 (by decide) (by decide)
        have tv20 := mm_addEc ev20 rx4_1_13 mm_k1 (by decide) (k := 1) (by decide)
        refine lv_iload_n hx hb dX12_sizeOf_11 rfl (lv_at hl 1 rfl) ?_
        refine lv_iload_n hx hb dX12_sizeOf_12 rfl (lv_at hl 1 rfl) ?_
        refine lv_iconst (v := 1) hx hb dX12_sizeOf_13 (by decide) ?_
        refine lv_isub hx hb dX12_sizeOf_14 ?_
        refine lv_topi (fun v21 ev21 => ?_)
        have rv21 : mm_rg v21 0 126 := mm_sub ev21 q19 mm_k1 (by decide) (by decide)
        have tv21 := mm_subEc ev21 q19 mm_k1 (by decide) (k := (-1)) (by decide)
        refine lv_iand hx hb dX12_sizeOf_15 ?_
        refine lv_topi (fun v22 ev22 => ?_)
        have rv22 : mm_rg v22 0 126 := mm_andR ev22 rv21 (by decide)
        refine lv_istore_n (lv' := [(2, .int v22), (1, .int v20), (0, .int i_0)]) hx hb dX12_sizeOf_16 rfl hl (by decide) rfl ?_
        clear hl
        clear ls
        intro ls hl
        refine lv_goto (tgt := 4) hx hb dX12_sizeOf_17 (by decide) ?_
        have w23 : mm_pcs i_0 v20 v22 := (mm_pcs_s w14 tv20 ev22 ev21 q19 (by decide))
        have q24 : mm_rg v20 1 7 := mm_pcs_rg w23 rv20 (by decide)
        have q25 : mm_rg v22 0 127 := mm_pcs_an ev22 q19 (by decide)
        exact ih4 v22 v20 q25 (mm_wk q24 (by decide)) w23 (mm_szM hm4 ev22 ev21 q19 (by decide)) H locs hP hD hS ls (lv_sub hl [0, 1, 2] rfl)
  exact L4_14 _ i_0 0 h0 (mm_wk mm_k0 (by decide)) (mm_pcs_0 _) (Nat.lt_succ_self _) H locs hP hD hS ls (lv_sub hl [0, 1, 2] rfl)

set_option maxHeartbeats 4000000 in
set_option maxRecDepth 100000 in
theorem M245_X12_power (l : Launch) (G : va_G) (cy : Nat → ClassId) (sz : Nat) (j_0 : Int64) (i_0 : Int32) (h0 : mm_rl j_0 0 10) (h1 : mm_rg i_0 0 0)  : mm_CL l yX12_power (mm_ws yX12_power cX12_power 3 (some .long)) ({ frames := 0, cells := 0, slots := 0, locals := 0 } : Room) G cy sz [] [.long j_0, .int i_0] (fun u : Unit => []) (fun (r : Int64) (u : Unit) => mm_rl r 1 1 ∧ mm_pw i_0 r) 0 0 := by
  refine mm_begin (lv := [(0, .long j_0), (2, .int i_0)]) (by decide) (Nat.le_of_ble_eq_true rfl) rfl ?_
  intro p e s m below meth c A ls R args Q H locs hRe hQ hAe hx hb hr hlocks hml hown hnm hts hsz hA hS hP hK hD hZ hl
  have hRf : R.frames = 0 := by rw [hRe]
  have hRl : R.locals = 0 := by rw [hRe]
  have hRc : R.cells = 0 := by rw [hRe]
  have hRs : R.slots = 0 := by rw [hRe]
  refine lv_iload_n hx hb dX12_power_0 rfl (lv_at hl 1 rfl) ?_
  refine lv_if_ne (tgt := 8) hx hb dX12_power_1 (by decide) (fun c1 => ?_) (fun c1 => ?_)
  · have q2 := mm_neL (lo := 1) (mm_ne c1) h1 mm_k0 (by decide) (by decide)
    exact mm_no q2 (by decide)
  · refine lv_lconst (v := 1) hx hb dX12_power_4 (by decide) ?_
    refine lv_goto (tgt := 17) hx hb dX12_power_5 (by decide) ?_
    have w3 : mm_pw i_0 1 := (mm_pw_0 _)
    subst hAe
    rw [hQ]
    exact W.lret (v := 1) hx hb hr (fun t ht hW => ⟨⟨1, (), rfl, ⟨mm_kl1, w3⟩, by rw [ht]; exact hP, hK.warm hW, hD⟩, hS.F ht⟩) hS.2.2 dX12_power_17

set_option maxHeartbeats 4000000 in
set_option maxRecDepth 100000 in
theorem M246_X12_power (l : Launch) (G : va_G) (cy : Nat → ClassId) (sz : Nat) (j_0 : Int64) (i_0 : Int32) (h0 : mm_rl j_0 0 10) (h1 : mm_rg i_0 0 1)  : mm_CL l yX12_power (mm_ws yX12_power cX12_power 3 (some .long)) ({ frames := 1, cells := 0, slots := 0, locals := 22 } : Room) G cy sz [] [.long j_0, .int i_0] (fun u : Unit => []) (fun (r : Int64) (u : Unit) => mm_rl r 0 10 ∧ mm_pw i_0 r) 0 0 := by
  refine mm_begin (lv := [(0, .long j_0), (2, .int i_0)]) (by decide) (Nat.le_of_ble_eq_true rfl) rfl ?_
  intro p e s m below meth c A ls R args Q H locs hRe hQ hAe hx hb hr hlocks hml hown hnm hts hsz hA hS hP hK hD hZ hl
  have hRf : R.frames = 1 := by rw [hRe]
  have hRl : R.locals = 22 := by rw [hRe]
  have hRc : R.cells = 0 := by rw [hRe]
  have hRs : R.slots = 0 := by rw [hRe]
  refine lv_iload_n hx hb dX12_power_0 rfl (lv_at hl 1 rfl) ?_
  refine lv_if_ne (tgt := 8) hx hb dX12_power_1 (by decide) (fun c1 => ?_) (fun c1 => ?_)
  · have q2 := mm_neL (lo := 1) (mm_ne c1) h1 mm_k0 (by decide) (by decide)
    refine lv_lload_n hx hb dX12_power_8 rfl (lv_at hl 0 rfl) ?_
    refine lv_lload_n hx hb dX12_power_9 rfl (lv_at hl 0 rfl) ?_
    refine lv_iload_n hx hb dX12_power_10 rfl (lv_at hl 1 rfl) ?_
    refine lv_iconst (v := 1) hx hb dX12_power_11 (by decide) ?_
    refine lv_isub hx hb dX12_power_12 ?_
    refine lv_topi (fun v3 ev3 => ?_)
    have rv3 : mm_rg v3 0 0 := mm_sub ev3 q2 mm_k1 (by decide) (by decide)
    have tv3 := mm_subEc ev3 q2 mm_k1 (by decide) (k := (-1)) (by decide)
    refine mm_finlr (va_runS (As := [.long j_0, .int v3]) (rest := [.long j_0]) ⟨hx, hb, hml, hown, hts⟩ (M245_X12_power l G cy H.size j_0 v3 h0 rv3) (va_cwS 2 hts (mm_gS mm_w1523 mm_w1524 mm_w5 mm_w1525) rfl rfl rfl hs_X12_power ⟨by rw [hRf]; exact Nat.le_of_ble_eq_true rfl, by rw [hRl]; exact Nat.le_of_ble_eq_true rfl⟩) (mm_preS hK hZ hS hA hP hD [] rfl rfl) rfl rfl hl.1 rfl (lv_room (Nat.le_of_ble_eq_true rfl)) dX12_power_13 ⟨by rw [hRc]; exact Nat.le_of_ble_eq_true rfl, by rw [hRs]; exact Nat.le_of_ble_eq_true rfl⟩) hP hD hS hA [] rfl (fun _ => rfl) ?_
    clear hP hD hS
    clear H locs
    intro v4 _u H locs hw hP hD hS
    obtain ⟨w5, w6⟩ := hw
    refine lv_lmul hx hb dX12_power_16 ?_
    refine lv_topl (fun v7 ev7 => ?_)
    have rv7 : mm_rl v7 0 10 := mm_mull ev7 h0 w5 (by decide) (by decide)
    have w8 : mm_pw i_0 v7 := (mm_pw_s w6 tv3 ev7 h0 w5 rv3 (by decide))
    subst hAe
    rw [hQ]
    exact W.lret (v := v7) hx hb hr (fun t ht hW => ⟨⟨v7, (), rfl, ⟨rv7, w8⟩, by rw [ht]; exact hP, hK.warm hW, hD⟩, hS.F ht⟩) hS.2.2 dX12_power_17
  · have q9 := mm_eqI (lo := 0) (hi := 0) c1 h1 mm_k0 (by decide)
    refine lv_lconst (v := 1) hx hb dX12_power_4 (by decide) ?_
    refine lv_goto (tgt := 17) hx hb dX12_power_5 (by decide) ?_
    have w10 : mm_pw i_0 1 := (mm_pw_0 _)
    subst hAe
    rw [hQ]
    exact W.lret (v := 1) hx hb hr (fun t ht hW => ⟨⟨1, (), rfl, ⟨(mm_wkl mm_kl1 (by decide)), w10⟩, by rw [ht]; exact hP, hK.warm hW, hD⟩, hS.F ht⟩) hS.2.2 dX12_power_17

set_option maxHeartbeats 4000000 in
set_option maxRecDepth 100000 in
theorem M247_X12_power (l : Launch) (G : va_G) (cy : Nat → ClassId) (sz : Nat) (j_0 : Int64) (i_0 : Int32) (h0 : mm_rl j_0 0 10) (h1 : mm_rg i_0 0 2)  : mm_CL l yX12_power (mm_ws yX12_power cX12_power 3 (some .long)) ({ frames := 2, cells := 0, slots := 0, locals := 44 } : Room) G cy sz [] [.long j_0, .int i_0] (fun u : Unit => []) (fun (r : Int64) (u : Unit) => mm_rl r 0 100 ∧ mm_pw i_0 r) 0 0 := by
  refine mm_begin (lv := [(0, .long j_0), (2, .int i_0)]) (by decide) (Nat.le_of_ble_eq_true rfl) rfl ?_
  intro p e s m below meth c A ls R args Q H locs hRe hQ hAe hx hb hr hlocks hml hown hnm hts hsz hA hS hP hK hD hZ hl
  have hRf : R.frames = 2 := by rw [hRe]
  have hRl : R.locals = 44 := by rw [hRe]
  have hRc : R.cells = 0 := by rw [hRe]
  have hRs : R.slots = 0 := by rw [hRe]
  refine lv_iload_n hx hb dX12_power_0 rfl (lv_at hl 1 rfl) ?_
  refine lv_if_ne (tgt := 8) hx hb dX12_power_1 (by decide) (fun c1 => ?_) (fun c1 => ?_)
  · have q2 := mm_neL (lo := 1) (mm_ne c1) h1 mm_k0 (by decide) (by decide)
    refine lv_lload_n hx hb dX12_power_8 rfl (lv_at hl 0 rfl) ?_
    refine lv_lload_n hx hb dX12_power_9 rfl (lv_at hl 0 rfl) ?_
    refine lv_iload_n hx hb dX12_power_10 rfl (lv_at hl 1 rfl) ?_
    refine lv_iconst (v := 1) hx hb dX12_power_11 (by decide) ?_
    refine lv_isub hx hb dX12_power_12 ?_
    refine lv_topi (fun v3 ev3 => ?_)
    have rv3 : mm_rg v3 0 1 := mm_sub ev3 q2 mm_k1 (by decide) (by decide)
    have tv3 := mm_subEc ev3 q2 mm_k1 (by decide) (k := (-1)) (by decide)
    refine mm_finlr (va_runS (As := [.long j_0, .int v3]) (rest := [.long j_0]) ⟨hx, hb, hml, hown, hts⟩ (M246_X12_power l G cy H.size j_0 v3 h0 rv3) (va_cwS 2 hts (mm_gS mm_w1523 mm_w1524 mm_w5 mm_w1525) rfl rfl rfl hs_X12_power ⟨by rw [hRf]; exact Nat.le_of_ble_eq_true rfl, by rw [hRl]; exact Nat.le_of_ble_eq_true rfl⟩) (mm_preS hK hZ hS hA hP hD [] rfl rfl) rfl rfl hl.1 rfl (lv_room (Nat.le_of_ble_eq_true rfl)) dX12_power_13 ⟨by rw [hRc]; exact Nat.le_of_ble_eq_true rfl, by rw [hRs]; exact Nat.le_of_ble_eq_true rfl⟩) hP hD hS hA [] rfl (fun _ => rfl) ?_
    clear hP hD hS
    clear H locs
    intro v4 _u H locs hw hP hD hS
    obtain ⟨w5, w6⟩ := hw
    refine lv_lmul hx hb dX12_power_16 ?_
    refine lv_topl (fun v7 ev7 => ?_)
    have rv7 : mm_rl v7 0 100 := mm_mull ev7 h0 w5 (by decide) (by decide)
    have w8 : mm_pw i_0 v7 := (mm_pw_s w6 tv3 ev7 h0 w5 rv3 (by decide))
    subst hAe
    rw [hQ]
    exact W.lret (v := v7) hx hb hr (fun t ht hW => ⟨⟨v7, (), rfl, ⟨rv7, w8⟩, by rw [ht]; exact hP, hK.warm hW, hD⟩, hS.F ht⟩) hS.2.2 dX12_power_17
  · have q9 := mm_eqI (lo := 0) (hi := 0) c1 h1 mm_k0 (by decide)
    refine lv_lconst (v := 1) hx hb dX12_power_4 (by decide) ?_
    refine lv_goto (tgt := 17) hx hb dX12_power_5 (by decide) ?_
    have w10 : mm_pw i_0 1 := (mm_pw_0 _)
    subst hAe
    rw [hQ]
    exact W.lret (v := 1) hx hb hr (fun t ht hW => ⟨⟨1, (), rfl, ⟨(mm_wkl mm_kl1 (by decide)), w10⟩, by rw [ht]; exact hP, hK.warm hW, hD⟩, hS.F ht⟩) hS.2.2 dX12_power_17

set_option maxHeartbeats 4000000 in
set_option maxRecDepth 100000 in
theorem M248_X12_power (l : Launch) (G : va_G) (cy : Nat → ClassId) (sz : Nat) (j_0 : Int64) (i_0 : Int32) (h0 : mm_rl j_0 0 10) (h1 : mm_rg i_0 0 3)  : mm_CL l yX12_power (mm_ws yX12_power cX12_power 3 (some .long)) ({ frames := 3, cells := 0, slots := 0, locals := 66 } : Room) G cy sz [] [.long j_0, .int i_0] (fun u : Unit => []) (fun (r : Int64) (u : Unit) => mm_rl r 0 1000 ∧ mm_pw i_0 r) 0 0 := by
  refine mm_begin (lv := [(0, .long j_0), (2, .int i_0)]) (by decide) (Nat.le_of_ble_eq_true rfl) rfl ?_
  intro p e s m below meth c A ls R args Q H locs hRe hQ hAe hx hb hr hlocks hml hown hnm hts hsz hA hS hP hK hD hZ hl
  have hRf : R.frames = 3 := by rw [hRe]
  have hRl : R.locals = 66 := by rw [hRe]
  have hRc : R.cells = 0 := by rw [hRe]
  have hRs : R.slots = 0 := by rw [hRe]
  refine lv_iload_n hx hb dX12_power_0 rfl (lv_at hl 1 rfl) ?_
  refine lv_if_ne (tgt := 8) hx hb dX12_power_1 (by decide) (fun c1 => ?_) (fun c1 => ?_)
  · have q2 := mm_neL (lo := 1) (mm_ne c1) h1 mm_k0 (by decide) (by decide)
    refine lv_lload_n hx hb dX12_power_8 rfl (lv_at hl 0 rfl) ?_
    refine lv_lload_n hx hb dX12_power_9 rfl (lv_at hl 0 rfl) ?_
    refine lv_iload_n hx hb dX12_power_10 rfl (lv_at hl 1 rfl) ?_
    refine lv_iconst (v := 1) hx hb dX12_power_11 (by decide) ?_
    refine lv_isub hx hb dX12_power_12 ?_
    refine lv_topi (fun v3 ev3 => ?_)
    have rv3 : mm_rg v3 0 2 := mm_sub ev3 q2 mm_k1 (by decide) (by decide)
    have tv3 := mm_subEc ev3 q2 mm_k1 (by decide) (k := (-1)) (by decide)
    refine mm_finlr (va_runS (As := [.long j_0, .int v3]) (rest := [.long j_0]) ⟨hx, hb, hml, hown, hts⟩ (M247_X12_power l G cy H.size j_0 v3 h0 rv3) (va_cwS 2 hts (mm_gS mm_w1523 mm_w1524 mm_w5 mm_w1525) rfl rfl rfl hs_X12_power ⟨by rw [hRf]; exact Nat.le_of_ble_eq_true rfl, by rw [hRl]; exact Nat.le_of_ble_eq_true rfl⟩) (mm_preS hK hZ hS hA hP hD [] rfl rfl) rfl rfl hl.1 rfl (lv_room (Nat.le_of_ble_eq_true rfl)) dX12_power_13 ⟨by rw [hRc]; exact Nat.le_of_ble_eq_true rfl, by rw [hRs]; exact Nat.le_of_ble_eq_true rfl⟩) hP hD hS hA [] rfl (fun _ => rfl) ?_
    clear hP hD hS
    clear H locs
    intro v4 _u H locs hw hP hD hS
    obtain ⟨w5, w6⟩ := hw
    refine lv_lmul hx hb dX12_power_16 ?_
    refine lv_topl (fun v7 ev7 => ?_)
    have rv7 : mm_rl v7 0 1000 := mm_mull ev7 h0 w5 (by decide) (by decide)
    have w8 : mm_pw i_0 v7 := (mm_pw_s w6 tv3 ev7 h0 w5 rv3 (by decide))
    subst hAe
    rw [hQ]
    exact W.lret (v := v7) hx hb hr (fun t ht hW => ⟨⟨v7, (), rfl, ⟨rv7, w8⟩, by rw [ht]; exact hP, hK.warm hW, hD⟩, hS.F ht⟩) hS.2.2 dX12_power_17
  · have q9 := mm_eqI (lo := 0) (hi := 0) c1 h1 mm_k0 (by decide)
    refine lv_lconst (v := 1) hx hb dX12_power_4 (by decide) ?_
    refine lv_goto (tgt := 17) hx hb dX12_power_5 (by decide) ?_
    have w10 : mm_pw i_0 1 := (mm_pw_0 _)
    subst hAe
    rw [hQ]
    exact W.lret (v := 1) hx hb hr (fun t ht hW => ⟨⟨1, (), rfl, ⟨(mm_wkl mm_kl1 (by decide)), w10⟩, by rw [ht]; exact hP, hK.warm hW, hD⟩, hS.F ht⟩) hS.2.2 dX12_power_17

set_option maxHeartbeats 4000000 in
set_option maxRecDepth 100000 in
theorem M249_X12_power (l : Launch) (G : va_G) (cy : Nat → ClassId) (sz : Nat) (j_0 : Int64) (i_0 : Int32) (h0 : mm_rl j_0 0 10) (h1 : mm_rg i_0 0 4)  : mm_CL l yX12_power (mm_ws yX12_power cX12_power 3 (some .long)) ({ frames := 4, cells := 0, slots := 0, locals := 88 } : Room) G cy sz [] [.long j_0, .int i_0] (fun u : Unit => []) (fun (r : Int64) (u : Unit) => mm_rl r 0 10000 ∧ mm_pw i_0 r) 0 0 := by
  refine mm_begin (lv := [(0, .long j_0), (2, .int i_0)]) (by decide) (Nat.le_of_ble_eq_true rfl) rfl ?_
  intro p e s m below meth c A ls R args Q H locs hRe hQ hAe hx hb hr hlocks hml hown hnm hts hsz hA hS hP hK hD hZ hl
  have hRf : R.frames = 4 := by rw [hRe]
  have hRl : R.locals = 88 := by rw [hRe]
  have hRc : R.cells = 0 := by rw [hRe]
  have hRs : R.slots = 0 := by rw [hRe]
  refine lv_iload_n hx hb dX12_power_0 rfl (lv_at hl 1 rfl) ?_
  refine lv_if_ne (tgt := 8) hx hb dX12_power_1 (by decide) (fun c1 => ?_) (fun c1 => ?_)
  · have q2 := mm_neL (lo := 1) (mm_ne c1) h1 mm_k0 (by decide) (by decide)
    refine lv_lload_n hx hb dX12_power_8 rfl (lv_at hl 0 rfl) ?_
    refine lv_lload_n hx hb dX12_power_9 rfl (lv_at hl 0 rfl) ?_
    refine lv_iload_n hx hb dX12_power_10 rfl (lv_at hl 1 rfl) ?_
    refine lv_iconst (v := 1) hx hb dX12_power_11 (by decide) ?_
    refine lv_isub hx hb dX12_power_12 ?_
    refine lv_topi (fun v3 ev3 => ?_)
    have rv3 : mm_rg v3 0 3 := mm_sub ev3 q2 mm_k1 (by decide) (by decide)
    have tv3 := mm_subEc ev3 q2 mm_k1 (by decide) (k := (-1)) (by decide)
    refine mm_finlr (va_runS (As := [.long j_0, .int v3]) (rest := [.long j_0]) ⟨hx, hb, hml, hown, hts⟩ (M248_X12_power l G cy H.size j_0 v3 h0 rv3) (va_cwS 2 hts (mm_gS mm_w1523 mm_w1524 mm_w5 mm_w1525) rfl rfl rfl hs_X12_power ⟨by rw [hRf]; exact Nat.le_of_ble_eq_true rfl, by rw [hRl]; exact Nat.le_of_ble_eq_true rfl⟩) (mm_preS hK hZ hS hA hP hD [] rfl rfl) rfl rfl hl.1 rfl (lv_room (Nat.le_of_ble_eq_true rfl)) dX12_power_13 ⟨by rw [hRc]; exact Nat.le_of_ble_eq_true rfl, by rw [hRs]; exact Nat.le_of_ble_eq_true rfl⟩) hP hD hS hA [] rfl (fun _ => rfl) ?_
    clear hP hD hS
    clear H locs
    intro v4 _u H locs hw hP hD hS
    obtain ⟨w5, w6⟩ := hw
    refine lv_lmul hx hb dX12_power_16 ?_
    refine lv_topl (fun v7 ev7 => ?_)
    have rv7 : mm_rl v7 0 10000 := mm_mull ev7 h0 w5 (by decide) (by decide)
    have w8 : mm_pw i_0 v7 := (mm_pw_s w6 tv3 ev7 h0 w5 rv3 (by decide))
    subst hAe
    rw [hQ]
    exact W.lret (v := v7) hx hb hr (fun t ht hW => ⟨⟨v7, (), rfl, ⟨rv7, w8⟩, by rw [ht]; exact hP, hK.warm hW, hD⟩, hS.F ht⟩) hS.2.2 dX12_power_17
  · have q9 := mm_eqI (lo := 0) (hi := 0) c1 h1 mm_k0 (by decide)
    refine lv_lconst (v := 1) hx hb dX12_power_4 (by decide) ?_
    refine lv_goto (tgt := 17) hx hb dX12_power_5 (by decide) ?_
    have w10 : mm_pw i_0 1 := (mm_pw_0 _)
    subst hAe
    rw [hQ]
    exact W.lret (v := 1) hx hb hr (fun t ht hW => ⟨⟨1, (), rfl, ⟨(mm_wkl mm_kl1 (by decide)), w10⟩, by rw [ht]; exact hP, hK.warm hW, hD⟩, hS.F ht⟩) hS.2.2 dX12_power_17

set_option maxHeartbeats 4000000 in
set_option maxRecDepth 100000 in
theorem M250_X12_power (l : Launch) (G : va_G) (cy : Nat → ClassId) (sz : Nat) (j_0 : Int64) (i_0 : Int32) (h0 : mm_rl j_0 0 10) (h1 : mm_rg i_0 0 5)  : mm_CL l yX12_power (mm_ws yX12_power cX12_power 3 (some .long)) ({ frames := 5, cells := 0, slots := 0, locals := 110 } : Room) G cy sz [] [.long j_0, .int i_0] (fun u : Unit => []) (fun (r : Int64) (u : Unit) => mm_rl r 0 100000 ∧ mm_pw i_0 r) 0 0 := by
  refine mm_begin (lv := [(0, .long j_0), (2, .int i_0)]) (by decide) (Nat.le_of_ble_eq_true rfl) rfl ?_
  intro p e s m below meth c A ls R args Q H locs hRe hQ hAe hx hb hr hlocks hml hown hnm hts hsz hA hS hP hK hD hZ hl
  have hRf : R.frames = 5 := by rw [hRe]
  have hRl : R.locals = 110 := by rw [hRe]
  have hRc : R.cells = 0 := by rw [hRe]
  have hRs : R.slots = 0 := by rw [hRe]
  refine lv_iload_n hx hb dX12_power_0 rfl (lv_at hl 1 rfl) ?_
  refine lv_if_ne (tgt := 8) hx hb dX12_power_1 (by decide) (fun c1 => ?_) (fun c1 => ?_)
  · have q2 := mm_neL (lo := 1) (mm_ne c1) h1 mm_k0 (by decide) (by decide)
    refine lv_lload_n hx hb dX12_power_8 rfl (lv_at hl 0 rfl) ?_
    refine lv_lload_n hx hb dX12_power_9 rfl (lv_at hl 0 rfl) ?_
    refine lv_iload_n hx hb dX12_power_10 rfl (lv_at hl 1 rfl) ?_
    refine lv_iconst (v := 1) hx hb dX12_power_11 (by decide) ?_
    refine lv_isub hx hb dX12_power_12 ?_
    refine lv_topi (fun v3 ev3 => ?_)
    have rv3 : mm_rg v3 0 4 := mm_sub ev3 q2 mm_k1 (by decide) (by decide)
    have tv3 := mm_subEc ev3 q2 mm_k1 (by decide) (k := (-1)) (by decide)
    refine mm_finlr (va_runS (As := [.long j_0, .int v3]) (rest := [.long j_0]) ⟨hx, hb, hml, hown, hts⟩ (M249_X12_power l G cy H.size j_0 v3 h0 rv3) (va_cwS 2 hts (mm_gS mm_w1523 mm_w1524 mm_w5 mm_w1525) rfl rfl rfl hs_X12_power ⟨by rw [hRf]; exact Nat.le_of_ble_eq_true rfl, by rw [hRl]; exact Nat.le_of_ble_eq_true rfl⟩) (mm_preS hK hZ hS hA hP hD [] rfl rfl) rfl rfl hl.1 rfl (lv_room (Nat.le_of_ble_eq_true rfl)) dX12_power_13 ⟨by rw [hRc]; exact Nat.le_of_ble_eq_true rfl, by rw [hRs]; exact Nat.le_of_ble_eq_true rfl⟩) hP hD hS hA [] rfl (fun _ => rfl) ?_
    clear hP hD hS
    clear H locs
    intro v4 _u H locs hw hP hD hS
    obtain ⟨w5, w6⟩ := hw
    refine lv_lmul hx hb dX12_power_16 ?_
    refine lv_topl (fun v7 ev7 => ?_)
    have rv7 : mm_rl v7 0 100000 := mm_mull ev7 h0 w5 (by decide) (by decide)
    have w8 : mm_pw i_0 v7 := (mm_pw_s w6 tv3 ev7 h0 w5 rv3 (by decide))
    subst hAe
    rw [hQ]
    exact W.lret (v := v7) hx hb hr (fun t ht hW => ⟨⟨v7, (), rfl, ⟨rv7, w8⟩, by rw [ht]; exact hP, hK.warm hW, hD⟩, hS.F ht⟩) hS.2.2 dX12_power_17
  · have q9 := mm_eqI (lo := 0) (hi := 0) c1 h1 mm_k0 (by decide)
    refine lv_lconst (v := 1) hx hb dX12_power_4 (by decide) ?_
    refine lv_goto (tgt := 17) hx hb dX12_power_5 (by decide) ?_
    have w10 : mm_pw i_0 1 := (mm_pw_0 _)
    subst hAe
    rw [hQ]
    exact W.lret (v := 1) hx hb hr (fun t ht hW => ⟨⟨1, (), rfl, ⟨(mm_wkl mm_kl1 (by decide)), w10⟩, by rw [ht]; exact hP, hK.warm hW, hD⟩, hS.F ht⟩) hS.2.2 dX12_power_17

set_option maxHeartbeats 4000000 in
set_option maxRecDepth 100000 in
theorem M251_X12_power (l : Launch) (G : va_G) (cy : Nat → ClassId) (sz : Nat) (j_0 : Int64) (i_0 : Int32) (h0 : mm_rl j_0 0 10) (h1 : mm_rg i_0 0 6)  : mm_CL l yX12_power (mm_ws yX12_power cX12_power 3 (some .long)) ({ frames := 6, cells := 0, slots := 0, locals := 132 } : Room) G cy sz [] [.long j_0, .int i_0] (fun u : Unit => []) (fun (r : Int64) (u : Unit) => mm_rl r 0 1000000 ∧ mm_pw i_0 r) 0 0 := by
  refine mm_begin (lv := [(0, .long j_0), (2, .int i_0)]) (by decide) (Nat.le_of_ble_eq_true rfl) rfl ?_
  intro p e s m below meth c A ls R args Q H locs hRe hQ hAe hx hb hr hlocks hml hown hnm hts hsz hA hS hP hK hD hZ hl
  have hRf : R.frames = 6 := by rw [hRe]
  have hRl : R.locals = 132 := by rw [hRe]
  have hRc : R.cells = 0 := by rw [hRe]
  have hRs : R.slots = 0 := by rw [hRe]
  refine lv_iload_n hx hb dX12_power_0 rfl (lv_at hl 1 rfl) ?_
  refine lv_if_ne (tgt := 8) hx hb dX12_power_1 (by decide) (fun c1 => ?_) (fun c1 => ?_)
  · have q2 := mm_neL (lo := 1) (mm_ne c1) h1 mm_k0 (by decide) (by decide)
    refine lv_lload_n hx hb dX12_power_8 rfl (lv_at hl 0 rfl) ?_
    refine lv_lload_n hx hb dX12_power_9 rfl (lv_at hl 0 rfl) ?_
    refine lv_iload_n hx hb dX12_power_10 rfl (lv_at hl 1 rfl) ?_
    refine lv_iconst (v := 1) hx hb dX12_power_11 (by decide) ?_
    refine lv_isub hx hb dX12_power_12 ?_
    refine lv_topi (fun v3 ev3 => ?_)
    have rv3 : mm_rg v3 0 5 := mm_sub ev3 q2 mm_k1 (by decide) (by decide)
    have tv3 := mm_subEc ev3 q2 mm_k1 (by decide) (k := (-1)) (by decide)
    refine mm_finlr (va_runS (As := [.long j_0, .int v3]) (rest := [.long j_0]) ⟨hx, hb, hml, hown, hts⟩ (M250_X12_power l G cy H.size j_0 v3 h0 rv3) (va_cwS 2 hts (mm_gS mm_w1523 mm_w1524 mm_w5 mm_w1525) rfl rfl rfl hs_X12_power ⟨by rw [hRf]; exact Nat.le_of_ble_eq_true rfl, by rw [hRl]; exact Nat.le_of_ble_eq_true rfl⟩) (mm_preS hK hZ hS hA hP hD [] rfl rfl) rfl rfl hl.1 rfl (lv_room (Nat.le_of_ble_eq_true rfl)) dX12_power_13 ⟨by rw [hRc]; exact Nat.le_of_ble_eq_true rfl, by rw [hRs]; exact Nat.le_of_ble_eq_true rfl⟩) hP hD hS hA [] rfl (fun _ => rfl) ?_
    clear hP hD hS
    clear H locs
    intro v4 _u H locs hw hP hD hS
    obtain ⟨w5, w6⟩ := hw
    refine lv_lmul hx hb dX12_power_16 ?_
    refine lv_topl (fun v7 ev7 => ?_)
    have rv7 : mm_rl v7 0 1000000 := mm_mull ev7 h0 w5 (by decide) (by decide)
    have w8 : mm_pw i_0 v7 := (mm_pw_s w6 tv3 ev7 h0 w5 rv3 (by decide))
    subst hAe
    rw [hQ]
    exact W.lret (v := v7) hx hb hr (fun t ht hW => ⟨⟨v7, (), rfl, ⟨rv7, w8⟩, by rw [ht]; exact hP, hK.warm hW, hD⟩, hS.F ht⟩) hS.2.2 dX12_power_17
  · have q9 := mm_eqI (lo := 0) (hi := 0) c1 h1 mm_k0 (by decide)
    refine lv_lconst (v := 1) hx hb dX12_power_4 (by decide) ?_
    refine lv_goto (tgt := 17) hx hb dX12_power_5 (by decide) ?_
    have w10 : mm_pw i_0 1 := (mm_pw_0 _)
    subst hAe
    rw [hQ]
    exact W.lret (v := 1) hx hb hr (fun t ht hW => ⟨⟨1, (), rfl, ⟨(mm_wkl mm_kl1 (by decide)), w10⟩, by rw [ht]; exact hP, hK.warm hW, hD⟩, hS.F ht⟩) hS.2.2 dX12_power_17

set_option maxHeartbeats 4000000 in
set_option maxRecDepth 100000 in
theorem M252_X12_power (l : Launch) (G : va_G) (cy : Nat → ClassId) (sz : Nat) (j_0 : Int64) (i_0 : Int32) (h0 : mm_rl j_0 0 10) (h1 : mm_rg i_0 0 7)  : mm_CL l yX12_power (mm_ws yX12_power cX12_power 3 (some .long)) ({ frames := 7, cells := 0, slots := 0, locals := 154 } : Room) G cy sz [] [.long j_0, .int i_0] (fun u : Unit => []) (fun (r : Int64) (u : Unit) => mm_rl r 0 10000000 ∧ mm_pw i_0 r) 0 0 := by
  refine mm_begin (lv := [(0, .long j_0), (2, .int i_0)]) (by decide) (Nat.le_of_ble_eq_true rfl) rfl ?_
  intro p e s m below meth c A ls R args Q H locs hRe hQ hAe hx hb hr hlocks hml hown hnm hts hsz hA hS hP hK hD hZ hl
  have hRf : R.frames = 7 := by rw [hRe]
  have hRl : R.locals = 154 := by rw [hRe]
  have hRc : R.cells = 0 := by rw [hRe]
  have hRs : R.slots = 0 := by rw [hRe]
  refine lv_iload_n hx hb dX12_power_0 rfl (lv_at hl 1 rfl) ?_
  refine lv_if_ne (tgt := 8) hx hb dX12_power_1 (by decide) (fun c1 => ?_) (fun c1 => ?_)
  · have q2 := mm_neL (lo := 1) (mm_ne c1) h1 mm_k0 (by decide) (by decide)
    refine lv_lload_n hx hb dX12_power_8 rfl (lv_at hl 0 rfl) ?_
    refine lv_lload_n hx hb dX12_power_9 rfl (lv_at hl 0 rfl) ?_
    refine lv_iload_n hx hb dX12_power_10 rfl (lv_at hl 1 rfl) ?_
    refine lv_iconst (v := 1) hx hb dX12_power_11 (by decide) ?_
    refine lv_isub hx hb dX12_power_12 ?_
    refine lv_topi (fun v3 ev3 => ?_)
    have rv3 : mm_rg v3 0 6 := mm_sub ev3 q2 mm_k1 (by decide) (by decide)
    have tv3 := mm_subEc ev3 q2 mm_k1 (by decide) (k := (-1)) (by decide)
    refine mm_finlr (va_runS (As := [.long j_0, .int v3]) (rest := [.long j_0]) ⟨hx, hb, hml, hown, hts⟩ (M251_X12_power l G cy H.size j_0 v3 h0 rv3) (va_cwS 2 hts (mm_gS mm_w1523 mm_w1524 mm_w5 mm_w1525) rfl rfl rfl hs_X12_power ⟨by rw [hRf]; exact Nat.le_of_ble_eq_true rfl, by rw [hRl]; exact Nat.le_of_ble_eq_true rfl⟩) (mm_preS hK hZ hS hA hP hD [] rfl rfl) rfl rfl hl.1 rfl (lv_room (Nat.le_of_ble_eq_true rfl)) dX12_power_13 ⟨by rw [hRc]; exact Nat.le_of_ble_eq_true rfl, by rw [hRs]; exact Nat.le_of_ble_eq_true rfl⟩) hP hD hS hA [] rfl (fun _ => rfl) ?_
    clear hP hD hS
    clear H locs
    intro v4 _u H locs hw hP hD hS
    obtain ⟨w5, w6⟩ := hw
    refine lv_lmul hx hb dX12_power_16 ?_
    refine lv_topl (fun v7 ev7 => ?_)
    have rv7 : mm_rl v7 0 10000000 := mm_mull ev7 h0 w5 (by decide) (by decide)
    have w8 : mm_pw i_0 v7 := (mm_pw_s w6 tv3 ev7 h0 w5 rv3 (by decide))
    subst hAe
    rw [hQ]
    exact W.lret (v := v7) hx hb hr (fun t ht hW => ⟨⟨v7, (), rfl, ⟨rv7, w8⟩, by rw [ht]; exact hP, hK.warm hW, hD⟩, hS.F ht⟩) hS.2.2 dX12_power_17
  · have q9 := mm_eqI (lo := 0) (hi := 0) c1 h1 mm_k0 (by decide)
    refine lv_lconst (v := 1) hx hb dX12_power_4 (by decide) ?_
    refine lv_goto (tgt := 17) hx hb dX12_power_5 (by decide) ?_
    have w10 : mm_pw i_0 1 := (mm_pw_0 _)
    subst hAe
    rw [hQ]
    exact W.lret (v := 1) hx hb hr (fun t ht hW => ⟨⟨1, (), rfl, ⟨(mm_wkl mm_kl1 (by decide)), w10⟩, by rw [ht]; exact hP, hK.warm hW, hD⟩, hS.F ht⟩) hS.2.2 dX12_power_17

set_option maxHeartbeats 4000000 in
set_option maxRecDepth 100000 in
theorem M253_X12_weightOf (l : Launch) (G : va_G) (cy : Nat → ClassId) (sz : Nat) (a_0 : Nat) (i_0 : Int32) (i_1 : Int32) (i_2 : Int32) (i_3 : Int32) (i_4 : Int32) (a_1 : Nat) (a_2 : Nat) (a_3 : Nat) (a_4 : Nat) (a_5 : Nat) (i_5 : Int32) (i_6 : Int32) (i_7 : Int32) (i_8 : Int32) (i_9 : Int32) (j_0 : Int64) (i_10 : Int32) (i_11 : Int32) (i_12 : Int32) (i_13 : Int32) (a_6 : Nat) (a_7 : Nat) (a_8 : Nat) (a_9 : Nat) (a_10 : Nat) (a_11 : Nat) (a_12 : Nat) (a_13 : Nat) (a_14 : Nat) (a_15 : Nat) (a_16 : Nat) (a_17 : Nat) (a_18 : Nat) (i_14 : Int32) (i_15 : Int32) (i_16 : Int32) (i_17 : Int32) (i_18 : Int32) (i_19 : Int32) (a_19 : Nat) (i_20 : Int32) (a_20 : Nat) (i_21 : Int32) (i_22 : Int32) (i_23 : Int32) (i_24 : Int32) (i_25 : Int32) (i_26 : Int32) (i_27 : Int32) (i_28 : Int32) (i_29 : Int32) (i_30 : Int32) (i_31 : Int32) (i_32 : Int32) (i_33 : Int32) (i_34 : Int32) (i_35 : Int32) (i_36 : Int32) (i_37 : Int32) (i_38 : Int32) (i_39 : Int32) (i_40 : Int32) (i_41 : Int32) (i_42 : Int32) (i_43 : Int32) (i_44 : Int32) (i_45 : Int32) (i_46 : Int32) (i_47 : Int32) (i_48 : Int32) (i_49 : Int32) (i_50 : Int32) (i_51 : Int32) (i_52 : Int32) (i_53 : Int32) (i_54 : Int32) (i_55 : Int32) (f_0 : Nat → Int32) (f_1 : Nat → Int32) (f_2 : Nat → Int32) (f_3 : Nat → Int32) (f_4 : Nat → Int32) (f_5 : Nat → Int32) (f_6 : Nat → Int32) (f_7 : Nat → Int32) (f_8 : Nat → Int32) (f_9 : Nat → Int32) (h0 : mm_rg i_0 0 2) (h1 : mm_rg i_1 0 1000000000) (h2 : mm_rg i_2 0 5) (h3 : mm_rg i_3 0 7) (h4 : mm_rg i_14 0 8) (h5 : mm_rg i_21 0 601) (h6 : mm_rg i_22 0 601) (h7 : mm_rg i_23 0 601) (h8 : mm_rg i_24 0 601) (h9 : mm_rg i_25 0 601) (h10 : mm_rg i_26 0 10) (h11 : mm_rg i_27 0 99) (h12 : mm_rg i_28 0 9) (h13 : mm_rg i_29 0 3) (h14 : mm_rg i_30 0 6) (h15 : mm_rg i_31 0 30) (h16 : mm_rg i_32 0 10) (h17 : mm_rg i_33 0 99) (h18 : mm_rg i_34 0 9) (h19 : mm_rg i_35 0 3) (h20 : mm_rg i_36 0 6) (h21 : mm_rg i_37 0 30) (h22 : mm_rg i_38 0 10) (h23 : mm_rg i_39 0 99) (h24 : mm_rg i_40 0 9) (h25 : mm_rg i_41 0 3) (h26 : mm_rg i_42 0 6) (h27 : mm_rg i_43 0 30) (h28 : mm_rg i_44 0 10) (h29 : mm_rg i_45 0 99) (h30 : mm_rg i_46 0 9) (h31 : mm_rg i_47 0 3) (h32 : mm_rg i_48 0 6) (h33 : mm_rg i_49 0 30) (h34 : mm_rg i_50 0 10) (h35 : mm_rg i_51 0 99) (h36 : mm_rg i_52 0 9) (h37 : mm_rg i_53 0 3) (h38 : mm_rg i_54 0 6) (h39 : mm_rg i_55 0 30) (h40 : mm_ar f_0 0 99) (h41 : mm_ar f_1 0 7) (h42 : mm_ar f_2 0 9) (h43 : mm_ar f_3 0 8) (h44 : mm_ar f_4 0 9) (h45 : mm_ar f_5 (-1) 99) (h46 : mm_ar f_6 0 9) (h47 : mm_ar f_7 0 210) (h48 : mm_ar f_8 0 210) (h49 : mm_ar f_9 0 9) (h50 : mm_rls f_1 f_2 0 i_28 i_29) (h51 : mm_txs f_3 f_4 0 i_28 i_30) (h52 : mm_acs f_5 0 i_28 i_29 i_31) (h53 : mm_tl i_21 i_29 i_30) (h54 : mm_rls f_1 f_2 1 i_34 i_35) (h55 : mm_txs f_3 f_4 1 i_34 i_36) (h56 : mm_acs f_5 1 i_34 i_35 i_37) (h57 : mm_tl i_22 i_35 i_36) (h58 : mm_rls f_1 f_2 2 i_40 i_41) (h59 : mm_txs f_3 f_4 2 i_40 i_42) (h60 : mm_acs f_5 2 i_40 i_41 i_43) (h61 : mm_tl i_23 i_41 i_42) (h62 : mm_rls f_1 f_2 3 i_46 i_47) (h63 : mm_txs f_3 f_4 3 i_46 i_48) (h64 : mm_acs f_5 3 i_46 i_47 i_49) (h65 : mm_tl i_24 i_47 i_48) (h66 : (i_0 : Int32).toInt < (i_29 : Int32).toInt)  : mm_CL l yX12_weightOf (mm_ws yX12_weightOf cX12_weightOf 13 (some .long)) ({ frames := 14, cells := 0, slots := 0, locals := 300 } : Room) G cy sz [(a_0, .inr (12, [.int i_4, .ref a_1, .ref a_2, .ref a_3, .ref a_4, .ref a_5, .int i_5, .int i_6, .int i_7, .int i_8, .int i_9, .long j_0, .int i_10, .int i_11, .int i_12, .int i_13, .ref a_6, .ref a_7, .ref a_8, .ref a_9, .ref a_10, .ref a_11, .ref a_12, .ref a_13, .ref a_14, .ref a_15, .ref a_16, .ref a_17, .ref a_18, .int i_14, .int i_15, .int i_16, .int i_17, .int i_18, .int i_19, .ref a_19, .int i_20, .ref a_20])), (a_6, .inl (cy 1, 5, .inl (mm_g [i_21, i_22, i_23, i_24, i_25]))), (a_7, .inl (cy 1, 30, .inl (mm_g [i_26, i_27, i_28, i_29, i_30, i_31, i_32, i_33, i_34, i_35, i_36, i_37, i_38, i_39, i_40, i_41, i_42, i_43, i_44, i_45, i_46, i_47, i_48, i_49, i_50, i_51, i_52, i_53, i_54, i_55]))), (a_8, .inl (cy 1, 90, .inl f_0)), (a_9, .inl (cy 1, 15, .inl f_1)), (a_10, .inl (cy 1, 1050, .inl f_2)), (a_11, .inl (cy 1, 30, .inl f_3)), (a_12, .inl (cy 1, 240, .inl f_4)), (a_13, .inl (cy 1, 450, .inl f_5)), (a_15, .inl (cy 1, 7200, .inl f_6)), (a_16, .inl (cy 1, 3, .inl f_7)), (a_17, .inl (cy 1, 3, .inl f_8)), (a_18, .inl (cy 1, 8, .inl f_9))] [.ref a_0, .int i_0, .int i_1, .int i_2, .int i_3, .int 0] (fun u : Int32 × Int32 × Int32 × (Nat → Int32) × (Nat → Int32) × (Nat → Int32) × (Nat → Int32) => [(a_0, .inr (12, [.int i_4, .ref a_1, .ref a_2, .ref a_3, .ref a_4, .ref a_5, .int i_5, .int i_6, .int i_7, .int i_8, .int i_9, .long j_0, .int i_10, .int i_11, .int i_12, .int i_13, .ref a_6, .ref a_7, .ref a_8, .ref a_9, .ref a_10, .ref a_11, .ref a_12, .ref a_13, .ref a_14, .ref a_15, .ref a_16, .ref a_17, .ref a_18, .int u.1, .int u.2.1, .int u.2.2.1, .int i_17, .int i_18, .int i_19, .ref a_19, .int i_20, .ref a_20])), (a_6, .inl (cy 1, 5, .inl (mm_g [i_21, i_22, i_23, i_24, i_25]))), (a_7, .inl (cy 1, 30, .inl (mm_g [i_26, i_27, i_28, i_29, i_30, i_31, i_32, i_33, i_34, i_35, i_36, i_37, i_38, i_39, i_40, i_41, i_42, i_43, i_44, i_45, i_46, i_47, i_48, i_49, i_50, i_51, i_52, i_53, i_54, i_55]))), (a_8, .inl (cy 1, 90, .inl f_0)), (a_9, .inl (cy 1, 15, .inl f_1)), (a_10, .inl (cy 1, 1050, .inl f_2)), (a_11, .inl (cy 1, 30, .inl f_3)), (a_12, .inl (cy 1, 240, .inl f_4)), (a_13, .inl (cy 1, 450, .inl f_5)), (a_15, .inl (cy 1, 7200, .inl u.2.2.2.1)), (a_16, .inl (cy 1, 3, .inl u.2.2.2.2.1)), (a_17, .inl (cy 1, 3, .inl u.2.2.2.2.2.1)), (a_18, .inl (cy 1, 8, .inl u.2.2.2.2.2.2))]) (fun (r : Int64) (u : Int32 × Int32 × Int32 × (Nat → Int32) × (Nat → Int32) × (Nat → Int32) × (Nat → Int32)) => mm_rg u.1 0 8 ∧ mm_ar u.2.2.2.1 0 9 ∧ mm_ar u.2.2.2.2.1 0 210 ∧ mm_ar u.2.2.2.2.2.1 0 210 ∧ mm_ar u.2.2.2.2.2.2 0 9 ∧ mm_rl r 0 12798720000000) 0 0 := by
  refine mm_begin (lv := [(0, .ref a_0), (1, .int i_0), (2, .int i_1), (3, .int i_2), (4, .int i_3), (5, .int 0)]) (by decide) (Nat.le_of_ble_eq_true rfl) rfl ?_
  intro p e s m below meth c A ls R args Q H locs hRe hQ hAe hx hb hr hlocks hml hown hnm hts hsz hA hS hP hK hD hZ hl
  have hRf : R.frames = 14 := by rw [hRe]
  have hRl : R.locals = 300 := by rw [hRe]
  have hRc : R.cells = 0 := by rw [hRe]
  have hRs : R.slots = 0 := by rw [hRe]
  have q1 := mm_ltR (lo := 1) h66 h0 h13 (by decide)
  have q2 : mm_rg i_21 1 601 := mm_tl_3 h53 q1 h5 (by decide)
  refine lv_aload_n hx hb dX12_weightOf_0 rfl (lv_at hl 0 rfl) ?_
  refine mm_finv (va_runV (As := []) (rest := []) ⟨hx, hb, hml, hown, hts⟩ (M125_X12_lays l G cy H.size a_0 i_4 a_1 a_2 a_3 a_4 a_5 i_5 i_6 i_7 i_8 i_9 j_0 i_10 i_11 i_12 i_13 a_6 a_7 a_8 a_9 a_10 a_11 a_12 a_13 a_14 a_15 a_16 a_17 a_18 i_14 i_15 i_16 i_17 i_18 i_19 a_19 i_20 a_20 i_21 i_22 i_23 i_24 i_25 i_26 i_27 i_28 i_29 i_30 i_31 i_32 i_33 i_34 i_35 i_36 i_37 i_38 i_39 i_40 i_41 i_42 i_43 i_44 i_45 i_46 i_47 i_48 i_49 i_50 i_51 i_52 i_53 i_54 i_55 f_1 f_2 f_5 f_6 f_7 f_8 (mm_wk q2 (by decide)) h6 h7 h8 h9 h10 h11 h12 (mm_wk q1 (by decide)) h14 h15 h16 h17 h18 h19 h20 h21 h22 h23 h24 h25 h26 h27 h28 h29 h30 h31 h32 h33 h34 h35 h36 h37 h38 h39 h41 h42 h45 h46 h47 h48 h50 h52 h53 h54 h56 h57 h58 h60 h61 h62 h64 h65) (cwV 0 hts (mm_gV mm_w686 mm_w687 mm_w688 mm_w5 mm_w689) rfl rfl rfl hd_X12_lays ⟨by rw [hRf]; exact Nat.le_of_ble_eq_true rfl, by rw [hRl]; exact Nat.le_of_ble_eq_true rfl⟩) (mm_preV hK hZ hS hA hP hD [0, 1, 2, 4, 5, 8, 9, 10, 11] rfl rfl 0 rfl rfl rfl) rfl rfl hl.1 rfl (lv_room (Nat.le_of_ble_eq_true rfl)) dX12_weightOf_1 ⟨by rw [hRc]; exact Nat.le_of_ble_eq_true rfl, by rw [hRs]; exact Nat.le_of_ble_eq_true rfl⟩) hP hD hS hA (fun u : (Nat → Int32) × (Nat → Int32) × (Nat → Int32) => [(a_0, .inr (12, [.int i_4, .ref a_1, .ref a_2, .ref a_3, .ref a_4, .ref a_5, .int i_5, .int i_6, .int i_7, .int i_8, .int i_9, .long j_0, .int i_10, .int i_11, .int i_12, .int i_13, .ref a_6, .ref a_7, .ref a_8, .ref a_9, .ref a_10, .ref a_11, .ref a_12, .ref a_13, .ref a_14, .ref a_15, .ref a_16, .ref a_17, .ref a_18, .int i_14, .int i_15, .int i_16, .int i_17, .int i_18, .int i_19, .ref a_19, .int i_20, .ref a_20])), (a_6, .inl (cy 1, 5, .inl (mm_g [i_21, i_22, i_23, i_24, i_25]))), (a_7, .inl (cy 1, 30, .inl (mm_g [i_26, i_27, i_28, i_29, i_30, i_31, i_32, i_33, i_34, i_35, i_36, i_37, i_38, i_39, i_40, i_41, i_42, i_43, i_44, i_45, i_46, i_47, i_48, i_49, i_50, i_51, i_52, i_53, i_54, i_55]))), (a_8, .inl (cy 1, 90, .inl f_0)), (a_9, .inl (cy 1, 15, .inl f_1)), (a_10, .inl (cy 1, 1050, .inl f_2)), (a_11, .inl (cy 1, 30, .inl f_3)), (a_12, .inl (cy 1, 240, .inl f_4)), (a_13, .inl (cy 1, 450, .inl f_5)), (a_15, .inl (cy 1, 7200, .inl u.1)), (a_16, .inl (cy 1, 3, .inl u.2.1)), (a_17, .inl (cy 1, 3, .inl u.2.2)), (a_18, .inl (cy 1, 8, .inl f_9))]) [0, 1, 2, 4, 5, 8, 9, 10, 11] [3, 6, 7, 12] (n := 13) (fun _ => rfl) (by decide +kernel) (by decide +kernel) rfl (fun _ => rfl) (wr := [(a_8, .inl (cy 1, 90, .inl f_0)), (a_11, .inl (cy 1, 30, .inl f_3)), (a_12, .inl (cy 1, 240, .inl f_4)), (a_18, .inl (cy 1, 8, .inl f_9))]) rfl (fun _ => rfl) (fun _ => @rfl _ ([a_0, a_6, a_7, a_9, a_10, a_13, a_15, a_16, a_17] : List Nat)) ?_
  clear hP hD hS
  clear H locs
  intro u
  obtain ⟨n3, n4, n5⟩ := u
  intro H locs hw (hP : va_P G vwCl [(a_0, .inr (12, [.int i_4, .ref a_1, .ref a_2, .ref a_3, .ref a_4, .ref a_5, .int i_5, .int i_6, .int i_7, .int i_8, .int i_9, .long j_0, .int i_10, .int i_11, .int i_12, .int i_13, .ref a_6, .ref a_7, .ref a_8, .ref a_9, .ref a_10, .ref a_11, .ref a_12, .ref a_13, .ref a_14, .ref a_15, .ref a_16, .ref a_17, .ref a_18, .int i_14, .int i_15, .int i_16, .int i_17, .int i_18, .int i_19, .ref a_19, .int i_20, .ref a_20])), (a_6, .inl (cy 1, 5, .inl (mm_g [i_21, i_22, i_23, i_24, i_25]))), (a_7, .inl (cy 1, 30, .inl (mm_g [i_26, i_27, i_28, i_29, i_30, i_31, i_32, i_33, i_34, i_35, i_36, i_37, i_38, i_39, i_40, i_41, i_42, i_43, i_44, i_45, i_46, i_47, i_48, i_49, i_50, i_51, i_52, i_53, i_54, i_55]))), (a_8, .inl (cy 1, 90, .inl f_0)), (a_9, .inl (cy 1, 15, .inl f_1)), (a_10, .inl (cy 1, 1050, .inl f_2)), (a_11, .inl (cy 1, 30, .inl f_3)), (a_12, .inl (cy 1, 240, .inl f_4)), (a_13, .inl (cy 1, 450, .inl f_5)), (a_15, .inl (cy 1, 7200, .inl n3)), (a_16, .inl (cy 1, 3, .inl n4)), (a_17, .inl (cy 1, 3, .inl n5)), (a_18, .inl (cy 1, 8, .inl f_9))] H) (hD : va_D A [(a_0, .inr (12, [.int i_4, .ref a_1, .ref a_2, .ref a_3, .ref a_4, .ref a_5, .int i_5, .int i_6, .int i_7, .int i_8, .int i_9, .long j_0, .int i_10, .int i_11, .int i_12, .int i_13, .ref a_6, .ref a_7, .ref a_8, .ref a_9, .ref a_10, .ref a_11, .ref a_12, .ref a_13, .ref a_14, .ref a_15, .ref a_16, .ref a_17, .ref a_18, .int i_14, .int i_15, .int i_16, .int i_17, .int i_18, .int i_19, .ref a_19, .int i_20, .ref a_20])), (a_6, .inl (cy 1, 5, .inl (mm_g [i_21, i_22, i_23, i_24, i_25]))), (a_7, .inl (cy 1, 30, .inl (mm_g [i_26, i_27, i_28, i_29, i_30, i_31, i_32, i_33, i_34, i_35, i_36, i_37, i_38, i_39, i_40, i_41, i_42, i_43, i_44, i_45, i_46, i_47, i_48, i_49, i_50, i_51, i_52, i_53, i_54, i_55]))), (a_8, .inl (cy 1, 90, .inl f_0)), (a_9, .inl (cy 1, 15, .inl f_1)), (a_10, .inl (cy 1, 1050, .inl f_2)), (a_11, .inl (cy 1, 30, .inl f_3)), (a_12, .inl (cy 1, 240, .inl f_4)), (a_13, .inl (cy 1, 450, .inl f_5)), (a_15, .inl (cy 1, 7200, .inl n3)), (a_16, .inl (cy 1, 3, .inl n4)), (a_17, .inl (cy 1, 3, .inl n5)), (a_18, .inl (cy 1, 8, .inl f_9))]) hS
  obtain ⟨w6, w7, w8, w9, w10⟩ := hw
  replace w9 : mm_laid n4 n5 i_29 := w9
  replace w10 : mm_tab n3 n4 i_28 i_29 := w10
  refine lv_lconst (v := 0) hx hb dX12_weightOf_4 (by decide) ?_
  refine lv_lstore (lv' := [(6, .long 0), (0, .ref a_0), (1, .int i_0), (2, .int i_1), (3, .int i_2), (4, .int i_3), (5, .int 0)]) hx hb dX12_weightOf_5 hl (by decide) rfl ?_
  clear hl
  clear ls
  intro ls hl
  refine lv_iconst (v := 0) hx hb dX12_weightOf_7 (by decide) ?_
  refine lv_istore (lv' := [(8, .int 0), (6, .long 0), (0, .ref a_0), (1, .int i_0), (2, .int i_1), (3, .int i_2), (4, .int i_3), (5, .int 0)]) hx hb dX12_weightOf_8 hl (by decide) rfl ?_
  clear hl
  clear ls
  intro ls hl
  have L10_702 : ∀ (n : Nat) (x10_8_696 : Int32) (x10_6_697 : Int64) (y10_0_29_698 : Int32) (y10_0_30_699 : Int32) (y10_0_31_700 : Int32) (z10_12_701 : Nat → Int32), mm_rg x10_8_696 0 128 → mm_rl x10_6_697 0 12798720000000 → mm_rg y10_0_29_698 0 8 → mm_ar z10_12_701 0 9 → mm_sv 99990000000 x10_8_696 x10_6_697 → (128 - x10_8_696.toInt).toNat < n → ∀ (H : Heap) (locs : List Loc), va_P G vwCl [(a_0, .inr (12, [.int i_4, .ref a_1, .ref a_2, .ref a_3, .ref a_4, .ref a_5, .int i_5, .int i_6, .int i_7, .int i_8, .int i_9, .long j_0, .int i_10, .int i_11, .int i_12, .int i_13, .ref a_6, .ref a_7, .ref a_8, .ref a_9, .ref a_10, .ref a_11, .ref a_12, .ref a_13, .ref a_14, .ref a_15, .ref a_16, .ref a_17, .ref a_18, .int y10_0_29_698, .int y10_0_30_699, .int y10_0_31_700, .int i_17, .int i_18, .int i_19, .ref a_19, .int i_20, .ref a_20])), (a_6, .inl (cy 1, 5, .inl (mm_g [i_21, i_22, i_23, i_24, i_25]))), (a_7, .inl (cy 1, 30, .inl (mm_g [i_26, i_27, i_28, i_29, i_30, i_31, i_32, i_33, i_34, i_35, i_36, i_37, i_38, i_39, i_40, i_41, i_42, i_43, i_44, i_45, i_46, i_47, i_48, i_49, i_50, i_51, i_52, i_53, i_54, i_55]))), (a_8, .inl (cy 1, 90, .inl f_0)), (a_9, .inl (cy 1, 15, .inl f_1)), (a_10, .inl (cy 1, 1050, .inl f_2)), (a_11, .inl (cy 1, 30, .inl f_3)), (a_12, .inl (cy 1, 240, .inl f_4)), (a_13, .inl (cy 1, 450, .inl f_5)), (a_15, .inl (cy 1, 7200, .inl n3)), (a_16, .inl (cy 1, 3, .inl n4)), (a_17, .inl (cy 1, 3, .inl n5)), (a_18, .inl (cy 1, 8, .inl z10_12_701))] H → va_D A [(a_0, .inr (12, [.int i_4, .ref a_1, .ref a_2, .ref a_3, .ref a_4, .ref a_5, .int i_5, .int i_6, .int i_7, .int i_8, .int i_9, .long j_0, .int i_10, .int i_11, .int i_12, .int i_13, .ref a_6, .ref a_7, .ref a_8, .ref a_9, .ref a_10, .ref a_11, .ref a_12, .ref a_13, .ref a_14, .ref a_15, .ref a_16, .ref a_17, .ref a_18, .int y10_0_29_698, .int y10_0_30_699, .int y10_0_31_700, .int i_17, .int i_18, .int i_19, .ref a_19, .int i_20, .ref a_20])), (a_6, .inl (cy 1, 5, .inl (mm_g [i_21, i_22, i_23, i_24, i_25]))), (a_7, .inl (cy 1, 30, .inl (mm_g [i_26, i_27, i_28, i_29, i_30, i_31, i_32, i_33, i_34, i_35, i_36, i_37, i_38, i_39, i_40, i_41, i_42, i_43, i_44, i_45, i_46, i_47, i_48, i_49, i_50, i_51, i_52, i_53, i_54, i_55]))), (a_8, .inl (cy 1, 90, .inl f_0)), (a_9, .inl (cy 1, 15, .inl f_1)), (a_10, .inl (cy 1, 1050, .inl f_2)), (a_11, .inl (cy 1, 30, .inl f_3)), (a_12, .inl (cy 1, 240, .inl f_4)), (a_13, .inl (cy 1, 450, .inl f_5)), (a_15, .inl (cy 1, 7200, .inl n3)), (a_16, .inl (cy 1, 3, .inl n4)), (a_17, .inl (cy 1, 3, .inl n5)), (a_18, .inl (cy 1, 8, .inl z10_12_701))] → va_S A s.heap H locs → ∀ (ls : Array Slot), lv_has ls 13 [(8, .int x10_8_696), (6, .long x10_6_697), (0, .ref a_0), (1, .int i_0), (2, .int i_1), (3, .int i_2), (4, .int i_3), (5, .int 0)] → W p l e R s m args below meth c H locs 0 0 Q (F0 m 10 ls []) := by
    intro n
    induction n with
    | zero => intro x10_8_696 x10_6_697 y10_0_29_698 y10_0_30_699 y10_0_31_700 z10_12_701 rx10_8_696 rx10_6_697 ry10_0_29_698 rz10_12_701 w702 hm; exact absurd hm (Nat.not_lt_zero _)
    | succ n ih10 =>
      intro x10_8_696 x10_6_697 y10_0_29_698 y10_0_30_699 y10_0_31_700 z10_12_701 rx10_8_696 rx10_6_697 ry10_0_29_698 rz10_12_701 w702 hm10 H locs hP hD hS ls hl
      refine lv_iload hx hb dX12_weightOf_10 (lv_at hl 0 rfl) ?_
      refine lv_iconst (v := 1) hx hb dX12_weightOf_12 (by decide) ?_
      refine lv_iload hx hb dX12_weightOf_13 (lv_at hl 6 rfl) ?_
      refine lv_ishl hx hb dX12_weightOf_15 ?_
      refine lv_topi (fun v704 ev704 => ?_)
      have rv704 : mm_rg v704 1 128 := mm_shl1 ev704 h3 (by decide)
      refine lv_icmp_ge (tgt := 111) hx hb dX12_weightOf_16 (by decide) (fun c705 => ?_) (fun c705 => ?_)
      · have q706 := mm_leR (mm_le c705) rv704 rx10_8_696
        refine lv_lload hx hb dX12_weightOf_111 (lv_at hl 1 rfl) ?_
        subst hAe
        rw [hQ]
        exact W.lret (v := x10_6_697) hx hb hr (fun t ht hW => ⟨⟨x10_6_697, (y10_0_29_698, y10_0_30_699, y10_0_31_700, n3, n4, n5, z10_12_701), rfl, ⟨ry10_0_29_698, w6, w7, w8, rz10_12_701, rx10_6_697⟩, by rw [ht]; exact hP, hK.warm hW, hD⟩, hS.F ht⟩) hS.2.2 dX12_weightOf_113
      · have q707 := mm_ltL (h := 127) (mm_nle c705) rx10_8_696 rv704 (by decide)
        have q708 : mm_rl x10_6_697 0 12698730000000 := mm_sv_rl w702 q707 (by decide)
        refine lv_iload hx hb dX12_weightOf_19 (lv_at hl 0 rfl) ?_
        refine mm_finir (va_runS (As := [.int x10_8_696]) (rest := []) ⟨hx, hb, hml, hown, hts⟩ (M244_X12_sizeOf l G cy H.size x10_8_696 q707) (va_cwS 1 hts (mm_gS mm_w1520 mm_w1521 mm_w5 mm_w1522) rfl rfl rfl hs_X12_sizeOf ⟨by rw [hRf]; exact Nat.le_of_ble_eq_true rfl, by rw [hRl]; exact Nat.le_of_ble_eq_true rfl⟩) (mm_preS hK hZ hS hA hP hD [] rfl rfl) rfl rfl hl.1 rfl (lv_room (Nat.le_of_ble_eq_true rfl)) dX12_weightOf_21 ⟨by rw [hRc]; exact Nat.le_of_ble_eq_true rfl, by rw [hRs]; exact Nat.le_of_ble_eq_true rfl⟩) hP hD hS hA [] rfl (fun _ => rfl) ?_
        clear hP hD hS
        clear H locs
        intro v709 _u H locs hw hP hD hS
        obtain ⟨w710, w711⟩ := hw
        have w712 := mm_pcn_le w711 (mm_nle c705) ev704 h3 q707 (by decide)
        refine lv_istore (lv' := [(9, .int v709), (8, .int x10_8_696), (6, .long x10_6_697), (0, .ref a_0), (1, .int i_0), (2, .int i_1), (3, .int i_2), (4, .int i_3), (5, .int 0)]) hx hb dX12_weightOf_24 hl (by decide) rfl ?_
        clear hl
        clear ls
        intro ls hl
        refine lv_aload_n hx hb dX12_weightOf_26 rfl (lv_at hl 3 rfl) ?_
        refine va_get (D := G) (ci := 12) (v := .ref a_7) (C := RX12) (T := TX12) (N := 38) hx hb hts (mm_i inlX12) hown hK.1 hP 0 rfl rfl 17 (by decide) (mm_h hts mm_w149) (fun _ h9 => h9) rfl dX12_weightOf_27 ?_
        refine lv_iconst (v := 0) hx hb dX12_weightOf_30 (by decide) ?_
        refine va_iald hx hb hK.1 hP 2 1 rfl rfl (mm_in mm_k0 (by decide)) dX12_weightOf_31 ?_
        rw [show (mm_g [i_26, i_27, i_28, i_29, i_30, i_31, i_32, i_33, i_34, i_35, i_36, i_37, i_38, i_39, i_40, i_41, i_42, i_43, i_44, i_45, i_46, i_47, i_48, i_49, i_50, i_51, i_52, i_53, i_54, i_55]) (0 : Int32).toNatClampNeg = i_26 from mm_ge 0 (by decide) rfl]
        obtain ⟨v713, ev713⟩ : ∃ y : Int64, y = i_26.toInt64 := ⟨_, rfl⟩
        refine lv_i2l hx hb dX12_weightOf_32 ev713.symm ?_
        have rv713 : mm_rl v713 0 10 := mm_i2l ev713 h10
        refine lv_iload hx hb dX12_weightOf_33 (lv_at hl 0 rfl) ?_
        refine mm_finlr (va_runS (As := [.long v713, .int v709]) (rest := []) ⟨hx, hb, hml, hown, hts⟩ (M252_X12_power l G cy H.size v713 v709 rv713 w710) (va_cwS 2 hts (mm_gS mm_w1523 mm_w1524 mm_w5 mm_w1525) rfl rfl rfl hs_X12_power ⟨by rw [hRf]; exact Nat.le_of_ble_eq_true rfl, by rw [hRl]; exact Nat.le_of_ble_eq_true rfl⟩) (mm_preS hK hZ hS hA hP hD [] rfl rfl) rfl rfl hl.1 rfl (lv_room (Nat.le_of_ble_eq_true rfl)) dX12_weightOf_35 ⟨by rw [hRc]; exact Nat.le_of_ble_eq_true rfl, by rw [hRs]; exact Nat.le_of_ble_eq_true rfl⟩) hP hD hS hA [] rfl (fun _ => rfl) ?_
        clear hP hD hS
        clear H locs
        intro v714 _u H locs hw hP hD hS
        obtain ⟨w715, w716⟩ := hw
        refine lv_ldc2 (v := 10) hx hb hown (mm_h hts mm_w1511) dX12_weightOf_38 ?_
        refine lv_aload_n hx hb dX12_weightOf_41 rfl (lv_at hl 3 rfl) ?_
        refine va_get (D := G) (ci := 12) (v := .ref a_7) (C := RX12) (T := TX12) (N := 38) hx hb hts (mm_i inlX12) hown hK.1 hP 0 rfl rfl 17 (by decide) (mm_h hts mm_w149) (fun _ h9 => h9) rfl dX12_weightOf_42 ?_
        refine lv_iconst (v := 0) hx hb dX12_weightOf_45 (by decide) ?_
        refine va_iald hx hb hK.1 hP 2 1 rfl rfl (mm_in mm_k0 (by decide)) dX12_weightOf_46 ?_
        rw [show (mm_g [i_26, i_27, i_28, i_29, i_30, i_31, i_32, i_33, i_34, i_35, i_36, i_37, i_38, i_39, i_40, i_41, i_42, i_43, i_44, i_45, i_46, i_47, i_48, i_49, i_50, i_51, i_52, i_53, i_54, i_55]) (0 : Int32).toNatClampNeg = i_26 from mm_ge 0 (by decide) rfl]
        obtain ⟨v717, ev717⟩ : ∃ y : Int64, y = i_26.toInt64 := ⟨_, rfl⟩
        refine lv_i2l hx hb dX12_weightOf_47 ev717.symm ?_
        have rv717 : mm_rl v717 0 10 := mm_i2l ev717 h10
        refine lv_lsub hx hb dX12_weightOf_48 ?_
        refine lv_topl (fun v718 ev718 => ?_)
        have rv718 : mm_rl v718 0 10 := mm_subl ev718 mm_kl10 rv717 (by decide) (by decide)
        refine lv_iload hx hb dX12_weightOf_49 (lv_at hl 7 rfl) ?_
        refine lv_iload hx hb dX12_weightOf_51 (lv_at hl 0 rfl) ?_
        refine lv_isub hx hb dX12_weightOf_53 ?_
        refine lv_topi (fun v719 ev719 => ?_)
        have rv719 : mm_rg v719 (-7) 7 := mm_sub ev719 h3 w710 (by decide) (by decide)
        have tv719 := mm_subE ev719 h3 w710 (by decide)
        have q720 : mm_rg v719 0 7 := mm_sub0 ev719 w712 h3 w710 (by decide)
        refine mm_finlr (va_runS (As := [.long v718, .int v719]) (rest := [.long v714]) ⟨hx, hb, hml, hown, hts⟩ (M252_X12_power l G cy H.size v718 v719 rv718 q720) (va_cwS 2 hts (mm_gS mm_w1523 mm_w1524 mm_w5 mm_w1525) rfl rfl rfl hs_X12_power ⟨by rw [hRf]; exact Nat.le_of_ble_eq_true rfl, by rw [hRl]; exact Nat.le_of_ble_eq_true rfl⟩) (mm_preS hK hZ hS hA hP hD [] rfl rfl) rfl rfl hl.1 rfl (lv_room (Nat.le_of_ble_eq_true rfl)) dX12_weightOf_54 ⟨by rw [hRc]; exact Nat.le_of_ble_eq_true rfl, by rw [hRs]; exact Nat.le_of_ble_eq_true rfl⟩) hP hD hS hA [] rfl (fun _ => rfl) ?_
        clear hP hD hS
        clear H locs
        intro v721 _u H locs hw hP hD hS
        obtain ⟨w722, w723⟩ := hw
        refine lv_lmul hx hb dX12_weightOf_57 ?_
        refine lv_topl (fun v724 ev724 => ?_)
        have rv724 : mm_rl v724 0 100000000000000 := mm_mull ev724 w715 w722 (by decide) (by decide)
        have q725 : mm_rl v724 0 10000000 := mm_pw_mul w716 w723 tv719 ev724 h3 w710 q720 (by decide)
        refine lv_lstore (lv' := [(10, .long v724), (9, .int v709), (8, .int x10_8_696), (6, .long x10_6_697), (0, .ref a_0), (1, .int i_0), (2, .int i_1), (3, .int i_2), (4, .int i_3), (5, .int 0)]) hx hb dX12_weightOf_58 hl (by decide) rfl ?_
        clear hl
        clear ls
        intro ls hl
        refine lv_aload_n hx hb dX12_weightOf_60 rfl (lv_at hl 4 rfl) ?_
        refine lv_iload_n hx hb dX12_weightOf_61 rfl (lv_at hl 5 rfl) ?_
        refine lv_iload_n hx hb dX12_weightOf_62 rfl (lv_at hl 6 rfl) ?_
        refine lv_iload hx hb dX12_weightOf_63 (lv_at hl 1 rfl) ?_
        refine lv_iadd hx hb dX12_weightOf_65 ?_
        refine lv_topi (fun v726 ev726 => ?_)
        have rv726 : mm_rg v726 0 1000000007 := mm_add ev726 h1 w710 (by decide) (by decide)
        have tv726 := mm_addE ev726 h1 w710 (by decide)
        refine lv_iload_n hx hb dX12_weightOf_66 rfl (lv_at hl 7 rfl) ?_
        refine mm_fini (va_runV (As := [.int i_0, .int v726, .int i_2]) (rest := []) ⟨hx, hb, hml, hown, hts⟩ (M141_X12_reads l G cy H.size a_0 i_0 v726 i_2 i_4 a_1 a_2 a_3 a_4 a_5 i_5 i_6 i_7 i_8 i_9 j_0 i_10 i_11 i_12 i_13 a_6 a_7 a_8 a_9 a_10 a_11 a_12 a_13 a_14 a_15 a_16 a_17 a_18 y10_0_29_698 y10_0_30_699 y10_0_31_700 i_17 i_18 i_19 a_19 i_20 a_20 i_26 i_27 i_28 i_29 i_30 i_31 i_32 i_33 i_34 i_35 i_36 i_37 i_38 i_39 i_40 i_41 i_42 i_43 i_44 i_45 i_46 i_47 i_48 i_49 i_50 i_51 i_52 i_53 i_54 i_55 f_0 f_3 f_4 f_5 n3 n4 z10_12_701 h0 (mm_wk rv726 (by decide)) h2 ry10_0_29_698 h10 h11 h12 (mm_wk q1 (by decide)) h14 h15 h16 h17 h18 h19 h20 h21 h22 h23 h24 h25 h26 h27 h28 h29 h30 h31 h32 h33 h34 h35 h36 h37 h38 h39 h40 h43 h44 h45 w6 w7 rz10_12_701 h51 h52 h55 h56 h59 h60 h63 h64 (mm_f1_l w9 h66 h0 (by decide))) (cwV 3 hts (mm_gV mm_w852 mm_w853 mm_w854 mm_w5 mm_w855) rfl rfl rfl hd_X12_reads ⟨by rw [hRf]; exact Nat.le_of_ble_eq_true rfl, by rw [hRl]; exact Nat.le_of_ble_eq_true rfl⟩) (mm_preV hK hZ hS hA hP hD [0, 2, 3, 6, 7, 8, 9, 10, 12] rfl rfl 0 rfl rfl rfl) rfl rfl hl.1 rfl (lv_room (Nat.le_of_ble_eq_true rfl)) dX12_weightOf_67 ⟨by rw [hRc]; exact Nat.le_of_ble_eq_true rfl, by rw [hRs]; exact Nat.le_of_ble_eq_true rfl⟩) hP hD hS hA (fun u : Int32 × Int32 × Int32 × (Nat → Int32) => [(a_0, .inr (12, [.int i_4, .ref a_1, .ref a_2, .ref a_3, .ref a_4, .ref a_5, .int i_5, .int i_6, .int i_7, .int i_8, .int i_9, .long j_0, .int i_10, .int i_11, .int i_12, .int i_13, .ref a_6, .ref a_7, .ref a_8, .ref a_9, .ref a_10, .ref a_11, .ref a_12, .ref a_13, .ref a_14, .ref a_15, .ref a_16, .ref a_17, .ref a_18, .int u.1, .int u.2.1, .int u.2.2.1, .int i_17, .int i_18, .int i_19, .ref a_19, .int i_20, .ref a_20])), (a_6, .inl (cy 1, 5, .inl (mm_g [i_21, i_22, i_23, i_24, i_25]))), (a_7, .inl (cy 1, 30, .inl (mm_g [i_26, i_27, i_28, i_29, i_30, i_31, i_32, i_33, i_34, i_35, i_36, i_37, i_38, i_39, i_40, i_41, i_42, i_43, i_44, i_45, i_46, i_47, i_48, i_49, i_50, i_51, i_52, i_53, i_54, i_55]))), (a_8, .inl (cy 1, 90, .inl f_0)), (a_9, .inl (cy 1, 15, .inl f_1)), (a_10, .inl (cy 1, 1050, .inl f_2)), (a_11, .inl (cy 1, 30, .inl f_3)), (a_12, .inl (cy 1, 240, .inl f_4)), (a_13, .inl (cy 1, 450, .inl f_5)), (a_15, .inl (cy 1, 7200, .inl n3)), (a_16, .inl (cy 1, 3, .inl n4)), (a_17, .inl (cy 1, 3, .inl n5)), (a_18, .inl (cy 1, 8, .inl u.2.2.2))]) [0, 2, 3, 6, 7, 8, 9, 10, 12] [1, 4, 5, 11] (n := 13) (fun _ => rfl) (by decide +kernel) (by decide +kernel) rfl (fun _ => rfl) (wr := [(a_6, .inl (cy 1, 5, .inl (mm_g [i_21, i_22, i_23, i_24, i_25]))), (a_9, .inl (cy 1, 15, .inl f_1)), (a_10, .inl (cy 1, 1050, .inl f_2)), (a_17, .inl (cy 1, 3, .inl n5))]) rfl (fun _ => rfl) (fun _ => @rfl _ ([a_0, a_7, a_8, a_11, a_12, a_13, a_15, a_16, a_18] : List Nat)) ?_
        clear hP hD hS
        clear H locs
        intro v731 u
        obtain ⟨n727, n728, n729, n730⟩ := u
        intro H locs hw (hP : va_P G vwCl [(a_0, .inr (12, [.int i_4, .ref a_1, .ref a_2, .ref a_3, .ref a_4, .ref a_5, .int i_5, .int i_6, .int i_7, .int i_8, .int i_9, .long j_0, .int i_10, .int i_11, .int i_12, .int i_13, .ref a_6, .ref a_7, .ref a_8, .ref a_9, .ref a_10, .ref a_11, .ref a_12, .ref a_13, .ref a_14, .ref a_15, .ref a_16, .ref a_17, .ref a_18, .int n727, .int n728, .int n729, .int i_17, .int i_18, .int i_19, .ref a_19, .int i_20, .ref a_20])), (a_6, .inl (cy 1, 5, .inl (mm_g [i_21, i_22, i_23, i_24, i_25]))), (a_7, .inl (cy 1, 30, .inl (mm_g [i_26, i_27, i_28, i_29, i_30, i_31, i_32, i_33, i_34, i_35, i_36, i_37, i_38, i_39, i_40, i_41, i_42, i_43, i_44, i_45, i_46, i_47, i_48, i_49, i_50, i_51, i_52, i_53, i_54, i_55]))), (a_8, .inl (cy 1, 90, .inl f_0)), (a_9, .inl (cy 1, 15, .inl f_1)), (a_10, .inl (cy 1, 1050, .inl f_2)), (a_11, .inl (cy 1, 30, .inl f_3)), (a_12, .inl (cy 1, 240, .inl f_4)), (a_13, .inl (cy 1, 450, .inl f_5)), (a_15, .inl (cy 1, 7200, .inl n3)), (a_16, .inl (cy 1, 3, .inl n4)), (a_17, .inl (cy 1, 3, .inl n5)), (a_18, .inl (cy 1, 8, .inl n730))] H) (hD : va_D A [(a_0, .inr (12, [.int i_4, .ref a_1, .ref a_2, .ref a_3, .ref a_4, .ref a_5, .int i_5, .int i_6, .int i_7, .int i_8, .int i_9, .long j_0, .int i_10, .int i_11, .int i_12, .int i_13, .ref a_6, .ref a_7, .ref a_8, .ref a_9, .ref a_10, .ref a_11, .ref a_12, .ref a_13, .ref a_14, .ref a_15, .ref a_16, .ref a_17, .ref a_18, .int n727, .int n728, .int n729, .int i_17, .int i_18, .int i_19, .ref a_19, .int i_20, .ref a_20])), (a_6, .inl (cy 1, 5, .inl (mm_g [i_21, i_22, i_23, i_24, i_25]))), (a_7, .inl (cy 1, 30, .inl (mm_g [i_26, i_27, i_28, i_29, i_30, i_31, i_32, i_33, i_34, i_35, i_36, i_37, i_38, i_39, i_40, i_41, i_42, i_43, i_44, i_45, i_46, i_47, i_48, i_49, i_50, i_51, i_52, i_53, i_54, i_55]))), (a_8, .inl (cy 1, 90, .inl f_0)), (a_9, .inl (cy 1, 15, .inl f_1)), (a_10, .inl (cy 1, 1050, .inl f_2)), (a_11, .inl (cy 1, 30, .inl f_3)), (a_12, .inl (cy 1, 240, .inl f_4)), (a_13, .inl (cy 1, 450, .inl f_5)), (a_15, .inl (cy 1, 7200, .inl n3)), (a_16, .inl (cy 1, 3, .inl n4)), (a_17, .inl (cy 1, 3, .inl n5)), (a_18, .inl (cy 1, 8, .inl n730))]) hS
        obtain ⟨w732, w733, hw⟩ := hw
        obtain ⟨w734, w735⟩ := hw
        replace w735 : mm_rd n3 n4 f_0 f_3 f_4 f_5 i_0 v726 i_2 i_27 i_28 i_31 v731 := w735
        refine lv_istore (lv' := [(12, .int v731), (10, .long v724), (9, .int v709), (8, .int x10_8_696), (6, .long x10_6_697), (0, .ref a_0), (1, .int i_0), (2, .int i_1), (3, .int i_2), (4, .int i_3), (5, .int 0)]) hx hb dX12_weightOf_70 hl (by decide) rfl ?_
        clear hl
        clear ls
        intro ls hl
        refine lv_lload hx hb dX12_weightOf_72 (lv_at hl 4 rfl) ?_
        refine lv_lload hx hb dX12_weightOf_74 (lv_at hl 1 rfl) ?_
        refine lv_iload hx hb dX12_weightOf_76 (lv_at hl 10 rfl) ?_
        refine lv_if_eq (tgt := 86) hx hb dX12_weightOf_78 (by decide) (fun c736 => ?_) (fun c736 => ?_)
        · refine lv_iload hx hb dX12_weightOf_86 (lv_at hl 0 rfl) ?_
          refine lv_aload_n hx hb dX12_weightOf_88 rfl (lv_at hl 5 rfl) ?_
          refine mm_finir (va_runV (As := []) (rest := [.int v731, .long v724, .long x10_6_697]) ⟨hx, hb, hml, hown, hts⟩ (M139_X12_stockNow l G cy H.size a_0 i_4 a_1 a_2 a_3 a_4 a_5 i_5 i_6 i_7 i_8 i_9 j_0 i_10 i_11 i_12 i_13 a_6 a_7 a_8 a_9 a_10 a_11 a_12 a_13 a_14 a_15 a_16 a_17 a_18 n727 n728 n729 i_17 i_18 i_19 a_19 i_20 a_20 i_26 i_27 i_28 i_29 i_30 i_31 i_32 i_33 i_34 i_35 i_36 i_37 i_38 i_39 i_40 i_41 i_42 i_43 i_44 i_45 i_46 i_47 i_48 i_49 i_50 i_51 i_52 i_53 i_54 i_55 f_5 h10 h11 h12 (mm_wk q1 (by decide)) h14 h15 h16 h17 h18 h19 h20 h21 h22 h23 h24 h25 h26 h27 h28 h29 h30 h31 h32 h33 h34 h35 h36 h37 h38 h39 h45 h52 h56 h60 h64) (cwV 0 hts (mm_gV mm_w861 mm_w862 mm_w863 mm_w5 mm_w864) rfl rfl rfl hd_X12_stockNow ⟨by rw [hRf]; exact Nat.le_of_ble_eq_true rfl, by rw [hRl]; exact Nat.le_of_ble_eq_true rfl⟩) (mm_preV hK hZ hS hA hP hD [0, 2, 8] rfl rfl 0 rfl rfl rfl) rfl rfl hl.1 rfl (lv_room (Nat.le_of_ble_eq_true rfl)) dX12_weightOf_89 ⟨by rw [hRc]; exact Nat.le_of_ble_eq_true rfl, by rw [hRs]; exact Nat.le_of_ble_eq_true rfl⟩) hP hD hS hA [0, 2, 8] rfl (fun _ => rfl) ?_
          clear hP hD hS
          clear H locs
          intro v737 _u H locs hw hP hD hS
          obtain ⟨w738, w739⟩ := hw
          refine lv_icmp_le (tgt := 99) hx hb dX12_weightOf_92 (by decide) (fun c740 => ?_) (fun c740 => ?_)
          · have q741 := mm_leL (mm_le c740) w734 w738
            refine lv_iconst (v := 0) hx hb dX12_weightOf_99 (by decide) ?_
            refine lv_i2l (v := 0) hx hb dX12_weightOf_100 (by decide) ?_
            refine lv_lmul hx hb dX12_weightOf_101 ?_
            refine lv_topl (fun v742 ev742 => ?_)
            have rv742 : mm_rl v742 0 0 := mm_mull ev742 q725 mm_kl0 (by decide) (by decide)
            refine lv_ladd hx hb dX12_weightOf_102 ?_
            refine lv_topl (fun v743 ev743 => ?_)
            have rv743 : mm_rl v743 0 12698730000000 := mm_addl ev743 q708 rv742 (by decide) (by decide)
            have tv743 := mm_addlE ev743 q708 rv742 (by decide)
            refine lv_lstore (lv' := [(6, .long v743), (12, .int v731), (10, .long v724), (9, .int v709), (8, .int x10_8_696), (0, .ref a_0), (1, .int i_0), (2, .int i_1), (3, .int i_2), (4, .int i_3), (5, .int 0)]) hx hb dX12_weightOf_103 hl (by decide) rfl ?_
            clear hl
            clear ls
            intro ls hl
            obtain ⟨v744, ev744⟩ : ∃ y : Int32, y = x10_8_696 + 1 := ⟨_, rfl⟩
            refine lv_iinc (v := v744) (lv' := [(8, .int v744), (6, .long v743), (12, .int v731), (10, .long v724), (9, .int v709), (0, .ref a_0), (1, .int i_0), (2, .int i_1), (3, .int i_2), (4, .int i_3), (5, .int 0)]) hx hb dX12_weightOf_105 hl (k := 4) rfl (by rw [ev744]; rfl) (by decide) rfl ?_
            clear hl
            clear ls
            intro ls hl
            have rv744 : mm_rg v744 1 128 := mm_add ev744 q707 mm_k1 (by decide) (by decide)
            have tv744 := mm_addEc ev744 q707 mm_k1 (by decide) (k := 1) (by decide)
            refine lv_goto (tgt := 10) hx hb dX12_weightOf_108 (by decide) ?_
            have w745 : mm_sv 99990000000 v744 v743 := (mm_sv_s w702 tv744 tv743 rv742 (by decide))
            have q746 : mm_rl v743 0 12798720000000 := mm_sv_rl w745 rv744 (by decide)
            exact ih10 v744 v743 n727 n728 n729 n730 (mm_wk rv744 (by decide)) q746 w732 w733 w745 (mm_mu hm10 tv744 (by decide) (rv744).2 (by decide)) H locs hP hD hS ls (lv_sub hl [0, 1, 5, 6, 7, 8, 9, 10] rfl)
          · have q747 := mm_ltR (lo := 1) (mm_nle c740) w738 w734 (by decide)
            refine lv_iconst (v := 1) hx hb dX12_weightOf_95 (by decide) ?_
            refine lv_goto (tgt := 100) hx hb dX12_weightOf_96 (by decide) ?_
            refine lv_i2l (v := 1) hx hb dX12_weightOf_100 (by decide) ?_
            refine lv_lmul hx hb dX12_weightOf_101 ?_
            refine lv_topl (fun v748 ev748 => ?_)
            have rv748 : mm_rl v748 0 10000000 := mm_mull ev748 q725 mm_kl1 (by decide) (by decide)
            refine lv_ladd hx hb dX12_weightOf_102 ?_
            refine lv_topl (fun v749 ev749 => ?_)
            have rv749 : mm_rl v749 0 12698740000000 := mm_addl ev749 q708 rv748 (by decide) (by decide)
            have tv749 := mm_addlE ev749 q708 rv748 (by decide)
            refine lv_lstore (lv' := [(6, .long v749), (12, .int v731), (10, .long v724), (9, .int v709), (8, .int x10_8_696), (0, .ref a_0), (1, .int i_0), (2, .int i_1), (3, .int i_2), (4, .int i_3), (5, .int 0)]) hx hb dX12_weightOf_103 hl (by decide) rfl ?_
            clear hl
            clear ls
            intro ls hl
            obtain ⟨v750, ev750⟩ : ∃ y : Int32, y = x10_8_696 + 1 := ⟨_, rfl⟩
            refine lv_iinc (v := v750) (lv' := [(8, .int v750), (6, .long v749), (12, .int v731), (10, .long v724), (9, .int v709), (0, .ref a_0), (1, .int i_0), (2, .int i_1), (3, .int i_2), (4, .int i_3), (5, .int 0)]) hx hb dX12_weightOf_105 hl (k := 4) rfl (by rw [ev750]; rfl) (by decide) rfl ?_
            clear hl
            clear ls
            intro ls hl
            have rv750 : mm_rg v750 1 128 := mm_add ev750 q707 mm_k1 (by decide) (by decide)
            have tv750 := mm_addEc ev750 q707 mm_k1 (by decide) (k := 1) (by decide)
            refine lv_goto (tgt := 10) hx hb dX12_weightOf_108 (by decide) ?_
            have w751 : mm_sv 99990000000 v750 v749 := (mm_sv_s w702 tv750 tv749 rv748 (by decide))
            have q752 : mm_rl v749 0 12798720000000 := mm_sv_rl w751 rv750 (by decide)
            exact ih10 v750 v749 n727 n728 n729 n730 (mm_wk rv750 (by decide)) q752 w732 w733 w751 (mm_mu hm10 tv750 (by decide) (rv750).2 (by decide)) H locs hP hD hS ls (lv_sub hl [0, 1, 5, 6, 7, 8, 9, 10] rfl)
        · have q753 := mm_neL (lo := 1) (mm_ne c736) mm_k0 mm_k0 (by decide) (by decide)
          exact mm_no q753 (by decide)
  exact L10_702 _ 0 0 i_14 i_15 i_16 f_9 (mm_wk mm_k0 (by decide)) (mm_wkl mm_kl0 (by decide)) h4 h49 (mm_sv_0 _) (Nat.lt_succ_self _) H locs hP hD hS ls (lv_sub hl [0, 1, 2, 3, 4, 5, 6, 7] rfl)

